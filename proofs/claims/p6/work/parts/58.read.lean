abbrev rdC (ad : Nat → Nat) (pl co en ty a9 be tk td : Int) : va_E := oC 9 [.int (zI pl), .int (zI co), .ref (ad 1), .int (zI en), .int (zI ty), .int (zI a9), .int (zI be), .int (zI tk), .int (zI td)]
/-- the reader at work: its code co, the tape tp -/
abbrev okRun (cs : Nat → ClassId) (ad : Nat → Nat) (g : Nat → va_E) (co : Int) (tp : Nat → Int) : Prop := ∃ (pl en ty a9 be tk td : Int), (0 ≤ a9 ∧ a9 ≤ be ∧ be ≤ en ∧ en ≤ 900 ∧ 0 ≤ co ∧ co ≤ 5) ∧ (0 ≤ ty ∧ ty ≤ 5) ∧ g 2 = rdC ad pl co en ty a9 be tk td ∧ g 1 = bA cs 900 tp

set_option maxRecDepth 100000 in
set_option maxHeartbeats 4000000 in
theorem c_X7_typeOf (l : Launch) (D : va_G) (A : Nat → Prop) (cs : Nat → ClassId) (tt : Nat) (N : Nat) (ad : Nat → Nat) (g : Nat → va_E) (z : Int) (hz : -2147483648 ≤ z ∧ z ≤ 2147483647) : zM l yX7_typeOf cX7_typeOf 1 (some .int) ({ frames := 1, cells := 0, slots := 0, locals := 60 } : Room) D A cs tt N ad g [.int (zI (z))] (rI0 N ad fun r g' => (1 ≤ r ∧ r ≤ 5) ∧ g = g') := by
  refine z_of (by decide) (Nat.le_of_ble_eq_true rfl) ?_
  intro p e s m below meth c C hr hlk hnm
  refine z_lv (lv' := [(0, .int (zI (z)))]) [0] rfl ?_
  refine z_iload_n C 0 dX7_typeOf_0 rfl ?_
  refine z_bipush (z := 97) C dX7_typeOf_1 (by decide) ?_
  refine z_icmp_lt (tgt := 14) C dX7_typeOf_3 (by decide) (by omega) (by omega) (fun hby1 => ?_) (fun hby1 => ?_)
  · refine z_iload_n C 0 dX7_typeOf_14 rfl ?_
    refine z_bipush (z := 48) C dX7_typeOf_15 (by decide) ?_
    refine z_icmp_lt (tgt := 28) C dX7_typeOf_17 (by decide) (by omega) (by omega) (fun hby2 => ?_) (fun hby2 => ?_)
    · refine z_iload_n C 0 dX7_typeOf_28 rfl ?_
      refine z_bipush (z := 59) C dX7_typeOf_29 (by decide) ?_
      refine z_icmp_ne (tgt := 38) C dX7_typeOf_31 (by decide) (by omega) (by omega) (fun hby3 => ?_) (fun hby3 => ?_)
      · refine z_iload_n C 0 dX7_typeOf_38 rfl ?_
        refine z_bipush (z := 45) C dX7_typeOf_39 (by decide) ?_
        refine z_icmp_ne (tgt := 48) C dX7_typeOf_41 (by decide) (by omega) (by omega) (fun hby4 => ?_) (fun hby4 => ?_)
        · refine z_iconst (z := 5) C dX7_typeOf_48 rfl ?_
          exact z_iret C hr hlk dX7_typeOf_49 (by decide) (by decide) ⟨5, rfl, rfl, rfl, by omega, rfl⟩
        · refine z_iconst (z := 4) C dX7_typeOf_44 rfl ?_
          refine z_goto (tgt := 49) C dX7_typeOf_45 (by decide) ?_
          exact z_iret C hr hlk dX7_typeOf_49 (by decide) (by decide) ⟨4, rfl, rfl, rfl, by omega, rfl⟩
      · refine z_iconst (z := 3) C dX7_typeOf_34 rfl ?_
        refine z_goto (tgt := 49) C dX7_typeOf_35 (by decide) ?_
        exact z_iret C hr hlk dX7_typeOf_49 (by decide) (by decide) ⟨3, rfl, rfl, rfl, by omega, rfl⟩
    · refine z_iload_n C 0 dX7_typeOf_20 rfl ?_
      refine z_bipush (z := 57) C dX7_typeOf_21 (by decide) ?_
      refine z_icmp_gt (tgt := 28) C dX7_typeOf_23 (by decide) (by omega) (by omega) (fun hby5 => ?_) (fun hby5 => ?_)
      · refine z_iload_n C 0 dX7_typeOf_28 rfl ?_
        refine z_bipush (z := 59) C dX7_typeOf_29 (by decide) ?_
        refine z_icmp_ne (tgt := 38) C dX7_typeOf_31 (by decide) (by omega) (by omega) (fun hby6 => ?_) (fun hby6 => ?_)
        · refine z_iload_n C 0 dX7_typeOf_38 rfl ?_
          refine z_bipush (z := 45) C dX7_typeOf_39 (by decide) ?_
          refine z_icmp_ne (tgt := 48) C dX7_typeOf_41 (by decide) (by omega) (by omega) (fun hby7 => ?_) (fun hby7 => ?_)
          · refine z_iconst (z := 5) C dX7_typeOf_48 rfl ?_
            exact z_iret C hr hlk dX7_typeOf_49 (by decide) (by decide) ⟨5, rfl, rfl, rfl, by omega, rfl⟩
          · refine z_iconst (z := 4) C dX7_typeOf_44 rfl ?_
            refine z_goto (tgt := 49) C dX7_typeOf_45 (by decide) ?_
            exact z_iret C hr hlk dX7_typeOf_49 (by decide) (by decide) ⟨4, rfl, rfl, rfl, by omega, rfl⟩
        · refine z_iconst (z := 3) C dX7_typeOf_34 rfl ?_
          refine z_goto (tgt := 49) C dX7_typeOf_35 (by decide) ?_
          exact z_iret C hr hlk dX7_typeOf_49 (by decide) (by decide) ⟨3, rfl, rfl, rfl, by omega, rfl⟩
      · refine z_iconst (z := 2) C dX7_typeOf_26 rfl ?_
        exact z_iret C hr hlk dX7_typeOf_27 (by decide) (by decide) ⟨2, rfl, rfl, rfl, by omega, rfl⟩
  · refine z_iload_n C 0 dX7_typeOf_6 rfl ?_
    refine z_bipush (z := 122) C dX7_typeOf_7 (by decide) ?_
    refine z_icmp_gt (tgt := 14) C dX7_typeOf_9 (by decide) (by omega) (by omega) (fun hby8 => ?_) (fun hby8 => ?_)
    · refine z_iload_n C 0 dX7_typeOf_14 rfl ?_
      refine z_bipush (z := 48) C dX7_typeOf_15 (by decide) ?_
      refine z_icmp_lt (tgt := 28) C dX7_typeOf_17 (by decide) (by omega) (by omega) (fun hby9 => ?_) (fun hby9 => ?_)
      · refine z_iload_n C 0 dX7_typeOf_28 rfl ?_
        refine z_bipush (z := 59) C dX7_typeOf_29 (by decide) ?_
        refine z_icmp_ne (tgt := 38) C dX7_typeOf_31 (by decide) (by omega) (by omega) (fun hby10 => ?_) (fun hby10 => ?_)
        · refine z_iload_n C 0 dX7_typeOf_38 rfl ?_
          refine z_bipush (z := 45) C dX7_typeOf_39 (by decide) ?_
          refine z_icmp_ne (tgt := 48) C dX7_typeOf_41 (by decide) (by omega) (by omega) (fun hby11 => ?_) (fun hby11 => ?_)
          · refine z_iconst (z := 5) C dX7_typeOf_48 rfl ?_
            exact z_iret C hr hlk dX7_typeOf_49 (by decide) (by decide) ⟨5, rfl, rfl, rfl, by omega, rfl⟩
          · refine z_iconst (z := 4) C dX7_typeOf_44 rfl ?_
            refine z_goto (tgt := 49) C dX7_typeOf_45 (by decide) ?_
            exact z_iret C hr hlk dX7_typeOf_49 (by decide) (by decide) ⟨4, rfl, rfl, rfl, by omega, rfl⟩
        · refine z_iconst (z := 3) C dX7_typeOf_34 rfl ?_
          refine z_goto (tgt := 49) C dX7_typeOf_35 (by decide) ?_
          exact z_iret C hr hlk dX7_typeOf_49 (by decide) (by decide) ⟨3, rfl, rfl, rfl, by omega, rfl⟩
      · refine z_iload_n C 0 dX7_typeOf_20 rfl ?_
        refine z_bipush (z := 57) C dX7_typeOf_21 (by decide) ?_
        refine z_icmp_gt (tgt := 28) C dX7_typeOf_23 (by decide) (by omega) (by omega) (fun hby12 => ?_) (fun hby12 => ?_)
        · refine z_iload_n C 0 dX7_typeOf_28 rfl ?_
          refine z_bipush (z := 59) C dX7_typeOf_29 (by decide) ?_
          refine z_icmp_ne (tgt := 38) C dX7_typeOf_31 (by decide) (by omega) (by omega) (fun hby13 => ?_) (fun hby13 => ?_)
          · refine z_iload_n C 0 dX7_typeOf_38 rfl ?_
            refine z_bipush (z := 45) C dX7_typeOf_39 (by decide) ?_
            refine z_icmp_ne (tgt := 48) C dX7_typeOf_41 (by decide) (by omega) (by omega) (fun hby14 => ?_) (fun hby14 => ?_)
            · refine z_iconst (z := 5) C dX7_typeOf_48 rfl ?_
              exact z_iret C hr hlk dX7_typeOf_49 (by decide) (by decide) ⟨5, rfl, rfl, rfl, by omega, rfl⟩
            · refine z_iconst (z := 4) C dX7_typeOf_44 rfl ?_
              refine z_goto (tgt := 49) C dX7_typeOf_45 (by decide) ?_
              exact z_iret C hr hlk dX7_typeOf_49 (by decide) (by decide) ⟨4, rfl, rfl, rfl, by omega, rfl⟩
          · refine z_iconst (z := 3) C dX7_typeOf_34 rfl ?_
            refine z_goto (tgt := 49) C dX7_typeOf_35 (by decide) ?_
            exact z_iret C hr hlk dX7_typeOf_49 (by decide) (by decide) ⟨3, rfl, rfl, rfl, by omega, rfl⟩
        · refine z_iconst (z := 2) C dX7_typeOf_26 rfl ?_
          exact z_iret C hr hlk dX7_typeOf_27 (by decide) (by decide) ⟨2, rfl, rfl, rfl, by omega, rfl⟩
    · refine z_iconst (z := 1) C dX7_typeOf_12 rfl ?_
      exact z_iret C hr hlk dX7_typeOf_13 (by decide) (by decide) ⟨1, rfl, rfl, rfl, by omega, rfl⟩

set_option maxRecDepth 100000 in
set_option maxHeartbeats 4000000 in
theorem c_X7_peek (l : Launch) (D : va_G) (A : Nat → Prop) (cs : Nat → ClassId) (tt : Nat) (N : Nat) (ad : Nat → Nat) (g : Nat → va_E) (hN : 952 ≤ N) (pl co en ty a9 be tk td : Int) (tp : Nat → Int) (hA : 0 ≤ be ∧ be ≤ en ∧ en ≤ 900 ∧ 0 ≤ co ∧ co ≤ 5) (hg2 : g 2 = rdC ad (pl) (co) (en) (ty) (a9) (be) (tk) (td)) (hg1 : g 1 = bA cs 900 tp) : zM l yX7_peek cX7_peek 1 none ({ frames := 2, cells := 0, slots := 0, locals := 120 } : Room) D A cs tt N ad g [.ref (ad 2)] (rV0 N ad fun g' => okRun cs ad g' co tp ∧ ∀ j, j ≠ 2 → g' j = g j) := by
  have hay1 : zAt ad (2) (ad 2) := rfl
  have hay2 : zAt ad (1) (ad 1) := rfl
  refine z_of (by decide) (Nat.le_of_ble_eq_true rfl) ?_
  intro p e s m below meth c C hr hlk hnm
  refine z_lv (lv' := [(0, .ref (ad 2))]) [0] rfl ?_
  refine z_aload_n C 0 dX7_peek_0 rfl ?_
  refine z_aload_n C 0 dX7_peek_1 rfl ?_
  refine z_get (v := .int (zI (be))) C (lt_K hN (rfl : Nat.blt (2) 952 = true)) hay1 hg2 rfl inA_X7 6 (by decide) q_50 rfl rfl dX7_peek_2 ?_
  refine z_put (fs' := [.int (zI (pl)), .int (zI (co)), .ref (ad 1), .int (zI (en)), .int (zI (ty)), .int (zI (be)), .int (zI (be)), .int (zI (tk)), .int (zI (td))]) C (lt_K hN (rfl : Nat.blt (2) 952 = true)) hay1 hg2 tyX7 tyX7_ok nmX7 rfl inA_X7 5 (by decide) q_49 rfl rfl rfl rfl (Nat.le_of_ble_eq_true rfl) rfl dX7_peek_5 (fun gy3 egy4 => ?_)
  have hgy5 := up_s egy4
  have lp8 : ∀ (n9 : Nat) (a8 : Int) (g1 : Nat → va_E), (en - a8).toNat = n9 → (g1 2 = rdC ad (pl) (co) (en) (ty) (a8) (be) (tk) (td)) → (∀ j, j ≠ 2 → g1 j = g j) → (0 ≤ a8 ∧ a8 ≤ en ∧ be ≤ a8) → zV p l e ({ frames := 2, cells := 0, slots := 0, locals := 120 } : Room) s m ([.ref (ad 2)] : List Value).toArray below meth c (MQ below (zPost D A (rV0 N ad fun g' => okRun cs ad g' co tp ∧ ∀ j, j ≠ 2 → g' j = g j)) ([.ref (ad 2)] : List Value).toArray s ({ frames := 2, cells := 0, slots := 0, locals := 120 } : Room).cells ({ frames := 2, cells := 0, slots := 0, locals := 120 } : Room).slots A) D A 1 (N) ad g1 (0) (0) 8 [(0, .ref (ad 2))] [] := by
    intro n9
    induction n9 using Nat.strongRecOn with
    | ind n9 ih_lp8 =>
      intro a8 g1 hm9 f1 f3 hy8_0
      have hay6 : zAt ad (2) (ad 2) := rfl
      have hay7 : zAt ad (1) (ad 1) := rfl
      refine z_aload_n C 0 dX7_peek_8 rfl ?_
      refine z_get (v := .int (zI (a8))) C (lt_K hN (rfl : Nat.blt (2) 952 = true)) hay6 f1 rfl inA_X7 5 (by decide) q_49 rfl rfl dX7_peek_9 ?_
      refine z_aload_n C 0 dX7_peek_12 rfl ?_
      refine z_get (v := .int (zI (en))) C (lt_K hN (rfl : Nat.blt (2) 952 = true)) hay6 f1 rfl inA_X7 3 (by decide) q_47 rfl rfl dX7_peek_13 ?_
      refine z_icmp_ge (tgt := 60) C dX7_peek_16 (by decide) (by omega) (by omega) (fun hby8 => ?_) (fun hby8 => ?_)
      · refine z_aload_n C 0 dX7_peek_60 rfl ?_
        refine z_aload_n C 0 dX7_peek_61 rfl ?_
        refine z_get (v := .int (zI (a8))) C (lt_K hN (rfl : Nat.blt (2) 952 = true)) hay6 f1 rfl inA_X7 5 (by decide) q_49 rfl rfl dX7_peek_62 ?_
        refine z_aload_n C 0 dX7_peek_65 rfl ?_
        refine z_get (v := .int (zI (en))) C (lt_K hN (rfl : Nat.blt (2) 952 = true)) hay6 f1 rfl inA_X7 3 (by decide) q_47 rfl rfl dX7_peek_66 ?_
        refine z_icmp_ge (tgt := 87) C dX7_peek_69 (by decide) (by omega) (by omega) (fun hby9 => ?_) (fun hby9 => ?_)
        · refine z_iconst (z := 0) C dX7_peek_87 rfl ?_
          refine z_put (fs' := [.int (zI (pl)), .int (zI (co)), .ref (ad 1), .int (zI (en)), .int (zI (0)), .int (zI (a8)), .int (zI (be)), .int (zI (tk)), .int (zI (td))]) C (lt_K hN (rfl : Nat.blt (2) 952 = true)) hay6 f1 tyX7 tyX7_ok nmX7 rfl inA_X7 4 (by decide) q_48 rfl rfl rfl rfl (Nat.le_of_ble_eq_true rfl) rfl dX7_peek_88 (fun gy10 egy11 => ?_)
          have hgy12 := up_s egy11
          refine z_aload_n C 0 dX7_peek_91 rfl ?_
          refine z_aload_n C 0 dX7_peek_92 rfl ?_
          refine z_get (v := .int (zI (a8))) C (lt_K hN (rfl : Nat.blt (2) 952 = true)) hay6 hgy12 rfl inA_X7 5 (by decide) q_49 rfl rfl dX7_peek_93 ?_
          refine z_aload_n C 0 dX7_peek_96 rfl ?_
          refine z_get (v := .int (zI (en))) C (lt_K hN (rfl : Nat.blt (2) 952 = true)) hay6 hgy12 rfl inA_X7 3 (by decide) q_47 rfl rfl dX7_peek_97 ?_
          refine z_icmp_ge (tgt := 112) C dX7_peek_100 (by decide) (by omega) (by omega) (fun hby13 => ?_) (fun hby13 => ?_)
          · refine z_aload_n C 0 dX7_peek_112 rfl ?_
            refine z_get (v := .int (zI (en))) C (lt_K hN (rfl : Nat.blt (2) 952 = true)) hay6 hgy12 rfl inA_X7 3 (by decide) q_47 rfl rfl dX7_peek_113 ?_
            refine z_put (fs' := [.int (zI (pl)), .int (zI (co)), .ref (ad 1), .int (zI (en)), .int (zI (0)), .int (zI (a8)), .int (zI (en)), .int (zI (tk)), .int (zI (td))]) C (lt_K hN (rfl : Nat.blt (2) 952 = true)) hay6 hgy12 tyX7 tyX7_ok nmX7 rfl inA_X7 6 (by decide) q_50 rfl rfl rfl rfl (Nat.le_of_ble_eq_true rfl) rfl dX7_peek_116 (fun gy14 egy15 => ?_)
            have hgy16 := up_s egy15
            refine z_aload_n C 0 dX7_peek_119 rfl ?_
            refine z_get (v := .int (zI (0))) C (lt_K hN (rfl : Nat.blt (2) 952 = true)) hay6 hgy16 rfl inA_X7 4 (by decide) q_48 rfl rfl dX7_peek_120 ?_
            refine z_iconst (z := 1) C dX7_peek_123 rfl ?_
            refine z_icmp_eq (tgt := 135) C dX7_peek_124 (by decide) (by omega) (by omega) (fun h => absurd h (by omega)) (fun _ => ?_)
            refine z_aload_n C 0 dX7_peek_127 rfl ?_
            refine z_get (v := .int (zI (0))) C (lt_K hN (rfl : Nat.blt (2) 952 = true)) hay6 hgy16 rfl inA_X7 4 (by decide) q_48 rfl rfl dX7_peek_128 ?_
            refine z_iconst (z := 2) C dX7_peek_131 rfl ?_
            refine z_icmp_ne (tgt := 178) C dX7_peek_132 (by decide) (by omega) (by omega) (fun _ => ?_) (fun h => absurd h (by omega))
            have hgy17 := up_n egy11 ((f3 _ (by omega)).trans hg1) (by decide)
            have hgy18 := up_n egy15 hgy17 (by decide)
            exact z_vret C hr hlk dX7_peek_178 (by decide) (by decide) ⟨rfl, rfl, rfl, ⟨_, _, _, _, _, _, _, by omega, by omega, hgy16, hgy18⟩, fun j j1 => by rw [egy15, va_up_ne _ _ (by omega)]; rw [egy11, va_up_ne _ _ (by omega)]; exact f3 j j1⟩
          · refine z_aload_n C 0 dX7_peek_103 rfl ?_
            refine z_get (v := .int (zI (a8))) C (lt_K hN (rfl : Nat.blt (2) 952 = true)) hay6 hgy12 rfl inA_X7 5 (by decide) q_49 rfl rfl dX7_peek_104 ?_
            refine z_iconst (z := 1) C dX7_peek_107 rfl ?_
            refine z_iadd C dX7_peek_108 ?_
            refine z_goto (tgt := 116) C dX7_peek_109 (by decide) ?_
            refine z_put (fs' := [.int (zI (pl)), .int (zI (co)), .ref (ad 1), .int (zI (en)), .int (zI (0)), .int (zI (a8)), .int (zI (a8 + 1)), .int (zI (tk)), .int (zI (td))]) C (lt_K hN (rfl : Nat.blt (2) 952 = true)) hay6 hgy12 tyX7 tyX7_ok nmX7 rfl inA_X7 6 (by decide) q_50 rfl rfl rfl rfl (Nat.le_of_ble_eq_true rfl) rfl dX7_peek_116 (fun gy19 egy20 => ?_)
            have hgy21 := up_s egy20
            refine z_aload_n C 0 dX7_peek_119 rfl ?_
            refine z_get (v := .int (zI (0))) C (lt_K hN (rfl : Nat.blt (2) 952 = true)) hay6 hgy21 rfl inA_X7 4 (by decide) q_48 rfl rfl dX7_peek_120 ?_
            refine z_iconst (z := 1) C dX7_peek_123 rfl ?_
            refine z_icmp_eq (tgt := 135) C dX7_peek_124 (by decide) (by omega) (by omega) (fun h => absurd h (by omega)) (fun _ => ?_)
            refine z_aload_n C 0 dX7_peek_127 rfl ?_
            refine z_get (v := .int (zI (0))) C (lt_K hN (rfl : Nat.blt (2) 952 = true)) hay6 hgy21 rfl inA_X7 4 (by decide) q_48 rfl rfl dX7_peek_128 ?_
            refine z_iconst (z := 2) C dX7_peek_131 rfl ?_
            refine z_icmp_ne (tgt := 178) C dX7_peek_132 (by decide) (by omega) (by omega) (fun _ => ?_) (fun h => absurd h (by omega))
            have hgy22 := up_n egy11 ((f3 _ (by omega)).trans hg1) (by decide)
            have hgy23 := up_n egy20 hgy22 (by decide)
            exact z_vret C hr hlk dX7_peek_178 (by decide) (by decide) ⟨rfl, rfl, rfl, ⟨_, _, _, _, _, _, _, by omega, by omega, hgy21, hgy23⟩, fun j j1 => by rw [egy20, va_up_ne _ _ (by omega)]; rw [egy11, va_up_ne _ _ (by omega)]; exact f3 j j1⟩
        · refine z_aload_n C 0 dX7_peek_72 rfl ?_
          refine z_get (v := .ref (ad 1)) C (lt_K hN (rfl : Nat.blt (2) 952 = true)) hay6 f1 rfl inA_X7 2 (by decide) q_46 rfl rfl dX7_peek_73 ?_
          refine z_aload_n C 0 dX7_peek_76 rfl ?_
          refine z_get (v := .int (zI (a8))) C (lt_K hN (rfl : Nat.blt (2) 952 = true)) hay6 f1 rfl inA_X7 5 (by decide) q_49 rfl rfl dX7_peek_77 ?_
          refine z_bald C (lt_K hN (rfl : Nat.blt (1) 952 = true)) hay7 ((f3 _ (by omega)).trans hg1) ((a8).toNat) (by omega) (by omega) (by decide) dX7_peek_80 ?_
          obtain ⟨xy24, exy25, hxy26⟩ := zI_of (zI (tp ((a8).toNat)))
          rw [exy25]
          refine z_cS (As := [.int (zI (xy24))]) (rest := [.ref (ad 2)]) C (c_X7_typeOf l D A cs tt N ad _ (xy24) (by omega)) ms_yX7_typeOf q_746 hd_yX7_typeOf (by decide) (Nat.le_of_ble_eq_true rfl) (by decide) dX7_peek_81 rfl (kI0 fun vy27 gvy27 hvy27 => ?_)
          obtain ⟨hvy27, rfl⟩ := hvy27
          refine z_goto (tgt := 88) C dX7_peek_84 (by decide) ?_
          refine z_put (fs' := [.int (zI (pl)), .int (zI (co)), .ref (ad 1), .int (zI (en)), .int (zI (vy27)), .int (zI (a8)), .int (zI (be)), .int (zI (tk)), .int (zI (td))]) C (lt_K hN (rfl : Nat.blt (2) 952 = true)) hay6 f1 tyX7 tyX7_ok nmX7 rfl inA_X7 4 (by decide) q_48 rfl rfl rfl rfl (Nat.le_of_ble_eq_true rfl) rfl dX7_peek_88 (fun gy28 egy29 => ?_)
          have hgy30 := up_s egy29
          refine z_aload_n C 0 dX7_peek_91 rfl ?_
          refine z_aload_n C 0 dX7_peek_92 rfl ?_
          refine z_get (v := .int (zI (a8))) C (lt_K hN (rfl : Nat.blt (2) 952 = true)) hay6 hgy30 rfl inA_X7 5 (by decide) q_49 rfl rfl dX7_peek_93 ?_
          refine z_aload_n C 0 dX7_peek_96 rfl ?_
          refine z_get (v := .int (zI (en))) C (lt_K hN (rfl : Nat.blt (2) 952 = true)) hay6 hgy30 rfl inA_X7 3 (by decide) q_47 rfl rfl dX7_peek_97 ?_
          refine z_icmp_ge (tgt := 112) C dX7_peek_100 (by decide) (by omega) (by omega) (fun hby31 => ?_) (fun hby31 => ?_)
          · refine z_aload_n C 0 dX7_peek_112 rfl ?_
            refine z_get (v := .int (zI (en))) C (lt_K hN (rfl : Nat.blt (2) 952 = true)) hay6 hgy30 rfl inA_X7 3 (by decide) q_47 rfl rfl dX7_peek_113 ?_
            refine z_put (fs' := [.int (zI (pl)), .int (zI (co)), .ref (ad 1), .int (zI (en)), .int (zI (vy27)), .int (zI (a8)), .int (zI (en)), .int (zI (tk)), .int (zI (td))]) C (lt_K hN (rfl : Nat.blt (2) 952 = true)) hay6 hgy30 tyX7 tyX7_ok nmX7 rfl inA_X7 6 (by decide) q_50 rfl rfl rfl rfl (Nat.le_of_ble_eq_true rfl) rfl dX7_peek_116 (fun gy32 egy33 => ?_)
            have hgy34 := up_s egy33
            refine z_aload_n C 0 dX7_peek_119 rfl ?_
            refine z_get (v := .int (zI (vy27))) C (lt_K hN (rfl : Nat.blt (2) 952 = true)) hay6 hgy34 rfl inA_X7 4 (by decide) q_48 rfl rfl dX7_peek_120 ?_
            refine z_iconst (z := 1) C dX7_peek_123 rfl ?_
            refine z_icmp_eq (tgt := 135) C dX7_peek_124 (by decide) (by omega) (by omega) (fun hby35 => ?_) (fun hby35 => ?_)
            · have lp135 : ∀ (n9 : Nat) (b8 : Int) (t8 : Int) (a7 : Int) (g1 : Nat → va_E), (en - b8).toNat = n9 → (g1 2 = rdC ad (pl) (co) (en) (t8) (a7) (b8) (tk) (td)) → (∀ j, j ≠ 2 → g1 j = g j) → (0 ≤ a7 ∧ a7 ≤ b8 ∧ b8 ≤ en) → (0 ≤ t8 ∧ t8 ≤ 5) → zV p l e ({ frames := 2, cells := 0, slots := 0, locals := 120 } : Room) s m ([.ref (ad 2)] : List Value).toArray below meth c (MQ below (zPost D A (rV0 N ad fun g' => okRun cs ad g' co tp ∧ ∀ j, j ≠ 2 → g' j = g j)) ([.ref (ad 2)] : List Value).toArray s ({ frames := 2, cells := 0, slots := 0, locals := 120 } : Room).cells ({ frames := 2, cells := 0, slots := 0, locals := 120 } : Room).slots A) D A 1 (N) ad g1 (0) (0) 135 [(0, .ref (ad 2))] [] := by
                intro n9
                induction n9 using Nat.strongRecOn with
                | ind n9 ih_lp135 =>
                  intro b8 t8 a7 g1 hm9 f1 f3 hy135_0 hy135_1
                  have hay36 : zAt ad (2) (ad 2) := rfl
                  have hay37 : zAt ad (1) (ad 1) := rfl
                  refine z_aload_n C 0 dX7_peek_135 rfl ?_
                  refine z_get (v := .int (zI (b8))) C (lt_K hN (rfl : Nat.blt (2) 952 = true)) hay36 f1 rfl inA_X7 6 (by decide) q_50 rfl rfl dX7_peek_136 ?_
                  refine z_aload_n C 0 dX7_peek_139 rfl ?_
                  refine z_get (v := .int (zI (en))) C (lt_K hN (rfl : Nat.blt (2) 952 = true)) hay36 f1 rfl inA_X7 3 (by decide) q_47 rfl rfl dX7_peek_140 ?_
                  refine z_icmp_ge (tgt := 178) C dX7_peek_143 (by decide) (by omega) (by omega) (fun hby38 => ?_) (fun hby38 => ?_)
                  · exact z_vret C hr hlk dX7_peek_178 (by decide) (by decide) ⟨rfl, rfl, rfl, ⟨_, _, _, _, _, _, _, by omega, by omega, f1, ((f3 _ (by omega)).trans hg1)⟩, fun j j1 => by exact f3 j j1⟩
                  · refine z_aload_n C 0 dX7_peek_146 rfl ?_
                    refine z_get (v := .ref (ad 1)) C (lt_K hN (rfl : Nat.blt (2) 952 = true)) hay36 f1 rfl inA_X7 2 (by decide) q_46 rfl rfl dX7_peek_147 ?_
                    refine z_aload_n C 0 dX7_peek_150 rfl ?_
                    refine z_get (v := .int (zI (b8))) C (lt_K hN (rfl : Nat.blt (2) 952 = true)) hay36 f1 rfl inA_X7 6 (by decide) q_50 rfl rfl dX7_peek_151 ?_
                    refine z_bald C (lt_K hN (rfl : Nat.blt (1) 952 = true)) hay37 ((f3 _ (by omega)).trans hg1) ((b8).toNat) (by omega) (by omega) (by decide) dX7_peek_154 ?_
                    obtain ⟨xy39, exy40, hxy41⟩ := zI_of (zI (tp ((b8).toNat)))
                    rw [exy40]
                    refine z_cS (As := [.int (zI (xy39))]) (rest := []) C (c_X7_typeOf l D A cs tt N ad _ (xy39) (by omega)) ms_yX7_typeOf q_746 hd_yX7_typeOf (by decide) (Nat.le_of_ble_eq_true rfl) (by decide) dX7_peek_155 rfl (kI0 fun vy42 gvy42 hvy42 => ?_)
                    obtain ⟨hvy42, rfl⟩ := hvy42
                    refine z_aload_n C 0 dX7_peek_158 rfl ?_
                    refine z_get (v := .int (zI (t8))) C (lt_K hN (rfl : Nat.blt (2) 952 = true)) hay36 f1 rfl inA_X7 4 (by decide) q_48 rfl rfl dX7_peek_159 ?_
                    refine z_icmp_ne (tgt := 178) C dX7_peek_162 (by decide) (by omega) (by omega) (fun hby43 => ?_) (fun hby43 => ?_)
                    · exact z_vret C hr hlk dX7_peek_178 (by decide) (by decide) ⟨rfl, rfl, rfl, ⟨_, _, _, _, _, _, _, by omega, by omega, f1, ((f3 _ (by omega)).trans hg1)⟩, fun j j1 => by exact f3 j j1⟩
                    · refine z_aload_n C 0 dX7_peek_165 rfl ?_
                      refine z_dup C dX7_peek_166 rfl ?_
                      refine z_get (v := .int (zI (b8))) C (lt_K hN (rfl : Nat.blt (2) 952 = true)) hay36 f1 rfl inA_X7 6 (by decide) q_50 rfl rfl dX7_peek_167 ?_
                      refine z_iconst (z := 1) C dX7_peek_170 rfl ?_
                      refine z_iadd C dX7_peek_171 ?_
                      refine z_put (fs' := [.int (zI (pl)), .int (zI (co)), .ref (ad 1), .int (zI (en)), .int (zI (t8)), .int (zI (a7)), .int (zI (b8 + 1)), .int (zI (tk)), .int (zI (td))]) C (lt_K hN (rfl : Nat.blt (2) 952 = true)) hay36 f1 tyX7 tyX7_ok nmX7 rfl inA_X7 6 (by decide) q_50 rfl rfl rfl rfl (Nat.le_of_ble_eq_true rfl) rfl dX7_peek_172 (fun gy44 egy45 => ?_)
                      have hgy46 := up_s egy45
                      refine z_goto (tgt := 135) C dX7_peek_175 (by decide) ?_
                      refine z_lv (lv' := [(0, .ref (ad 2))]) [0] rfl ?_
                      exact ih_lp135 _ (by omega) (b8 + 1) (t8) (a7) gy44 rfl hgy46 (fun j j1 => by rw [egy45, va_up_ne _ _ (by omega)]; exact f3 j j1) (by omega) (by omega)
              refine z_lv (lv' := [(0, .ref (ad 2))]) [0] rfl ?_
              exact lp135 _ (en) (vy27) (a8) gy32 rfl hgy34 (fun j j1 => by rw [egy33, va_up_ne _ _ (by omega)]; rw [egy29, va_up_ne _ _ (by omega)]; exact f3 j j1) (by omega) (by omega)
            · refine z_aload_n C 0 dX7_peek_127 rfl ?_
              refine z_get (v := .int (zI (vy27))) C (lt_K hN (rfl : Nat.blt (2) 952 = true)) hay6 hgy34 rfl inA_X7 4 (by decide) q_48 rfl rfl dX7_peek_128 ?_
              refine z_iconst (z := 2) C dX7_peek_131 rfl ?_
              refine z_icmp_ne (tgt := 178) C dX7_peek_132 (by decide) (by omega) (by omega) (fun hby47 => ?_) (fun hby47 => ?_)
              · have hgy48 := up_n egy29 ((f3 _ (by omega)).trans hg1) (by decide)
                have hgy49 := up_n egy33 hgy48 (by decide)
                exact z_vret C hr hlk dX7_peek_178 (by decide) (by decide) ⟨rfl, rfl, rfl, ⟨_, _, _, _, _, _, _, by omega, by omega, hgy34, hgy49⟩, fun j j1 => by rw [egy33, va_up_ne _ _ (by omega)]; rw [egy29, va_up_ne _ _ (by omega)]; exact f3 j j1⟩
              · have lp135 : ∀ (n9 : Nat) (b8 : Int) (t8 : Int) (a7 : Int) (g1 : Nat → va_E), (en - b8).toNat = n9 → (g1 2 = rdC ad (pl) (co) (en) (t8) (a7) (b8) (tk) (td)) → (∀ j, j ≠ 2 → g1 j = g j) → (0 ≤ a7 ∧ a7 ≤ b8 ∧ b8 ≤ en) → (0 ≤ t8 ∧ t8 ≤ 5) → zV p l e ({ frames := 2, cells := 0, slots := 0, locals := 120 } : Room) s m ([.ref (ad 2)] : List Value).toArray below meth c (MQ below (zPost D A (rV0 N ad fun g' => okRun cs ad g' co tp ∧ ∀ j, j ≠ 2 → g' j = g j)) ([.ref (ad 2)] : List Value).toArray s ({ frames := 2, cells := 0, slots := 0, locals := 120 } : Room).cells ({ frames := 2, cells := 0, slots := 0, locals := 120 } : Room).slots A) D A 1 (N) ad g1 (0) (0) 135 [(0, .ref (ad 2))] [] := by
                  intro n9
                  induction n9 using Nat.strongRecOn with
                  | ind n9 ih_lp135 =>
                    intro b8 t8 a7 g1 hm9 f1 f3 hy135_0 hy135_1
                    have hay50 : zAt ad (2) (ad 2) := rfl
                    have hay51 : zAt ad (1) (ad 1) := rfl
                    refine z_aload_n C 0 dX7_peek_135 rfl ?_
                    refine z_get (v := .int (zI (b8))) C (lt_K hN (rfl : Nat.blt (2) 952 = true)) hay50 f1 rfl inA_X7 6 (by decide) q_50 rfl rfl dX7_peek_136 ?_
                    refine z_aload_n C 0 dX7_peek_139 rfl ?_
                    refine z_get (v := .int (zI (en))) C (lt_K hN (rfl : Nat.blt (2) 952 = true)) hay50 f1 rfl inA_X7 3 (by decide) q_47 rfl rfl dX7_peek_140 ?_
                    refine z_icmp_ge (tgt := 178) C dX7_peek_143 (by decide) (by omega) (by omega) (fun hby52 => ?_) (fun hby52 => ?_)
                    · exact z_vret C hr hlk dX7_peek_178 (by decide) (by decide) ⟨rfl, rfl, rfl, ⟨_, _, _, _, _, _, _, by omega, by omega, f1, ((f3 _ (by omega)).trans hg1)⟩, fun j j1 => by exact f3 j j1⟩
                    · refine z_aload_n C 0 dX7_peek_146 rfl ?_
                      refine z_get (v := .ref (ad 1)) C (lt_K hN (rfl : Nat.blt (2) 952 = true)) hay50 f1 rfl inA_X7 2 (by decide) q_46 rfl rfl dX7_peek_147 ?_
                      refine z_aload_n C 0 dX7_peek_150 rfl ?_
                      refine z_get (v := .int (zI (b8))) C (lt_K hN (rfl : Nat.blt (2) 952 = true)) hay50 f1 rfl inA_X7 6 (by decide) q_50 rfl rfl dX7_peek_151 ?_
                      refine z_bald C (lt_K hN (rfl : Nat.blt (1) 952 = true)) hay51 ((f3 _ (by omega)).trans hg1) ((b8).toNat) (by omega) (by omega) (by decide) dX7_peek_154 ?_
                      obtain ⟨xy53, exy54, hxy55⟩ := zI_of (zI (tp ((b8).toNat)))
                      rw [exy54]
                      refine z_cS (As := [.int (zI (xy53))]) (rest := []) C (c_X7_typeOf l D A cs tt N ad _ (xy53) (by omega)) ms_yX7_typeOf q_746 hd_yX7_typeOf (by decide) (Nat.le_of_ble_eq_true rfl) (by decide) dX7_peek_155 rfl (kI0 fun vy56 gvy56 hvy56 => ?_)
                      obtain ⟨hvy56, rfl⟩ := hvy56
                      refine z_aload_n C 0 dX7_peek_158 rfl ?_
                      refine z_get (v := .int (zI (t8))) C (lt_K hN (rfl : Nat.blt (2) 952 = true)) hay50 f1 rfl inA_X7 4 (by decide) q_48 rfl rfl dX7_peek_159 ?_
                      refine z_icmp_ne (tgt := 178) C dX7_peek_162 (by decide) (by omega) (by omega) (fun hby57 => ?_) (fun hby57 => ?_)
                      · exact z_vret C hr hlk dX7_peek_178 (by decide) (by decide) ⟨rfl, rfl, rfl, ⟨_, _, _, _, _, _, _, by omega, by omega, f1, ((f3 _ (by omega)).trans hg1)⟩, fun j j1 => by exact f3 j j1⟩
                      · refine z_aload_n C 0 dX7_peek_165 rfl ?_
                        refine z_dup C dX7_peek_166 rfl ?_
                        refine z_get (v := .int (zI (b8))) C (lt_K hN (rfl : Nat.blt (2) 952 = true)) hay50 f1 rfl inA_X7 6 (by decide) q_50 rfl rfl dX7_peek_167 ?_
                        refine z_iconst (z := 1) C dX7_peek_170 rfl ?_
                        refine z_iadd C dX7_peek_171 ?_
                        refine z_put (fs' := [.int (zI (pl)), .int (zI (co)), .ref (ad 1), .int (zI (en)), .int (zI (t8)), .int (zI (a7)), .int (zI (b8 + 1)), .int (zI (tk)), .int (zI (td))]) C (lt_K hN (rfl : Nat.blt (2) 952 = true)) hay50 f1 tyX7 tyX7_ok nmX7 rfl inA_X7 6 (by decide) q_50 rfl rfl rfl rfl (Nat.le_of_ble_eq_true rfl) rfl dX7_peek_172 (fun gy58 egy59 => ?_)
                        have hgy60 := up_s egy59
                        refine z_goto (tgt := 135) C dX7_peek_175 (by decide) ?_
                        refine z_lv (lv' := [(0, .ref (ad 2))]) [0] rfl ?_
                        exact ih_lp135 _ (by omega) (b8 + 1) (t8) (a7) gy58 rfl hgy60 (fun j j1 => by rw [egy59, va_up_ne _ _ (by omega)]; exact f3 j j1) (by omega) (by omega)
                refine z_lv (lv' := [(0, .ref (ad 2))]) [0] rfl ?_
                exact lp135 _ (en) (vy27) (a8) gy32 rfl hgy34 (fun j j1 => by rw [egy33, va_up_ne _ _ (by omega)]; rw [egy29, va_up_ne _ _ (by omega)]; exact f3 j j1) (by omega) (by omega)
          · refine z_aload_n C 0 dX7_peek_103 rfl ?_
            refine z_get (v := .int (zI (a8))) C (lt_K hN (rfl : Nat.blt (2) 952 = true)) hay6 hgy30 rfl inA_X7 5 (by decide) q_49 rfl rfl dX7_peek_104 ?_
            refine z_iconst (z := 1) C dX7_peek_107 rfl ?_
            refine z_iadd C dX7_peek_108 ?_
            refine z_goto (tgt := 116) C dX7_peek_109 (by decide) ?_
            refine z_put (fs' := [.int (zI (pl)), .int (zI (co)), .ref (ad 1), .int (zI (en)), .int (zI (vy27)), .int (zI (a8)), .int (zI (a8 + 1)), .int (zI (tk)), .int (zI (td))]) C (lt_K hN (rfl : Nat.blt (2) 952 = true)) hay6 hgy30 tyX7 tyX7_ok nmX7 rfl inA_X7 6 (by decide) q_50 rfl rfl rfl rfl (Nat.le_of_ble_eq_true rfl) rfl dX7_peek_116 (fun gy61 egy62 => ?_)
            have hgy63 := up_s egy62
            refine z_aload_n C 0 dX7_peek_119 rfl ?_
            refine z_get (v := .int (zI (vy27))) C (lt_K hN (rfl : Nat.blt (2) 952 = true)) hay6 hgy63 rfl inA_X7 4 (by decide) q_48 rfl rfl dX7_peek_120 ?_
            refine z_iconst (z := 1) C dX7_peek_123 rfl ?_
            refine z_icmp_eq (tgt := 135) C dX7_peek_124 (by decide) (by omega) (by omega) (fun hby64 => ?_) (fun hby64 => ?_)
            · have lp135 : ∀ (n9 : Nat) (b8 : Int) (t8 : Int) (a7 : Int) (g1 : Nat → va_E), (en - b8).toNat = n9 → (g1 2 = rdC ad (pl) (co) (en) (t8) (a7) (b8) (tk) (td)) → (∀ j, j ≠ 2 → g1 j = g j) → (0 ≤ a7 ∧ a7 ≤ b8 ∧ b8 ≤ en) → (0 ≤ t8 ∧ t8 ≤ 5) → zV p l e ({ frames := 2, cells := 0, slots := 0, locals := 120 } : Room) s m ([.ref (ad 2)] : List Value).toArray below meth c (MQ below (zPost D A (rV0 N ad fun g' => okRun cs ad g' co tp ∧ ∀ j, j ≠ 2 → g' j = g j)) ([.ref (ad 2)] : List Value).toArray s ({ frames := 2, cells := 0, slots := 0, locals := 120 } : Room).cells ({ frames := 2, cells := 0, slots := 0, locals := 120 } : Room).slots A) D A 1 (N) ad g1 (0) (0) 135 [(0, .ref (ad 2))] [] := by
                intro n9
                induction n9 using Nat.strongRecOn with
                | ind n9 ih_lp135 =>
                  intro b8 t8 a7 g1 hm9 f1 f3 hy135_0 hy135_1
                  have hay65 : zAt ad (2) (ad 2) := rfl
                  have hay66 : zAt ad (1) (ad 1) := rfl
                  refine z_aload_n C 0 dX7_peek_135 rfl ?_
                  refine z_get (v := .int (zI (b8))) C (lt_K hN (rfl : Nat.blt (2) 952 = true)) hay65 f1 rfl inA_X7 6 (by decide) q_50 rfl rfl dX7_peek_136 ?_
                  refine z_aload_n C 0 dX7_peek_139 rfl ?_
                  refine z_get (v := .int (zI (en))) C (lt_K hN (rfl : Nat.blt (2) 952 = true)) hay65 f1 rfl inA_X7 3 (by decide) q_47 rfl rfl dX7_peek_140 ?_
                  refine z_icmp_ge (tgt := 178) C dX7_peek_143 (by decide) (by omega) (by omega) (fun hby67 => ?_) (fun hby67 => ?_)
                  · exact z_vret C hr hlk dX7_peek_178 (by decide) (by decide) ⟨rfl, rfl, rfl, ⟨_, _, _, _, _, _, _, by omega, by omega, f1, ((f3 _ (by omega)).trans hg1)⟩, fun j j1 => by exact f3 j j1⟩
                  · refine z_aload_n C 0 dX7_peek_146 rfl ?_
                    refine z_get (v := .ref (ad 1)) C (lt_K hN (rfl : Nat.blt (2) 952 = true)) hay65 f1 rfl inA_X7 2 (by decide) q_46 rfl rfl dX7_peek_147 ?_
                    refine z_aload_n C 0 dX7_peek_150 rfl ?_
                    refine z_get (v := .int (zI (b8))) C (lt_K hN (rfl : Nat.blt (2) 952 = true)) hay65 f1 rfl inA_X7 6 (by decide) q_50 rfl rfl dX7_peek_151 ?_
                    refine z_bald C (lt_K hN (rfl : Nat.blt (1) 952 = true)) hay66 ((f3 _ (by omega)).trans hg1) ((b8).toNat) (by omega) (by omega) (by decide) dX7_peek_154 ?_
                    obtain ⟨xy68, exy69, hxy70⟩ := zI_of (zI (tp ((b8).toNat)))
                    rw [exy69]
                    refine z_cS (As := [.int (zI (xy68))]) (rest := []) C (c_X7_typeOf l D A cs tt N ad _ (xy68) (by omega)) ms_yX7_typeOf q_746 hd_yX7_typeOf (by decide) (Nat.le_of_ble_eq_true rfl) (by decide) dX7_peek_155 rfl (kI0 fun vy71 gvy71 hvy71 => ?_)
                    obtain ⟨hvy71, rfl⟩ := hvy71
                    refine z_aload_n C 0 dX7_peek_158 rfl ?_
                    refine z_get (v := .int (zI (t8))) C (lt_K hN (rfl : Nat.blt (2) 952 = true)) hay65 f1 rfl inA_X7 4 (by decide) q_48 rfl rfl dX7_peek_159 ?_
                    refine z_icmp_ne (tgt := 178) C dX7_peek_162 (by decide) (by omega) (by omega) (fun hby72 => ?_) (fun hby72 => ?_)
                    · exact z_vret C hr hlk dX7_peek_178 (by decide) (by decide) ⟨rfl, rfl, rfl, ⟨_, _, _, _, _, _, _, by omega, by omega, f1, ((f3 _ (by omega)).trans hg1)⟩, fun j j1 => by exact f3 j j1⟩
                    · refine z_aload_n C 0 dX7_peek_165 rfl ?_
                      refine z_dup C dX7_peek_166 rfl ?_
                      refine z_get (v := .int (zI (b8))) C (lt_K hN (rfl : Nat.blt (2) 952 = true)) hay65 f1 rfl inA_X7 6 (by decide) q_50 rfl rfl dX7_peek_167 ?_
                      refine z_iconst (z := 1) C dX7_peek_170 rfl ?_
                      refine z_iadd C dX7_peek_171 ?_
                      refine z_put (fs' := [.int (zI (pl)), .int (zI (co)), .ref (ad 1), .int (zI (en)), .int (zI (t8)), .int (zI (a7)), .int (zI (b8 + 1)), .int (zI (tk)), .int (zI (td))]) C (lt_K hN (rfl : Nat.blt (2) 952 = true)) hay65 f1 tyX7 tyX7_ok nmX7 rfl inA_X7 6 (by decide) q_50 rfl rfl rfl rfl (Nat.le_of_ble_eq_true rfl) rfl dX7_peek_172 (fun gy73 egy74 => ?_)
                      have hgy75 := up_s egy74
                      refine z_goto (tgt := 135) C dX7_peek_175 (by decide) ?_
                      refine z_lv (lv' := [(0, .ref (ad 2))]) [0] rfl ?_
                      exact ih_lp135 _ (by omega) (b8 + 1) (t8) (a7) gy73 rfl hgy75 (fun j j1 => by rw [egy74, va_up_ne _ _ (by omega)]; exact f3 j j1) (by omega) (by omega)
              refine z_lv (lv' := [(0, .ref (ad 2))]) [0] rfl ?_
              exact lp135 _ (a8 + 1) (vy27) (a8) gy61 rfl hgy63 (fun j j1 => by rw [egy62, va_up_ne _ _ (by omega)]; rw [egy29, va_up_ne _ _ (by omega)]; exact f3 j j1) (by omega) (by omega)
            · refine z_aload_n C 0 dX7_peek_127 rfl ?_
              refine z_get (v := .int (zI (vy27))) C (lt_K hN (rfl : Nat.blt (2) 952 = true)) hay6 hgy63 rfl inA_X7 4 (by decide) q_48 rfl rfl dX7_peek_128 ?_
              refine z_iconst (z := 2) C dX7_peek_131 rfl ?_
              refine z_icmp_ne (tgt := 178) C dX7_peek_132 (by decide) (by omega) (by omega) (fun hby76 => ?_) (fun hby76 => ?_)
              · have hgy77 := up_n egy29 ((f3 _ (by omega)).trans hg1) (by decide)
                have hgy78 := up_n egy62 hgy77 (by decide)
                exact z_vret C hr hlk dX7_peek_178 (by decide) (by decide) ⟨rfl, rfl, rfl, ⟨_, _, _, _, _, _, _, by omega, by omega, hgy63, hgy78⟩, fun j j1 => by rw [egy62, va_up_ne _ _ (by omega)]; rw [egy29, va_up_ne _ _ (by omega)]; exact f3 j j1⟩
              · have lp135 : ∀ (n9 : Nat) (b8 : Int) (t8 : Int) (a7 : Int) (g1 : Nat → va_E), (en - b8).toNat = n9 → (g1 2 = rdC ad (pl) (co) (en) (t8) (a7) (b8) (tk) (td)) → (∀ j, j ≠ 2 → g1 j = g j) → (0 ≤ a7 ∧ a7 ≤ b8 ∧ b8 ≤ en) → (0 ≤ t8 ∧ t8 ≤ 5) → zV p l e ({ frames := 2, cells := 0, slots := 0, locals := 120 } : Room) s m ([.ref (ad 2)] : List Value).toArray below meth c (MQ below (zPost D A (rV0 N ad fun g' => okRun cs ad g' co tp ∧ ∀ j, j ≠ 2 → g' j = g j)) ([.ref (ad 2)] : List Value).toArray s ({ frames := 2, cells := 0, slots := 0, locals := 120 } : Room).cells ({ frames := 2, cells := 0, slots := 0, locals := 120 } : Room).slots A) D A 1 (N) ad g1 (0) (0) 135 [(0, .ref (ad 2))] [] := by
                  intro n9
                  induction n9 using Nat.strongRecOn with
                  | ind n9 ih_lp135 =>
                    intro b8 t8 a7 g1 hm9 f1 f3 hy135_0 hy135_1
                    have hay79 : zAt ad (2) (ad 2) := rfl
                    have hay80 : zAt ad (1) (ad 1) := rfl
                    refine z_aload_n C 0 dX7_peek_135 rfl ?_
                    refine z_get (v := .int (zI (b8))) C (lt_K hN (rfl : Nat.blt (2) 952 = true)) hay79 f1 rfl inA_X7 6 (by decide) q_50 rfl rfl dX7_peek_136 ?_
                    refine z_aload_n C 0 dX7_peek_139 rfl ?_
                    refine z_get (v := .int (zI (en))) C (lt_K hN (rfl : Nat.blt (2) 952 = true)) hay79 f1 rfl inA_X7 3 (by decide) q_47 rfl rfl dX7_peek_140 ?_
                    refine z_icmp_ge (tgt := 178) C dX7_peek_143 (by decide) (by omega) (by omega) (fun hby81 => ?_) (fun hby81 => ?_)
                    · exact z_vret C hr hlk dX7_peek_178 (by decide) (by decide) ⟨rfl, rfl, rfl, ⟨_, _, _, _, _, _, _, by omega, by omega, f1, ((f3 _ (by omega)).trans hg1)⟩, fun j j1 => by exact f3 j j1⟩
                    · refine z_aload_n C 0 dX7_peek_146 rfl ?_
                      refine z_get (v := .ref (ad 1)) C (lt_K hN (rfl : Nat.blt (2) 952 = true)) hay79 f1 rfl inA_X7 2 (by decide) q_46 rfl rfl dX7_peek_147 ?_
                      refine z_aload_n C 0 dX7_peek_150 rfl ?_
                      refine z_get (v := .int (zI (b8))) C (lt_K hN (rfl : Nat.blt (2) 952 = true)) hay79 f1 rfl inA_X7 6 (by decide) q_50 rfl rfl dX7_peek_151 ?_
                      refine z_bald C (lt_K hN (rfl : Nat.blt (1) 952 = true)) hay80 ((f3 _ (by omega)).trans hg1) ((b8).toNat) (by omega) (by omega) (by decide) dX7_peek_154 ?_
                      obtain ⟨xy82, exy83, hxy84⟩ := zI_of (zI (tp ((b8).toNat)))
                      rw [exy83]
                      refine z_cS (As := [.int (zI (xy82))]) (rest := []) C (c_X7_typeOf l D A cs tt N ad _ (xy82) (by omega)) ms_yX7_typeOf q_746 hd_yX7_typeOf (by decide) (Nat.le_of_ble_eq_true rfl) (by decide) dX7_peek_155 rfl (kI0 fun vy85 gvy85 hvy85 => ?_)
                      obtain ⟨hvy85, rfl⟩ := hvy85
                      refine z_aload_n C 0 dX7_peek_158 rfl ?_
                      refine z_get (v := .int (zI (t8))) C (lt_K hN (rfl : Nat.blt (2) 952 = true)) hay79 f1 rfl inA_X7 4 (by decide) q_48 rfl rfl dX7_peek_159 ?_
                      refine z_icmp_ne (tgt := 178) C dX7_peek_162 (by decide) (by omega) (by omega) (fun hby86 => ?_) (fun hby86 => ?_)
                      · exact z_vret C hr hlk dX7_peek_178 (by decide) (by decide) ⟨rfl, rfl, rfl, ⟨_, _, _, _, _, _, _, by omega, by omega, f1, ((f3 _ (by omega)).trans hg1)⟩, fun j j1 => by exact f3 j j1⟩
                      · refine z_aload_n C 0 dX7_peek_165 rfl ?_
                        refine z_dup C dX7_peek_166 rfl ?_
                        refine z_get (v := .int (zI (b8))) C (lt_K hN (rfl : Nat.blt (2) 952 = true)) hay79 f1 rfl inA_X7 6 (by decide) q_50 rfl rfl dX7_peek_167 ?_
                        refine z_iconst (z := 1) C dX7_peek_170 rfl ?_
                        refine z_iadd C dX7_peek_171 ?_
                        refine z_put (fs' := [.int (zI (pl)), .int (zI (co)), .ref (ad 1), .int (zI (en)), .int (zI (t8)), .int (zI (a7)), .int (zI (b8 + 1)), .int (zI (tk)), .int (zI (td))]) C (lt_K hN (rfl : Nat.blt (2) 952 = true)) hay79 f1 tyX7 tyX7_ok nmX7 rfl inA_X7 6 (by decide) q_50 rfl rfl rfl rfl (Nat.le_of_ble_eq_true rfl) rfl dX7_peek_172 (fun gy87 egy88 => ?_)
                        have hgy89 := up_s egy88
                        refine z_goto (tgt := 135) C dX7_peek_175 (by decide) ?_
                        refine z_lv (lv' := [(0, .ref (ad 2))]) [0] rfl ?_
                        exact ih_lp135 _ (by omega) (b8 + 1) (t8) (a7) gy87 rfl hgy89 (fun j j1 => by rw [egy88, va_up_ne _ _ (by omega)]; exact f3 j j1) (by omega) (by omega)
                refine z_lv (lv' := [(0, .ref (ad 2))]) [0] rfl ?_
                exact lp135 _ (a8 + 1) (vy27) (a8) gy61 rfl hgy63 (fun j j1 => by rw [egy62, va_up_ne _ _ (by omega)]; rw [egy29, va_up_ne _ _ (by omega)]; exact f3 j j1) (by omega) (by omega)
      · refine z_aload_n C 0 dX7_peek_19 rfl ?_
        refine z_get (v := .ref (ad 1)) C (lt_K hN (rfl : Nat.blt (2) 952 = true)) hay6 f1 rfl inA_X7 2 (by decide) q_46 rfl rfl dX7_peek_20 ?_
        refine z_aload_n C 0 dX7_peek_23 rfl ?_
        refine z_get (v := .int (zI (a8))) C (lt_K hN (rfl : Nat.blt (2) 952 = true)) hay6 f1 rfl inA_X7 5 (by decide) q_49 rfl rfl dX7_peek_24 ?_
        refine z_bald C (lt_K hN (rfl : Nat.blt (1) 952 = true)) hay7 ((f3 _ (by omega)).trans hg1) ((a8).toNat) (by omega) (by omega) (by decide) dX7_peek_27 ?_
        refine z_bipush (z := 32) C dX7_peek_28 (by decide) ?_
        obtain ⟨xy90, exy91, hxy92⟩ := zI_of (zI (tp ((a8).toNat)))
        rw [exy91]
        refine z_icmp_eq (tgt := 47) C dX7_peek_30 (by decide) (by omega) (by omega) (fun hby93 => ?_) (fun hby93 => ?_)
        · refine z_aload_n C 0 dX7_peek_47 rfl ?_
          refine z_dup C dX7_peek_48 rfl ?_
          refine z_get (v := .int (zI (a8))) C (lt_K hN (rfl : Nat.blt (2) 952 = true)) hay6 f1 rfl inA_X7 5 (by decide) q_49 rfl rfl dX7_peek_49 ?_
          refine z_iconst (z := 1) C dX7_peek_52 rfl ?_
          refine z_iadd C dX7_peek_53 ?_
          refine z_put (fs' := [.int (zI (pl)), .int (zI (co)), .ref (ad 1), .int (zI (en)), .int (zI (ty)), .int (zI (a8 + 1)), .int (zI (be)), .int (zI (tk)), .int (zI (td))]) C (lt_K hN (rfl : Nat.blt (2) 952 = true)) hay6 f1 tyX7 tyX7_ok nmX7 rfl inA_X7 5 (by decide) q_49 rfl rfl rfl rfl (Nat.le_of_ble_eq_true rfl) rfl dX7_peek_54 (fun gy94 egy95 => ?_)
          have hgy96 := up_s egy95
          refine z_goto (tgt := 8) C dX7_peek_57 (by decide) ?_
          refine z_lv (lv' := [(0, .ref (ad 2))]) [0] rfl ?_
          exact ih_lp8 _ (by omega) (a8 + 1) gy94 rfl hgy96 (fun j j1 => by rw [egy95, va_up_ne _ _ (by omega)]; exact f3 j j1) (by omega)
        · refine z_aload_n C 0 dX7_peek_33 rfl ?_
          refine z_get (v := .ref (ad 1)) C (lt_K hN (rfl : Nat.blt (2) 952 = true)) hay6 f1 rfl inA_X7 2 (by decide) q_46 rfl rfl dX7_peek_34 ?_
          refine z_aload_n C 0 dX7_peek_37 rfl ?_
          refine z_get (v := .int (zI (a8))) C (lt_K hN (rfl : Nat.blt (2) 952 = true)) hay6 f1 rfl inA_X7 5 (by decide) q_49 rfl rfl dX7_peek_38 ?_
          refine z_bald C (lt_K hN (rfl : Nat.blt (1) 952 = true)) hay7 ((f3 _ (by omega)).trans hg1) ((a8).toNat) (by omega) (by omega) (by decide) dX7_peek_41 ?_
          refine z_bipush (z := 10) C dX7_peek_42 (by decide) ?_
          obtain ⟨xy97, exy98, hxy99⟩ := zI_of (zI (tp ((a8).toNat)))
          rw [exy98]
          refine z_icmp_ne (tgt := 60) C dX7_peek_44 (by decide) (by omega) (by omega) (fun hby100 => ?_) (fun hby100 => ?_)
          · refine z_aload_n C 0 dX7_peek_60 rfl ?_
            refine z_aload_n C 0 dX7_peek_61 rfl ?_
            refine z_get (v := .int (zI (a8))) C (lt_K hN (rfl : Nat.blt (2) 952 = true)) hay6 f1 rfl inA_X7 5 (by decide) q_49 rfl rfl dX7_peek_62 ?_
            refine z_aload_n C 0 dX7_peek_65 rfl ?_
            refine z_get (v := .int (zI (en))) C (lt_K hN (rfl : Nat.blt (2) 952 = true)) hay6 f1 rfl inA_X7 3 (by decide) q_47 rfl rfl dX7_peek_66 ?_
            refine z_icmp_ge (tgt := 87) C dX7_peek_69 (by decide) (by omega) (by omega) (fun hby101 => ?_) (fun hby101 => ?_)
            · refine z_iconst (z := 0) C dX7_peek_87 rfl ?_
              refine z_put (fs' := [.int (zI (pl)), .int (zI (co)), .ref (ad 1), .int (zI (en)), .int (zI (0)), .int (zI (a8)), .int (zI (be)), .int (zI (tk)), .int (zI (td))]) C (lt_K hN (rfl : Nat.blt (2) 952 = true)) hay6 f1 tyX7 tyX7_ok nmX7 rfl inA_X7 4 (by decide) q_48 rfl rfl rfl rfl (Nat.le_of_ble_eq_true rfl) rfl dX7_peek_88 (fun gy102 egy103 => ?_)
              have hgy104 := up_s egy103
              refine z_aload_n C 0 dX7_peek_91 rfl ?_
              refine z_aload_n C 0 dX7_peek_92 rfl ?_
              refine z_get (v := .int (zI (a8))) C (lt_K hN (rfl : Nat.blt (2) 952 = true)) hay6 hgy104 rfl inA_X7 5 (by decide) q_49 rfl rfl dX7_peek_93 ?_
              refine z_aload_n C 0 dX7_peek_96 rfl ?_
              refine z_get (v := .int (zI (en))) C (lt_K hN (rfl : Nat.blt (2) 952 = true)) hay6 hgy104 rfl inA_X7 3 (by decide) q_47 rfl rfl dX7_peek_97 ?_
              refine z_icmp_ge (tgt := 112) C dX7_peek_100 (by decide) (by omega) (by omega) (fun hby105 => ?_) (fun hby105 => ?_)
              · refine z_aload_n C 0 dX7_peek_112 rfl ?_
                refine z_get (v := .int (zI (en))) C (lt_K hN (rfl : Nat.blt (2) 952 = true)) hay6 hgy104 rfl inA_X7 3 (by decide) q_47 rfl rfl dX7_peek_113 ?_
                refine z_put (fs' := [.int (zI (pl)), .int (zI (co)), .ref (ad 1), .int (zI (en)), .int (zI (0)), .int (zI (a8)), .int (zI (en)), .int (zI (tk)), .int (zI (td))]) C (lt_K hN (rfl : Nat.blt (2) 952 = true)) hay6 hgy104 tyX7 tyX7_ok nmX7 rfl inA_X7 6 (by decide) q_50 rfl rfl rfl rfl (Nat.le_of_ble_eq_true rfl) rfl dX7_peek_116 (fun gy106 egy107 => ?_)
                have hgy108 := up_s egy107
                refine z_aload_n C 0 dX7_peek_119 rfl ?_
                refine z_get (v := .int (zI (0))) C (lt_K hN (rfl : Nat.blt (2) 952 = true)) hay6 hgy108 rfl inA_X7 4 (by decide) q_48 rfl rfl dX7_peek_120 ?_
                refine z_iconst (z := 1) C dX7_peek_123 rfl ?_
                refine z_icmp_eq (tgt := 135) C dX7_peek_124 (by decide) (by omega) (by omega) (fun h => absurd h (by omega)) (fun _ => ?_)
                refine z_aload_n C 0 dX7_peek_127 rfl ?_
                refine z_get (v := .int (zI (0))) C (lt_K hN (rfl : Nat.blt (2) 952 = true)) hay6 hgy108 rfl inA_X7 4 (by decide) q_48 rfl rfl dX7_peek_128 ?_
                refine z_iconst (z := 2) C dX7_peek_131 rfl ?_
                refine z_icmp_ne (tgt := 178) C dX7_peek_132 (by decide) (by omega) (by omega) (fun _ => ?_) (fun h => absurd h (by omega))
                have hgy109 := up_n egy103 ((f3 _ (by omega)).trans hg1) (by decide)
                have hgy110 := up_n egy107 hgy109 (by decide)
                exact z_vret C hr hlk dX7_peek_178 (by decide) (by decide) ⟨rfl, rfl, rfl, ⟨_, _, _, _, _, _, _, by omega, by omega, hgy108, hgy110⟩, fun j j1 => by rw [egy107, va_up_ne _ _ (by omega)]; rw [egy103, va_up_ne _ _ (by omega)]; exact f3 j j1⟩
              · refine z_aload_n C 0 dX7_peek_103 rfl ?_
                refine z_get (v := .int (zI (a8))) C (lt_K hN (rfl : Nat.blt (2) 952 = true)) hay6 hgy104 rfl inA_X7 5 (by decide) q_49 rfl rfl dX7_peek_104 ?_
                refine z_iconst (z := 1) C dX7_peek_107 rfl ?_
                refine z_iadd C dX7_peek_108 ?_
                refine z_goto (tgt := 116) C dX7_peek_109 (by decide) ?_
                refine z_put (fs' := [.int (zI (pl)), .int (zI (co)), .ref (ad 1), .int (zI (en)), .int (zI (0)), .int (zI (a8)), .int (zI (a8 + 1)), .int (zI (tk)), .int (zI (td))]) C (lt_K hN (rfl : Nat.blt (2) 952 = true)) hay6 hgy104 tyX7 tyX7_ok nmX7 rfl inA_X7 6 (by decide) q_50 rfl rfl rfl rfl (Nat.le_of_ble_eq_true rfl) rfl dX7_peek_116 (fun gy111 egy112 => ?_)
                have hgy113 := up_s egy112
                refine z_aload_n C 0 dX7_peek_119 rfl ?_
                refine z_get (v := .int (zI (0))) C (lt_K hN (rfl : Nat.blt (2) 952 = true)) hay6 hgy113 rfl inA_X7 4 (by decide) q_48 rfl rfl dX7_peek_120 ?_
                refine z_iconst (z := 1) C dX7_peek_123 rfl ?_
                refine z_icmp_eq (tgt := 135) C dX7_peek_124 (by decide) (by omega) (by omega) (fun h => absurd h (by omega)) (fun _ => ?_)
                refine z_aload_n C 0 dX7_peek_127 rfl ?_
                refine z_get (v := .int (zI (0))) C (lt_K hN (rfl : Nat.blt (2) 952 = true)) hay6 hgy113 rfl inA_X7 4 (by decide) q_48 rfl rfl dX7_peek_128 ?_
                refine z_iconst (z := 2) C dX7_peek_131 rfl ?_
                refine z_icmp_ne (tgt := 178) C dX7_peek_132 (by decide) (by omega) (by omega) (fun _ => ?_) (fun h => absurd h (by omega))
                have hgy114 := up_n egy103 ((f3 _ (by omega)).trans hg1) (by decide)
                have hgy115 := up_n egy112 hgy114 (by decide)
                exact z_vret C hr hlk dX7_peek_178 (by decide) (by decide) ⟨rfl, rfl, rfl, ⟨_, _, _, _, _, _, _, by omega, by omega, hgy113, hgy115⟩, fun j j1 => by rw [egy112, va_up_ne _ _ (by omega)]; rw [egy103, va_up_ne _ _ (by omega)]; exact f3 j j1⟩
            · refine z_aload_n C 0 dX7_peek_72 rfl ?_
              refine z_get (v := .ref (ad 1)) C (lt_K hN (rfl : Nat.blt (2) 952 = true)) hay6 f1 rfl inA_X7 2 (by decide) q_46 rfl rfl dX7_peek_73 ?_
              refine z_aload_n C 0 dX7_peek_76 rfl ?_
              refine z_get (v := .int (zI (a8))) C (lt_K hN (rfl : Nat.blt (2) 952 = true)) hay6 f1 rfl inA_X7 5 (by decide) q_49 rfl rfl dX7_peek_77 ?_
              refine z_bald C (lt_K hN (rfl : Nat.blt (1) 952 = true)) hay7 ((f3 _ (by omega)).trans hg1) ((a8).toNat) (by omega) (by omega) (by decide) dX7_peek_80 ?_
              obtain ⟨xy116, exy117, hxy118⟩ := zI_of (zI (tp ((a8).toNat)))
              rw [exy117]
              refine z_cS (As := [.int (zI (xy116))]) (rest := [.ref (ad 2)]) C (c_X7_typeOf l D A cs tt N ad _ (xy116) (by omega)) ms_yX7_typeOf q_746 hd_yX7_typeOf (by decide) (Nat.le_of_ble_eq_true rfl) (by decide) dX7_peek_81 rfl (kI0 fun vy119 gvy119 hvy119 => ?_)
              obtain ⟨hvy119, rfl⟩ := hvy119
              refine z_goto (tgt := 88) C dX7_peek_84 (by decide) ?_
              refine z_put (fs' := [.int (zI (pl)), .int (zI (co)), .ref (ad 1), .int (zI (en)), .int (zI (vy119)), .int (zI (a8)), .int (zI (be)), .int (zI (tk)), .int (zI (td))]) C (lt_K hN (rfl : Nat.blt (2) 952 = true)) hay6 f1 tyX7 tyX7_ok nmX7 rfl inA_X7 4 (by decide) q_48 rfl rfl rfl rfl (Nat.le_of_ble_eq_true rfl) rfl dX7_peek_88 (fun gy120 egy121 => ?_)
              have hgy122 := up_s egy121
              refine z_aload_n C 0 dX7_peek_91 rfl ?_
              refine z_aload_n C 0 dX7_peek_92 rfl ?_
              refine z_get (v := .int (zI (a8))) C (lt_K hN (rfl : Nat.blt (2) 952 = true)) hay6 hgy122 rfl inA_X7 5 (by decide) q_49 rfl rfl dX7_peek_93 ?_
              refine z_aload_n C 0 dX7_peek_96 rfl ?_
              refine z_get (v := .int (zI (en))) C (lt_K hN (rfl : Nat.blt (2) 952 = true)) hay6 hgy122 rfl inA_X7 3 (by decide) q_47 rfl rfl dX7_peek_97 ?_
              refine z_icmp_ge (tgt := 112) C dX7_peek_100 (by decide) (by omega) (by omega) (fun hby123 => ?_) (fun hby123 => ?_)
              · refine z_aload_n C 0 dX7_peek_112 rfl ?_
                refine z_get (v := .int (zI (en))) C (lt_K hN (rfl : Nat.blt (2) 952 = true)) hay6 hgy122 rfl inA_X7 3 (by decide) q_47 rfl rfl dX7_peek_113 ?_
                refine z_put (fs' := [.int (zI (pl)), .int (zI (co)), .ref (ad 1), .int (zI (en)), .int (zI (vy119)), .int (zI (a8)), .int (zI (en)), .int (zI (tk)), .int (zI (td))]) C (lt_K hN (rfl : Nat.blt (2) 952 = true)) hay6 hgy122 tyX7 tyX7_ok nmX7 rfl inA_X7 6 (by decide) q_50 rfl rfl rfl rfl (Nat.le_of_ble_eq_true rfl) rfl dX7_peek_116 (fun gy124 egy125 => ?_)
                have hgy126 := up_s egy125
                refine z_aload_n C 0 dX7_peek_119 rfl ?_
                refine z_get (v := .int (zI (vy119))) C (lt_K hN (rfl : Nat.blt (2) 952 = true)) hay6 hgy126 rfl inA_X7 4 (by decide) q_48 rfl rfl dX7_peek_120 ?_
                refine z_iconst (z := 1) C dX7_peek_123 rfl ?_
                refine z_icmp_eq (tgt := 135) C dX7_peek_124 (by decide) (by omega) (by omega) (fun hby127 => ?_) (fun hby127 => ?_)
                · have lp135 : ∀ (n9 : Nat) (b8 : Int) (t8 : Int) (a7 : Int) (g1 : Nat → va_E), (en - b8).toNat = n9 → (g1 2 = rdC ad (pl) (co) (en) (t8) (a7) (b8) (tk) (td)) → (∀ j, j ≠ 2 → g1 j = g j) → (0 ≤ a7 ∧ a7 ≤ b8 ∧ b8 ≤ en) → (0 ≤ t8 ∧ t8 ≤ 5) → zV p l e ({ frames := 2, cells := 0, slots := 0, locals := 120 } : Room) s m ([.ref (ad 2)] : List Value).toArray below meth c (MQ below (zPost D A (rV0 N ad fun g' => okRun cs ad g' co tp ∧ ∀ j, j ≠ 2 → g' j = g j)) ([.ref (ad 2)] : List Value).toArray s ({ frames := 2, cells := 0, slots := 0, locals := 120 } : Room).cells ({ frames := 2, cells := 0, slots := 0, locals := 120 } : Room).slots A) D A 1 (N) ad g1 (0) (0) 135 [(0, .ref (ad 2))] [] := by
                    intro n9
                    induction n9 using Nat.strongRecOn with
                    | ind n9 ih_lp135 =>
                      intro b8 t8 a7 g1 hm9 f1 f3 hy135_0 hy135_1
                      have hay128 : zAt ad (2) (ad 2) := rfl
                      have hay129 : zAt ad (1) (ad 1) := rfl
                      refine z_aload_n C 0 dX7_peek_135 rfl ?_
                      refine z_get (v := .int (zI (b8))) C (lt_K hN (rfl : Nat.blt (2) 952 = true)) hay128 f1 rfl inA_X7 6 (by decide) q_50 rfl rfl dX7_peek_136 ?_
                      refine z_aload_n C 0 dX7_peek_139 rfl ?_
                      refine z_get (v := .int (zI (en))) C (lt_K hN (rfl : Nat.blt (2) 952 = true)) hay128 f1 rfl inA_X7 3 (by decide) q_47 rfl rfl dX7_peek_140 ?_
                      refine z_icmp_ge (tgt := 178) C dX7_peek_143 (by decide) (by omega) (by omega) (fun hby130 => ?_) (fun hby130 => ?_)
                      · exact z_vret C hr hlk dX7_peek_178 (by decide) (by decide) ⟨rfl, rfl, rfl, ⟨_, _, _, _, _, _, _, by omega, by omega, f1, ((f3 _ (by omega)).trans hg1)⟩, fun j j1 => by exact f3 j j1⟩
                      · refine z_aload_n C 0 dX7_peek_146 rfl ?_
                        refine z_get (v := .ref (ad 1)) C (lt_K hN (rfl : Nat.blt (2) 952 = true)) hay128 f1 rfl inA_X7 2 (by decide) q_46 rfl rfl dX7_peek_147 ?_
                        refine z_aload_n C 0 dX7_peek_150 rfl ?_
                        refine z_get (v := .int (zI (b8))) C (lt_K hN (rfl : Nat.blt (2) 952 = true)) hay128 f1 rfl inA_X7 6 (by decide) q_50 rfl rfl dX7_peek_151 ?_
                        refine z_bald C (lt_K hN (rfl : Nat.blt (1) 952 = true)) hay129 ((f3 _ (by omega)).trans hg1) ((b8).toNat) (by omega) (by omega) (by decide) dX7_peek_154 ?_
                        obtain ⟨xy131, exy132, hxy133⟩ := zI_of (zI (tp ((b8).toNat)))
                        rw [exy132]
                        refine z_cS (As := [.int (zI (xy131))]) (rest := []) C (c_X7_typeOf l D A cs tt N ad _ (xy131) (by omega)) ms_yX7_typeOf q_746 hd_yX7_typeOf (by decide) (Nat.le_of_ble_eq_true rfl) (by decide) dX7_peek_155 rfl (kI0 fun vy134 gvy134 hvy134 => ?_)
                        obtain ⟨hvy134, rfl⟩ := hvy134
                        refine z_aload_n C 0 dX7_peek_158 rfl ?_
                        refine z_get (v := .int (zI (t8))) C (lt_K hN (rfl : Nat.blt (2) 952 = true)) hay128 f1 rfl inA_X7 4 (by decide) q_48 rfl rfl dX7_peek_159 ?_
                        refine z_icmp_ne (tgt := 178) C dX7_peek_162 (by decide) (by omega) (by omega) (fun hby135 => ?_) (fun hby135 => ?_)
                        · exact z_vret C hr hlk dX7_peek_178 (by decide) (by decide) ⟨rfl, rfl, rfl, ⟨_, _, _, _, _, _, _, by omega, by omega, f1, ((f3 _ (by omega)).trans hg1)⟩, fun j j1 => by exact f3 j j1⟩
                        · refine z_aload_n C 0 dX7_peek_165 rfl ?_
                          refine z_dup C dX7_peek_166 rfl ?_
                          refine z_get (v := .int (zI (b8))) C (lt_K hN (rfl : Nat.blt (2) 952 = true)) hay128 f1 rfl inA_X7 6 (by decide) q_50 rfl rfl dX7_peek_167 ?_
                          refine z_iconst (z := 1) C dX7_peek_170 rfl ?_
                          refine z_iadd C dX7_peek_171 ?_
                          refine z_put (fs' := [.int (zI (pl)), .int (zI (co)), .ref (ad 1), .int (zI (en)), .int (zI (t8)), .int (zI (a7)), .int (zI (b8 + 1)), .int (zI (tk)), .int (zI (td))]) C (lt_K hN (rfl : Nat.blt (2) 952 = true)) hay128 f1 tyX7 tyX7_ok nmX7 rfl inA_X7 6 (by decide) q_50 rfl rfl rfl rfl (Nat.le_of_ble_eq_true rfl) rfl dX7_peek_172 (fun gy136 egy137 => ?_)
                          have hgy138 := up_s egy137
                          refine z_goto (tgt := 135) C dX7_peek_175 (by decide) ?_
                          refine z_lv (lv' := [(0, .ref (ad 2))]) [0] rfl ?_
                          exact ih_lp135 _ (by omega) (b8 + 1) (t8) (a7) gy136 rfl hgy138 (fun j j1 => by rw [egy137, va_up_ne _ _ (by omega)]; exact f3 j j1) (by omega) (by omega)
                  refine z_lv (lv' := [(0, .ref (ad 2))]) [0] rfl ?_
                  exact lp135 _ (en) (vy119) (a8) gy124 rfl hgy126 (fun j j1 => by rw [egy125, va_up_ne _ _ (by omega)]; rw [egy121, va_up_ne _ _ (by omega)]; exact f3 j j1) (by omega) (by omega)
                · refine z_aload_n C 0 dX7_peek_127 rfl ?_
                  refine z_get (v := .int (zI (vy119))) C (lt_K hN (rfl : Nat.blt (2) 952 = true)) hay6 hgy126 rfl inA_X7 4 (by decide) q_48 rfl rfl dX7_peek_128 ?_
                  refine z_iconst (z := 2) C dX7_peek_131 rfl ?_
                  refine z_icmp_ne (tgt := 178) C dX7_peek_132 (by decide) (by omega) (by omega) (fun hby139 => ?_) (fun hby139 => ?_)
                  · have hgy140 := up_n egy121 ((f3 _ (by omega)).trans hg1) (by decide)
                    have hgy141 := up_n egy125 hgy140 (by decide)
                    exact z_vret C hr hlk dX7_peek_178 (by decide) (by decide) ⟨rfl, rfl, rfl, ⟨_, _, _, _, _, _, _, by omega, by omega, hgy126, hgy141⟩, fun j j1 => by rw [egy125, va_up_ne _ _ (by omega)]; rw [egy121, va_up_ne _ _ (by omega)]; exact f3 j j1⟩
                  · have lp135 : ∀ (n9 : Nat) (b8 : Int) (t8 : Int) (a7 : Int) (g1 : Nat → va_E), (en - b8).toNat = n9 → (g1 2 = rdC ad (pl) (co) (en) (t8) (a7) (b8) (tk) (td)) → (∀ j, j ≠ 2 → g1 j = g j) → (0 ≤ a7 ∧ a7 ≤ b8 ∧ b8 ≤ en) → (0 ≤ t8 ∧ t8 ≤ 5) → zV p l e ({ frames := 2, cells := 0, slots := 0, locals := 120 } : Room) s m ([.ref (ad 2)] : List Value).toArray below meth c (MQ below (zPost D A (rV0 N ad fun g' => okRun cs ad g' co tp ∧ ∀ j, j ≠ 2 → g' j = g j)) ([.ref (ad 2)] : List Value).toArray s ({ frames := 2, cells := 0, slots := 0, locals := 120 } : Room).cells ({ frames := 2, cells := 0, slots := 0, locals := 120 } : Room).slots A) D A 1 (N) ad g1 (0) (0) 135 [(0, .ref (ad 2))] [] := by
                      intro n9
                      induction n9 using Nat.strongRecOn with
                      | ind n9 ih_lp135 =>
                        intro b8 t8 a7 g1 hm9 f1 f3 hy135_0 hy135_1
                        have hay142 : zAt ad (2) (ad 2) := rfl
                        have hay143 : zAt ad (1) (ad 1) := rfl
                        refine z_aload_n C 0 dX7_peek_135 rfl ?_
                        refine z_get (v := .int (zI (b8))) C (lt_K hN (rfl : Nat.blt (2) 952 = true)) hay142 f1 rfl inA_X7 6 (by decide) q_50 rfl rfl dX7_peek_136 ?_
                        refine z_aload_n C 0 dX7_peek_139 rfl ?_
                        refine z_get (v := .int (zI (en))) C (lt_K hN (rfl : Nat.blt (2) 952 = true)) hay142 f1 rfl inA_X7 3 (by decide) q_47 rfl rfl dX7_peek_140 ?_
                        refine z_icmp_ge (tgt := 178) C dX7_peek_143 (by decide) (by omega) (by omega) (fun hby144 => ?_) (fun hby144 => ?_)
                        · exact z_vret C hr hlk dX7_peek_178 (by decide) (by decide) ⟨rfl, rfl, rfl, ⟨_, _, _, _, _, _, _, by omega, by omega, f1, ((f3 _ (by omega)).trans hg1)⟩, fun j j1 => by exact f3 j j1⟩
                        · refine z_aload_n C 0 dX7_peek_146 rfl ?_
                          refine z_get (v := .ref (ad 1)) C (lt_K hN (rfl : Nat.blt (2) 952 = true)) hay142 f1 rfl inA_X7 2 (by decide) q_46 rfl rfl dX7_peek_147 ?_
                          refine z_aload_n C 0 dX7_peek_150 rfl ?_
                          refine z_get (v := .int (zI (b8))) C (lt_K hN (rfl : Nat.blt (2) 952 = true)) hay142 f1 rfl inA_X7 6 (by decide) q_50 rfl rfl dX7_peek_151 ?_
                          refine z_bald C (lt_K hN (rfl : Nat.blt (1) 952 = true)) hay143 ((f3 _ (by omega)).trans hg1) ((b8).toNat) (by omega) (by omega) (by decide) dX7_peek_154 ?_
                          obtain ⟨xy145, exy146, hxy147⟩ := zI_of (zI (tp ((b8).toNat)))
                          rw [exy146]
                          refine z_cS (As := [.int (zI (xy145))]) (rest := []) C (c_X7_typeOf l D A cs tt N ad _ (xy145) (by omega)) ms_yX7_typeOf q_746 hd_yX7_typeOf (by decide) (Nat.le_of_ble_eq_true rfl) (by decide) dX7_peek_155 rfl (kI0 fun vy148 gvy148 hvy148 => ?_)
                          obtain ⟨hvy148, rfl⟩ := hvy148
                          refine z_aload_n C 0 dX7_peek_158 rfl ?_
                          refine z_get (v := .int (zI (t8))) C (lt_K hN (rfl : Nat.blt (2) 952 = true)) hay142 f1 rfl inA_X7 4 (by decide) q_48 rfl rfl dX7_peek_159 ?_
                          refine z_icmp_ne (tgt := 178) C dX7_peek_162 (by decide) (by omega) (by omega) (fun hby149 => ?_) (fun hby149 => ?_)
                          · exact z_vret C hr hlk dX7_peek_178 (by decide) (by decide) ⟨rfl, rfl, rfl, ⟨_, _, _, _, _, _, _, by omega, by omega, f1, ((f3 _ (by omega)).trans hg1)⟩, fun j j1 => by exact f3 j j1⟩
                          · refine z_aload_n C 0 dX7_peek_165 rfl ?_
                            refine z_dup C dX7_peek_166 rfl ?_
                            refine z_get (v := .int (zI (b8))) C (lt_K hN (rfl : Nat.blt (2) 952 = true)) hay142 f1 rfl inA_X7 6 (by decide) q_50 rfl rfl dX7_peek_167 ?_
                            refine z_iconst (z := 1) C dX7_peek_170 rfl ?_
                            refine z_iadd C dX7_peek_171 ?_
                            refine z_put (fs' := [.int (zI (pl)), .int (zI (co)), .ref (ad 1), .int (zI (en)), .int (zI (t8)), .int (zI (a7)), .int (zI (b8 + 1)), .int (zI (tk)), .int (zI (td))]) C (lt_K hN (rfl : Nat.blt (2) 952 = true)) hay142 f1 tyX7 tyX7_ok nmX7 rfl inA_X7 6 (by decide) q_50 rfl rfl rfl rfl (Nat.le_of_ble_eq_true rfl) rfl dX7_peek_172 (fun gy150 egy151 => ?_)
                            have hgy152 := up_s egy151
                            refine z_goto (tgt := 135) C dX7_peek_175 (by decide) ?_
                            refine z_lv (lv' := [(0, .ref (ad 2))]) [0] rfl ?_
                            exact ih_lp135 _ (by omega) (b8 + 1) (t8) (a7) gy150 rfl hgy152 (fun j j1 => by rw [egy151, va_up_ne _ _ (by omega)]; exact f3 j j1) (by omega) (by omega)
                    refine z_lv (lv' := [(0, .ref (ad 2))]) [0] rfl ?_
                    exact lp135 _ (en) (vy119) (a8) gy124 rfl hgy126 (fun j j1 => by rw [egy125, va_up_ne _ _ (by omega)]; rw [egy121, va_up_ne _ _ (by omega)]; exact f3 j j1) (by omega) (by omega)
              · refine z_aload_n C 0 dX7_peek_103 rfl ?_
                refine z_get (v := .int (zI (a8))) C (lt_K hN (rfl : Nat.blt (2) 952 = true)) hay6 hgy122 rfl inA_X7 5 (by decide) q_49 rfl rfl dX7_peek_104 ?_
                refine z_iconst (z := 1) C dX7_peek_107 rfl ?_
                refine z_iadd C dX7_peek_108 ?_
                refine z_goto (tgt := 116) C dX7_peek_109 (by decide) ?_
                refine z_put (fs' := [.int (zI (pl)), .int (zI (co)), .ref (ad 1), .int (zI (en)), .int (zI (vy119)), .int (zI (a8)), .int (zI (a8 + 1)), .int (zI (tk)), .int (zI (td))]) C (lt_K hN (rfl : Nat.blt (2) 952 = true)) hay6 hgy122 tyX7 tyX7_ok nmX7 rfl inA_X7 6 (by decide) q_50 rfl rfl rfl rfl (Nat.le_of_ble_eq_true rfl) rfl dX7_peek_116 (fun gy153 egy154 => ?_)
                have hgy155 := up_s egy154
                refine z_aload_n C 0 dX7_peek_119 rfl ?_
                refine z_get (v := .int (zI (vy119))) C (lt_K hN (rfl : Nat.blt (2) 952 = true)) hay6 hgy155 rfl inA_X7 4 (by decide) q_48 rfl rfl dX7_peek_120 ?_
                refine z_iconst (z := 1) C dX7_peek_123 rfl ?_
                refine z_icmp_eq (tgt := 135) C dX7_peek_124 (by decide) (by omega) (by omega) (fun hby156 => ?_) (fun hby156 => ?_)
                · have lp135 : ∀ (n9 : Nat) (b8 : Int) (t8 : Int) (a7 : Int) (g1 : Nat → va_E), (en - b8).toNat = n9 → (g1 2 = rdC ad (pl) (co) (en) (t8) (a7) (b8) (tk) (td)) → (∀ j, j ≠ 2 → g1 j = g j) → (0 ≤ a7 ∧ a7 ≤ b8 ∧ b8 ≤ en) → (0 ≤ t8 ∧ t8 ≤ 5) → zV p l e ({ frames := 2, cells := 0, slots := 0, locals := 120 } : Room) s m ([.ref (ad 2)] : List Value).toArray below meth c (MQ below (zPost D A (rV0 N ad fun g' => okRun cs ad g' co tp ∧ ∀ j, j ≠ 2 → g' j = g j)) ([.ref (ad 2)] : List Value).toArray s ({ frames := 2, cells := 0, slots := 0, locals := 120 } : Room).cells ({ frames := 2, cells := 0, slots := 0, locals := 120 } : Room).slots A) D A 1 (N) ad g1 (0) (0) 135 [(0, .ref (ad 2))] [] := by
                    intro n9
                    induction n9 using Nat.strongRecOn with
                    | ind n9 ih_lp135 =>
                      intro b8 t8 a7 g1 hm9 f1 f3 hy135_0 hy135_1
                      have hay157 : zAt ad (2) (ad 2) := rfl
                      have hay158 : zAt ad (1) (ad 1) := rfl
                      refine z_aload_n C 0 dX7_peek_135 rfl ?_
                      refine z_get (v := .int (zI (b8))) C (lt_K hN (rfl : Nat.blt (2) 952 = true)) hay157 f1 rfl inA_X7 6 (by decide) q_50 rfl rfl dX7_peek_136 ?_
                      refine z_aload_n C 0 dX7_peek_139 rfl ?_
                      refine z_get (v := .int (zI (en))) C (lt_K hN (rfl : Nat.blt (2) 952 = true)) hay157 f1 rfl inA_X7 3 (by decide) q_47 rfl rfl dX7_peek_140 ?_
                      refine z_icmp_ge (tgt := 178) C dX7_peek_143 (by decide) (by omega) (by omega) (fun hby159 => ?_) (fun hby159 => ?_)
                      · exact z_vret C hr hlk dX7_peek_178 (by decide) (by decide) ⟨rfl, rfl, rfl, ⟨_, _, _, _, _, _, _, by omega, by omega, f1, ((f3 _ (by omega)).trans hg1)⟩, fun j j1 => by exact f3 j j1⟩
                      · refine z_aload_n C 0 dX7_peek_146 rfl ?_
                        refine z_get (v := .ref (ad 1)) C (lt_K hN (rfl : Nat.blt (2) 952 = true)) hay157 f1 rfl inA_X7 2 (by decide) q_46 rfl rfl dX7_peek_147 ?_
                        refine z_aload_n C 0 dX7_peek_150 rfl ?_
                        refine z_get (v := .int (zI (b8))) C (lt_K hN (rfl : Nat.blt (2) 952 = true)) hay157 f1 rfl inA_X7 6 (by decide) q_50 rfl rfl dX7_peek_151 ?_
                        refine z_bald C (lt_K hN (rfl : Nat.blt (1) 952 = true)) hay158 ((f3 _ (by omega)).trans hg1) ((b8).toNat) (by omega) (by omega) (by decide) dX7_peek_154 ?_
                        obtain ⟨xy160, exy161, hxy162⟩ := zI_of (zI (tp ((b8).toNat)))
                        rw [exy161]
                        refine z_cS (As := [.int (zI (xy160))]) (rest := []) C (c_X7_typeOf l D A cs tt N ad _ (xy160) (by omega)) ms_yX7_typeOf q_746 hd_yX7_typeOf (by decide) (Nat.le_of_ble_eq_true rfl) (by decide) dX7_peek_155 rfl (kI0 fun vy163 gvy163 hvy163 => ?_)
                        obtain ⟨hvy163, rfl⟩ := hvy163
                        refine z_aload_n C 0 dX7_peek_158 rfl ?_
                        refine z_get (v := .int (zI (t8))) C (lt_K hN (rfl : Nat.blt (2) 952 = true)) hay157 f1 rfl inA_X7 4 (by decide) q_48 rfl rfl dX7_peek_159 ?_
                        refine z_icmp_ne (tgt := 178) C dX7_peek_162 (by decide) (by omega) (by omega) (fun hby164 => ?_) (fun hby164 => ?_)
                        · exact z_vret C hr hlk dX7_peek_178 (by decide) (by decide) ⟨rfl, rfl, rfl, ⟨_, _, _, _, _, _, _, by omega, by omega, f1, ((f3 _ (by omega)).trans hg1)⟩, fun j j1 => by exact f3 j j1⟩
                        · refine z_aload_n C 0 dX7_peek_165 rfl ?_
                          refine z_dup C dX7_peek_166 rfl ?_
                          refine z_get (v := .int (zI (b8))) C (lt_K hN (rfl : Nat.blt (2) 952 = true)) hay157 f1 rfl inA_X7 6 (by decide) q_50 rfl rfl dX7_peek_167 ?_
                          refine z_iconst (z := 1) C dX7_peek_170 rfl ?_
                          refine z_iadd C dX7_peek_171 ?_
                          refine z_put (fs' := [.int (zI (pl)), .int (zI (co)), .ref (ad 1), .int (zI (en)), .int (zI (t8)), .int (zI (a7)), .int (zI (b8 + 1)), .int (zI (tk)), .int (zI (td))]) C (lt_K hN (rfl : Nat.blt (2) 952 = true)) hay157 f1 tyX7 tyX7_ok nmX7 rfl inA_X7 6 (by decide) q_50 rfl rfl rfl rfl (Nat.le_of_ble_eq_true rfl) rfl dX7_peek_172 (fun gy165 egy166 => ?_)
                          have hgy167 := up_s egy166
                          refine z_goto (tgt := 135) C dX7_peek_175 (by decide) ?_
                          refine z_lv (lv' := [(0, .ref (ad 2))]) [0] rfl ?_
                          exact ih_lp135 _ (by omega) (b8 + 1) (t8) (a7) gy165 rfl hgy167 (fun j j1 => by rw [egy166, va_up_ne _ _ (by omega)]; exact f3 j j1) (by omega) (by omega)
                  refine z_lv (lv' := [(0, .ref (ad 2))]) [0] rfl ?_
                  exact lp135 _ (a8 + 1) (vy119) (a8) gy153 rfl hgy155 (fun j j1 => by rw [egy154, va_up_ne _ _ (by omega)]; rw [egy121, va_up_ne _ _ (by omega)]; exact f3 j j1) (by omega) (by omega)
                · refine z_aload_n C 0 dX7_peek_127 rfl ?_
                  refine z_get (v := .int (zI (vy119))) C (lt_K hN (rfl : Nat.blt (2) 952 = true)) hay6 hgy155 rfl inA_X7 4 (by decide) q_48 rfl rfl dX7_peek_128 ?_
                  refine z_iconst (z := 2) C dX7_peek_131 rfl ?_
                  refine z_icmp_ne (tgt := 178) C dX7_peek_132 (by decide) (by omega) (by omega) (fun hby168 => ?_) (fun hby168 => ?_)
                  · have hgy169 := up_n egy121 ((f3 _ (by omega)).trans hg1) (by decide)
                    have hgy170 := up_n egy154 hgy169 (by decide)
                    exact z_vret C hr hlk dX7_peek_178 (by decide) (by decide) ⟨rfl, rfl, rfl, ⟨_, _, _, _, _, _, _, by omega, by omega, hgy155, hgy170⟩, fun j j1 => by rw [egy154, va_up_ne _ _ (by omega)]; rw [egy121, va_up_ne _ _ (by omega)]; exact f3 j j1⟩
                  · have lp135 : ∀ (n9 : Nat) (b8 : Int) (t8 : Int) (a7 : Int) (g1 : Nat → va_E), (en - b8).toNat = n9 → (g1 2 = rdC ad (pl) (co) (en) (t8) (a7) (b8) (tk) (td)) → (∀ j, j ≠ 2 → g1 j = g j) → (0 ≤ a7 ∧ a7 ≤ b8 ∧ b8 ≤ en) → (0 ≤ t8 ∧ t8 ≤ 5) → zV p l e ({ frames := 2, cells := 0, slots := 0, locals := 120 } : Room) s m ([.ref (ad 2)] : List Value).toArray below meth c (MQ below (zPost D A (rV0 N ad fun g' => okRun cs ad g' co tp ∧ ∀ j, j ≠ 2 → g' j = g j)) ([.ref (ad 2)] : List Value).toArray s ({ frames := 2, cells := 0, slots := 0, locals := 120 } : Room).cells ({ frames := 2, cells := 0, slots := 0, locals := 120 } : Room).slots A) D A 1 (N) ad g1 (0) (0) 135 [(0, .ref (ad 2))] [] := by
                      intro n9
                      induction n9 using Nat.strongRecOn with
                      | ind n9 ih_lp135 =>
                        intro b8 t8 a7 g1 hm9 f1 f3 hy135_0 hy135_1
                        have hay171 : zAt ad (2) (ad 2) := rfl
                        have hay172 : zAt ad (1) (ad 1) := rfl
                        refine z_aload_n C 0 dX7_peek_135 rfl ?_
                        refine z_get (v := .int (zI (b8))) C (lt_K hN (rfl : Nat.blt (2) 952 = true)) hay171 f1 rfl inA_X7 6 (by decide) q_50 rfl rfl dX7_peek_136 ?_
                        refine z_aload_n C 0 dX7_peek_139 rfl ?_
                        refine z_get (v := .int (zI (en))) C (lt_K hN (rfl : Nat.blt (2) 952 = true)) hay171 f1 rfl inA_X7 3 (by decide) q_47 rfl rfl dX7_peek_140 ?_
                        refine z_icmp_ge (tgt := 178) C dX7_peek_143 (by decide) (by omega) (by omega) (fun hby173 => ?_) (fun hby173 => ?_)
                        · exact z_vret C hr hlk dX7_peek_178 (by decide) (by decide) ⟨rfl, rfl, rfl, ⟨_, _, _, _, _, _, _, by omega, by omega, f1, ((f3 _ (by omega)).trans hg1)⟩, fun j j1 => by exact f3 j j1⟩
                        · refine z_aload_n C 0 dX7_peek_146 rfl ?_
                          refine z_get (v := .ref (ad 1)) C (lt_K hN (rfl : Nat.blt (2) 952 = true)) hay171 f1 rfl inA_X7 2 (by decide) q_46 rfl rfl dX7_peek_147 ?_
                          refine z_aload_n C 0 dX7_peek_150 rfl ?_
                          refine z_get (v := .int (zI (b8))) C (lt_K hN (rfl : Nat.blt (2) 952 = true)) hay171 f1 rfl inA_X7 6 (by decide) q_50 rfl rfl dX7_peek_151 ?_
                          refine z_bald C (lt_K hN (rfl : Nat.blt (1) 952 = true)) hay172 ((f3 _ (by omega)).trans hg1) ((b8).toNat) (by omega) (by omega) (by decide) dX7_peek_154 ?_
                          obtain ⟨xy174, exy175, hxy176⟩ := zI_of (zI (tp ((b8).toNat)))
                          rw [exy175]
                          refine z_cS (As := [.int (zI (xy174))]) (rest := []) C (c_X7_typeOf l D A cs tt N ad _ (xy174) (by omega)) ms_yX7_typeOf q_746 hd_yX7_typeOf (by decide) (Nat.le_of_ble_eq_true rfl) (by decide) dX7_peek_155 rfl (kI0 fun vy177 gvy177 hvy177 => ?_)
                          obtain ⟨hvy177, rfl⟩ := hvy177
                          refine z_aload_n C 0 dX7_peek_158 rfl ?_
                          refine z_get (v := .int (zI (t8))) C (lt_K hN (rfl : Nat.blt (2) 952 = true)) hay171 f1 rfl inA_X7 4 (by decide) q_48 rfl rfl dX7_peek_159 ?_
                          refine z_icmp_ne (tgt := 178) C dX7_peek_162 (by decide) (by omega) (by omega) (fun hby178 => ?_) (fun hby178 => ?_)
                          · exact z_vret C hr hlk dX7_peek_178 (by decide) (by decide) ⟨rfl, rfl, rfl, ⟨_, _, _, _, _, _, _, by omega, by omega, f1, ((f3 _ (by omega)).trans hg1)⟩, fun j j1 => by exact f3 j j1⟩
                          · refine z_aload_n C 0 dX7_peek_165 rfl ?_
                            refine z_dup C dX7_peek_166 rfl ?_
                            refine z_get (v := .int (zI (b8))) C (lt_K hN (rfl : Nat.blt (2) 952 = true)) hay171 f1 rfl inA_X7 6 (by decide) q_50 rfl rfl dX7_peek_167 ?_
                            refine z_iconst (z := 1) C dX7_peek_170 rfl ?_
                            refine z_iadd C dX7_peek_171 ?_
                            refine z_put (fs' := [.int (zI (pl)), .int (zI (co)), .ref (ad 1), .int (zI (en)), .int (zI (t8)), .int (zI (a7)), .int (zI (b8 + 1)), .int (zI (tk)), .int (zI (td))]) C (lt_K hN (rfl : Nat.blt (2) 952 = true)) hay171 f1 tyX7 tyX7_ok nmX7 rfl inA_X7 6 (by decide) q_50 rfl rfl rfl rfl (Nat.le_of_ble_eq_true rfl) rfl dX7_peek_172 (fun gy179 egy180 => ?_)
                            have hgy181 := up_s egy180
                            refine z_goto (tgt := 135) C dX7_peek_175 (by decide) ?_
                            refine z_lv (lv' := [(0, .ref (ad 2))]) [0] rfl ?_
                            exact ih_lp135 _ (by omega) (b8 + 1) (t8) (a7) gy179 rfl hgy181 (fun j j1 => by rw [egy180, va_up_ne _ _ (by omega)]; exact f3 j j1) (by omega) (by omega)
                    refine z_lv (lv' := [(0, .ref (ad 2))]) [0] rfl ?_
                    exact lp135 _ (a8 + 1) (vy119) (a8) gy153 rfl hgy155 (fun j j1 => by rw [egy154, va_up_ne _ _ (by omega)]; rw [egy121, va_up_ne _ _ (by omega)]; exact f3 j j1) (by omega) (by omega)
          · refine z_aload_n C 0 dX7_peek_47 rfl ?_
            refine z_dup C dX7_peek_48 rfl ?_
            refine z_get (v := .int (zI (a8))) C (lt_K hN (rfl : Nat.blt (2) 952 = true)) hay6 f1 rfl inA_X7 5 (by decide) q_49 rfl rfl dX7_peek_49 ?_
            refine z_iconst (z := 1) C dX7_peek_52 rfl ?_
            refine z_iadd C dX7_peek_53 ?_
            refine z_put (fs' := [.int (zI (pl)), .int (zI (co)), .ref (ad 1), .int (zI (en)), .int (zI (ty)), .int (zI (a8 + 1)), .int (zI (be)), .int (zI (tk)), .int (zI (td))]) C (lt_K hN (rfl : Nat.blt (2) 952 = true)) hay6 f1 tyX7 tyX7_ok nmX7 rfl inA_X7 5 (by decide) q_49 rfl rfl rfl rfl (Nat.le_of_ble_eq_true rfl) rfl dX7_peek_54 (fun gy182 egy183 => ?_)
            have hgy184 := up_s egy183
            refine z_goto (tgt := 8) C dX7_peek_57 (by decide) ?_
            refine z_lv (lv' := [(0, .ref (ad 2))]) [0] rfl ?_
            exact ih_lp8 _ (by omega) (a8 + 1) gy182 rfl hgy184 (fun j j1 => by rw [egy183, va_up_ne _ _ (by omega)]; exact f3 j j1) (by omega)
  refine z_lv (lv' := [(0, .ref (ad 2))]) [0] rfl ?_
  exact lp8 _ (be) gy3 rfl hgy5 (fun j j1 => by rw [egy4, va_up_ne _ _ (by omega)]) (by omega)

set_option maxRecDepth 100000 in
set_option maxHeartbeats 4000000 in
theorem c_X7_take (l : Launch) (D : va_G) (A : Nat → Prop) (cs : Nat → ClassId) (tt : Nat) (N : Nat) (ad : Nat → Nat) (g : Nat → va_E) (hN : 952 ≤ N) (co : Int) (tp : Nat → Int) (hR : okRun cs ad g co tp) : zM l yX7_take cX7_take 1 none ({ frames := 3, cells := 0, slots := 0, locals := 180 } : Room) D A cs tt N ad g [.ref (ad 2)] (rV0 N ad fun g' => okRun cs ad g' co tp ∧ ∀ j, j ≠ 2 → g' j = g j) := by
  obtain ⟨pldy1, endy1, tydy1, a9dy1, bedy1, tkdy1, tddy1, hAdy1, hTdy1, hcdy1, hddy1⟩ := id hR
  have hay2 : zAt ad (2) (ad 2) := rfl
  have hay3 : zAt ad (1) (ad 1) := rfl
  refine z_of (by decide) (Nat.le_of_ble_eq_true rfl) ?_
  intro p e s m below meth c C hr hlk hnm
  refine z_lv (lv' := [(0, .ref (ad 2))]) [0] rfl ?_
  refine z_aload_n C 0 dX7_take_0 rfl ?_
  refine z_get (v := .int (zI (co))) C (lt_K hN (rfl : Nat.blt (2) 952 = true)) hay2 hcdy1 rfl inA_X7 1 (by decide) q_45 rfl rfl dX7_take_1 ?_
  refine z_if_ne (tgt := 19) C dX7_take_4 (by decide) (by omega) (fun hby4 => ?_) (fun hby4 => ?_)
  · exact z_vret C hr hlk dX7_take_19 (by decide) (by decide) ⟨rfl, rfl, rfl, ⟨_, _, _, _, _, _, _, by omega, by omega, hcdy1, hddy1⟩, fun j j1 => by rfl⟩
  · refine z_aload_n C 0 dX7_take_7 rfl ?_
    refine z_aload_n C 0 dX7_take_8 rfl ?_
    refine z_get (v := .int (zI (a9dy1))) C (lt_K hN (rfl : Nat.blt (2) 952 = true)) hay2 hcdy1 rfl inA_X7 5 (by decide) q_49 rfl rfl dX7_take_9 ?_
    refine z_put (fs' := [.int (zI (pldy1)), .int (zI (co)), .ref (ad 1), .int (zI (endy1)), .int (zI (tydy1)), .int (zI (a9dy1)), .int (zI (bedy1)), .int (zI (a9dy1)), .int (zI (tddy1))]) C (lt_K hN (rfl : Nat.blt (2) 952 = true)) hay2 hcdy1 tyX7 tyX7_ok nmX7 rfl inA_X7 7 (by decide) q_51 rfl rfl rfl rfl (Nat.le_of_ble_eq_true rfl) rfl dX7_take_12 (fun gy5 egy6 => ?_)
    have hgy7 := up_s egy6
    refine z_aload_n C 0 dX7_take_15 rfl ?_
    have hgy8 := up_n egy6 hddy1 (by decide)
    refine z_cV (As := []) (rest := []) (ci := 9) C (c_X7_peek l D A cs tt N ad _ (by omega) _ _ _ _ _ _ _ _ tp (by omega) hgy7 hgy8) (lt_K hN (rfl : Nat.blt (2) 952 = true)) hay2 hgy7 rfl rfl mv_yX7_peek q_742 hd_yX7_peek (by decide) (Nat.le_of_ble_eq_true rfl) (by decide) dX7_take_16 rfl (kV0 fun gvy9 hvy9 => ?_)
    obtain ⟨hkvy9, hfvy9⟩ := hvy9
    obtain ⟨pldy10, endy10, tydy10, a9dy10, bedy10, tkdy10, tddy10, hAdy10, hTdy10, hcdy10, hddy10⟩ := id hkvy9
    exact z_vret C hr hlk dX7_take_19 (by decide) (by decide) ⟨rfl, rfl, rfl, ⟨_, _, _, _, _, _, _, by omega, by omega, hcdy10, hddy10⟩, fun j j1 => by rw [hfvy9 _ (by omega)]; rw [egy6, va_up_ne _ _ (by omega)]⟩

set_option maxRecDepth 100000 in
set_option maxHeartbeats 4000000 in
theorem c_X7_fail (l : Launch) (D : va_G) (A : Nat → Prop) (cs : Nat → ClassId) (tt : Nat) (N : Nat) (ad : Nat → Nat) (g : Nat → va_E) (hN : 952 ≤ N) (co : Int) (tp : Nat → Int) (hR : okRun cs ad g co tp) (z : Int) (hz : 1 ≤ z ∧ z ≤ 5) (z1 : Int) (hz1 : -2147483648 ≤ z1 ∧ z1 ≤ 2147483647) : zM l yX7_fail cX7_fail 3 none ({ frames := 1, cells := 0, slots := 0, locals := 60 } : Room) D A cs tt N ad g [.ref (ad 2), .int (zI (z)), .int (zI (z1))] (rV0 N ad fun g' => (∃ co' : Int, okRun cs ad g' co' tp ∧ 1 ≤ co' ∧ co ≤ co') ∧ ∀ j, j ≠ 2 → g' j = g j) := by
  obtain ⟨pldy1, endy1, tydy1, a9dy1, bedy1, tkdy1, tddy1, hAdy1, hTdy1, hcdy1, hddy1⟩ := id hR
  have hay2 : zAt ad (2) (ad 2) := rfl
  have hay3 : zAt ad (1) (ad 1) := rfl
  refine z_of (by decide) (Nat.le_of_ble_eq_true rfl) ?_
  intro p e s m below meth c C hr hlk hnm
  refine z_lv (lv' := [(0, .ref (ad 2)), (1, .int (zI (z))), (2, .int (zI (z1)))]) [0, 1, 2] rfl ?_
  refine z_aload_n C 0 dX7_fail_0 rfl ?_
  refine z_get (v := .int (zI (co))) C (lt_K hN (rfl : Nat.blt (2) 952 = true)) hay2 hcdy1 rfl inA_X7 1 (by decide) q_45 rfl rfl dX7_fail_1 ?_
  refine z_if_ne (tgt := 17) C dX7_fail_4 (by decide) (by omega) (fun hby4 => ?_) (fun hby4 => ?_)
  · have hruny5 : okRun cs ad g (co) tp := ⟨_, _, _, _, _, _, _, by omega, by omega, hcdy1, hddy1⟩
    exact z_vret C hr hlk dX7_fail_17 (by decide) (by decide) ⟨rfl, rfl, rfl, ⟨_, hruny5, by omega, by omega⟩, fun j j1 => by rfl⟩
  · refine z_aload_n C 0 dX7_fail_7 rfl ?_
    refine z_iload_n C 1 dX7_fail_8 rfl ?_
    refine z_put (fs' := [.int (zI (pldy1)), .int (zI (z)), .ref (ad 1), .int (zI (endy1)), .int (zI (tydy1)), .int (zI (a9dy1)), .int (zI (bedy1)), .int (zI (tkdy1)), .int (zI (tddy1))]) C (lt_K hN (rfl : Nat.blt (2) 952 = true)) hay2 hcdy1 tyX7 tyX7_ok nmX7 rfl inA_X7 1 (by decide) q_45 rfl rfl rfl rfl (Nat.le_of_ble_eq_true rfl) rfl dX7_fail_9 (fun gy6 egy7 => ?_)
    have hgy8 := up_s egy7
    refine z_aload_n C 0 dX7_fail_12 rfl ?_
    refine z_iload_n C 2 dX7_fail_13 rfl ?_
    refine z_put (fs' := [.int (zI (z1)), .int (zI (z)), .ref (ad 1), .int (zI (endy1)), .int (zI (tydy1)), .int (zI (a9dy1)), .int (zI (bedy1)), .int (zI (tkdy1)), .int (zI (tddy1))]) C (lt_K hN (rfl : Nat.blt (2) 952 = true)) hay2 hgy8 tyX7 tyX7_ok nmX7 rfl inA_X7 0 (by decide) q_43 rfl rfl rfl rfl (Nat.le_of_ble_eq_true rfl) rfl dX7_fail_14 (fun gy9 egy10 => ?_)
    have hgy11 := up_s egy10
    have hgy13 := up_n egy7 hddy1 (by decide)
    have hgy14 := up_n egy10 hgy13 (by decide)
    have hruny12 : okRun cs ad gy9 (z) tp := ⟨_, _, _, _, _, _, _, by omega, by omega, hgy11, hgy14⟩
    exact z_vret C hr hlk dX7_fail_17 (by decide) (by decide) ⟨rfl, rfl, rfl, ⟨_, hruny12, by omega, by omega⟩, fun j j1 => by rw [egy10, va_up_ne _ _ (by omega)]; rw [egy7, va_up_ne _ _ (by omega)]⟩

set_option maxRecDepth 100000 in
set_option maxHeartbeats 4000000 in
theorem c_X7_close (l : Launch) (D : va_G) (A : Nat → Prop) (cs : Nat → ClassId) (tt : Nat) (N : Nat) (ad : Nat → Nat) (g : Nat → va_E) (hN : 952 ≤ N) (co : Int) (tp : Nat → Int) (hR : okRun cs ad g co tp) : zM l yX7_close cX7_close 1 none ({ frames := 4, cells := 0, slots := 0, locals := 240 } : Room) D A cs tt N ad g [.ref (ad 2)] (rV0 N ad fun g' => (∃ co' : Int, okRun cs ad g' co' tp ∧ co ≤ co') ∧ ∀ j, j ≠ 2 → g' j = g j) := by
  obtain ⟨pldy1, endy1, tydy1, a9dy1, bedy1, tkdy1, tddy1, hAdy1, hTdy1, hcdy1, hddy1⟩ := id hR
  have hay2 : zAt ad (2) (ad 2) := rfl
  have hay3 : zAt ad (1) (ad 1) := rfl
  refine z_of (by decide) (Nat.le_of_ble_eq_true rfl) ?_
  intro p e s m below meth c C hr hlk hnm
  refine z_lv (lv' := [(0, .ref (ad 2))]) [0] rfl ?_
  refine z_aload_n C 0 dX7_close_0 rfl ?_
  refine z_get (v := .int (zI (tydy1))) C (lt_K hN (rfl : Nat.blt (2) 952 = true)) hay2 hcdy1 rfl inA_X7 4 (by decide) q_48 rfl rfl dX7_close_1 ?_
  refine z_iconst (z := 3) C dX7_close_4 rfl ?_
  refine z_icmp_eq (tgt := 17) C dX7_close_5 (by decide) (by omega) (by omega) (fun hby4 => ?_) (fun hby4 => ?_)
  · refine z_aload_n C 0 dX7_close_17 rfl ?_
    have hruny5 : okRun cs ad g (co) tp := ⟨_, _, _, _, _, _, _, by omega, by omega, hcdy1, hddy1⟩
    refine z_cV (As := []) (rest := []) (ci := 9) C (c_X7_take l D A cs tt N ad _ (by omega) _ tp hruny5) (lt_K hN (rfl : Nat.blt (2) 952 = true)) hay2 hcdy1 rfl rfl mv_yX7_take q_813 hd_yX7_take (by decide) (Nat.le_of_ble_eq_true rfl) (by decide) dX7_close_18 rfl (kV0 fun gvy6 hvy6 => ?_)
    obtain ⟨hkvy6, hfvy6⟩ := hvy6
    obtain ⟨pldy7, endy7, tydy7, a9dy7, bedy7, tkdy7, tddy7, hAdy7, hTdy7, hcdy7, hddy7⟩ := id hkvy6
    have hruny8 : okRun cs ad gvy6 (co) tp := ⟨_, _, _, _, _, _, _, by omega, by omega, hcdy7, hddy7⟩
    exact z_vret C hr hlk dX7_close_21 (by decide) (by decide) ⟨rfl, rfl, rfl, ⟨_, hruny8, by omega⟩, fun j j1 => by rw [hfvy6 _ (by omega)]⟩
  · refine z_aload_n C 0 dX7_close_8 rfl ?_
    refine z_iconst (z := 1) C dX7_close_9 rfl ?_
    refine z_aload_n C 0 dX7_close_10 rfl ?_
    refine z_get (v := .int (zI (a9dy1))) C (lt_K hN (rfl : Nat.blt (2) 952 = true)) hay2 hcdy1 rfl inA_X7 5 (by decide) q_49 rfl rfl dX7_close_11 ?_
    have hruny9 : okRun cs ad g (co) tp := ⟨_, _, _, _, _, _, _, by omega, by omega, hcdy1, hddy1⟩
    refine z_cV (As := [.int (zI (1)), .int (zI (a9dy1))]) (rest := []) (ci := 9) C (c_X7_fail l D A cs tt N ad _ (by omega) _ tp hruny9 (1) (by omega) (a9dy1) (by omega)) (lt_K hN (rfl : Nat.blt (2) 952 = true)) hay2 hcdy1 rfl rfl mv_yX7_fail q_809 hd_yX7_fail (by decide) (Nat.le_of_ble_eq_true rfl) (by decide) dX7_close_14 rfl (kV0 fun gvy10 hvy10 => ?_)
    obtain ⟨⟨covy10, hkvy10, hnvy10⟩, hfvy10⟩ := hvy10
    obtain ⟨pldy11, endy11, tydy11, a9dy11, bedy11, tkdy11, tddy11, hAdy11, hTdy11, hcdy11, hddy11⟩ := id hkvy10
    refine z_aload_n C 0 dX7_close_17 rfl ?_
    have hruny12 : okRun cs ad gvy10 (covy10) tp := ⟨_, _, _, _, _, _, _, by omega, by omega, hcdy11, hddy11⟩
    refine z_cV (As := []) (rest := []) (ci := 9) C (c_X7_take l D A cs tt N ad _ (by omega) _ tp hruny12) (lt_K hN (rfl : Nat.blt (2) 952 = true)) hay2 hcdy11 rfl rfl mv_yX7_take q_813 hd_yX7_take (by decide) (Nat.le_of_ble_eq_true rfl) (by decide) dX7_close_18 rfl (kV0 fun gvy13 hvy13 => ?_)
    obtain ⟨hkvy13, hfvy13⟩ := hvy13
    obtain ⟨pldy14, endy14, tydy14, a9dy14, bedy14, tkdy14, tddy14, hAdy14, hTdy14, hcdy14, hddy14⟩ := id hkvy13
    have hruny15 : okRun cs ad gvy13 (covy10) tp := ⟨_, _, _, _, _, _, _, by omega, by omega, hcdy14, hddy14⟩
    exact z_vret C hr hlk dX7_close_21 (by decide) (by decide) ⟨rfl, rfl, rfl, ⟨_, hruny15, by omega⟩, fun j j1 => by rw [hfvy13 _ (by omega)]; rw [hfvy10 _ (by omega)]⟩

set_option maxRecDepth 100000 in
set_option maxHeartbeats 4000000 in
theorem c_X7_is (l : Launch) (D : va_G) (A : Nat → Prop) (cs : Nat → ClassId) (tt : Nat) (N : Nat) (ad : Nat → Nat) (g : Nat → va_E) (hN : 952 ≤ N) (co : Int) (tp : Nat → Int) (hR : okRun cs ad g co tp) (q : String × Nat × String × Nat × List Int32) (hq : q ∈ SKL) : zM l yX7_is cX7_is 3 (some .boolean) ({ frames := 5, cells := 0, slots := 0, locals := 300 } : Room) D A cs tt N ad g [.ref (ad 2), .ref (cs (100 + q.2.2.2.1))] (rI0 N ad fun r g' => (0 ≤ r ∧ r ≤ 1) ∧ g = g') := by
  obtain ⟨pldy1, endy1, tydy1, a9dy1, bedy1, tkdy1, tddy1, hAdy1, hTdy1, hcdy1, hddy1⟩ := id hR
  have hay2 : zAt ad (2) (ad 2) := rfl
  have hay3 : zAt ad (1) (ad 1) := rfl
  have hqL := SKL_len q hq
  refine z_of (by decide) (Nat.le_of_ble_eq_true rfl) ?_
  intro p e s m below meth c C hr hlk hnm
  refine z_lv (lv' := [(0, .ref (ad 2)), (1, .ref (cs (100 + q.2.2.2.1)))]) [0, 1] rfl ?_
  refine z_aload_n C 0 dX7_is_0 rfl ?_
  refine z_get (v := .int (zI (tydy1))) C (lt_K hN (rfl : Nat.blt (2) 952 = true)) hay2 hcdy1 rfl inA_X7 4 (by decide) q_48 rfl rfl dX7_is_1 ?_
  refine z_iconst (z := 1) C dX7_is_4 rfl ?_
  refine z_icmp_ne (tgt := 24) C dX7_is_5 (by decide) (by omega) (by omega) (fun hby4 => ?_) (fun hby4 => ?_)
  · refine z_iconst (z := 0) C dX7_is_24 rfl ?_
    exact z_zret C hr hlk dX7_is_25 (by decide) (by decide) (by decide) ⟨0, rfl, rfl, rfl, by omega, rfl⟩
  · refine z_aload_n C 0 dX7_is_8 rfl ?_
    refine z_get (v := .int (zI (bedy1))) C (lt_K hN (rfl : Nat.blt (2) 952 = true)) hay2 hcdy1 rfl inA_X7 6 (by decide) q_50 rfl rfl dX7_is_9 ?_
    refine z_aload_n C 0 dX7_is_12 rfl ?_
    refine z_get (v := .int (zI (a9dy1))) C (lt_K hN (rfl : Nat.blt (2) 952 = true)) hay2 hcdy1 rfl inA_X7 5 (by decide) q_49 rfl rfl dX7_is_13 ?_
    refine z_isub C dX7_is_16 ?_
    refine z_aload_n C 1 dX7_is_17 rfl ?_
    refine z_cVs (As := []) (rest := [.int (zI (bedy1 - a9dy1))]) C hq (c_slen l D A cs tt N ad _ q hq) rfl mv_yJ0_length_8abf5 q_758 hd_yJ0_length_8abf5 (by decide) (Nat.le_of_ble_eq_true rfl) (by decide) dX7_is_18 rfl (kI0 fun vy5 gvy5 hvy5 => ?_)
    obtain ⟨rfl, rfl⟩ := hvy5
    refine z_icmp_eq (tgt := 26) C dX7_is_21 (by decide) (by omega) (by omega) (fun hby6 => ?_) (fun hby6 => ?_)
    · refine z_iconst (z := 0) C dX7_is_26 rfl ?_
      refine z_istore_n (lv' := [(2, .int (zI (0))), (0, .ref (ad 2)), (1, .ref (cs (100 + q.2.2.2.1)))]) C dX7_is_27 rfl (by decide) rfl ?_
      have lp : ∀ (n9 : Nat) (i : Int) (g1 : Nat → va_E), (6 - i).toNat = n9 → (g1 = g) → (0 ≤ i ∧ i ≤ (q.2.2.2.2.length : Int)) → zV p l e ({ frames := 5, cells := 0, slots := 0, locals := 300 } : Room) s m ([.ref (ad 2), .ref (cs (100 + q.2.2.2.1))] : List Value).toArray below meth c (MQ below (zPost D A (rI0 N ad fun r g' => (0 ≤ r ∧ r ≤ 1) ∧ g = g')) ([.ref (ad 2), .ref (cs (100 + q.2.2.2.1))] : List Value).toArray s ({ frames := 5, cells := 0, slots := 0, locals := 300 } : Room).cells ({ frames := 5, cells := 0, slots := 0, locals := 300 } : Room).slots A) D A 3 (N) ad g1 (0) (0) 28 [(2, .int (zI (i))), (0, .ref (ad 2)), (1, .ref (cs (100 + q.2.2.2.1)))] [] := by
        intro n9
        induction n9 using Nat.strongRecOn with
        | ind n9 ih =>
          intro i g1 hm9 hg1 hi9
          subst hg1
          refine z_iload_n C 0 dX7_is_28 rfl ?_
          refine z_aload_n C 2 dX7_is_29 rfl ?_
          refine z_cVs (As := []) (rest := [.int (zI (i))]) C hq (c_slen l D A cs tt N ad _ q hq) rfl mv_yJ0_length_8abf5 q_758 hd_yJ0_length_8abf5 (by decide) (Nat.le_of_ble_eq_true rfl) (by decide) dX7_is_30 rfl (kI0 fun vy7 gvy7 hvy7 => ?_)
          obtain ⟨rfl, rfl⟩ := hvy7
          refine z_icmp_ge (tgt := 63) C dX7_is_33 (by decide) (by omega) (by omega) (fun hby8 => ?_) (fun hby8 => ?_)
          · refine z_iconst (z := 1) C dX7_is_63 rfl ?_
            exact z_zret C hr hlk dX7_is_64 (by decide) (by decide) (by decide) ⟨1, rfl, rfl, rfl, by omega, rfl⟩
          · refine z_aload_n C 1 dX7_is_36 rfl ?_
            refine z_get (v := .ref (ad 1)) C (lt_K hN (rfl : Nat.blt (2) 952 = true)) hay2 hcdy1 rfl inA_X7 2 (by decide) q_46 rfl rfl dX7_is_37 ?_
            refine z_aload_n C 1 dX7_is_40 rfl ?_
            refine z_get (v := .int (zI (a9dy1))) C (lt_K hN (rfl : Nat.blt (2) 952 = true)) hay2 hcdy1 rfl inA_X7 5 (by decide) q_49 rfl rfl dX7_is_41 ?_
            refine z_iload_n C 0 dX7_is_44 rfl ?_
            refine z_iadd C dX7_is_45 ?_
            refine z_bald C (lt_K hN (rfl : Nat.blt (1) 952 = true)) hay3 hddy1 ((a9dy1 + i).toNat) (by omega) (by omega) (by decide) dX7_is_46 ?_
            refine z_aload_n C 2 dX7_is_47 rfl ?_
            refine z_iload_n C 0 dX7_is_48 rfl ?_
            refine z_cVs (As := [.int (zI (i))]) (rest := [.int (zI (tp ((a9dy1 + i).toNat)))]) C hq (c_scharAt l D A cs tt N ad _ q hq (i) (by omega)) rfl mv_yJ0_charAt_5068e q_767 hd_yJ0_charAt_5068e (by decide) (Nat.le_of_ble_eq_true rfl) (by decide) dX7_is_49 rfl (kI0 fun vy9 gvy9 hvy9 => ?_)
            obtain ⟨hvy9, rfl⟩ := hvy9
            obtain ⟨xy10, exy11, hxy12⟩ := zI_of (zI (tp ((a9dy1 + i).toNat)))
            rw [exy11]
            refine z_icmp_eq (tgt := 57) C dX7_is_52 (by decide) (by omega) (by omega) (fun hby13 => ?_) (fun hby13 => ?_)
            · refine z_iinc (z := i + 1) (lv' := [(2, .int (zI (i + 1))), (0, .ref (ad 2)), (1, .ref (cs (100 + q.2.2.2.1)))]) (j := 0) C dX7_is_57 rfl rfl (by decide) rfl ?_
              refine z_goto (tgt := 28) C dX7_is_60 (by decide) ?_
              refine z_lv (lv' := [(2, .int (zI (i + 1))), (0, .ref (ad 2)), (1, .ref (cs (100 + q.2.2.2.1)))]) [0, 1, 2] rfl ?_
              exact ih _ (by omega) (i + 1) _ rfl rfl (by omega)
            · refine z_iconst (z := 0) C dX7_is_55 rfl ?_
              exact z_zret C hr hlk dX7_is_56 (by decide) (by decide) (by decide) ⟨0, rfl, rfl, rfl, by omega, rfl⟩
      refine z_lv (lv' := [(2, .int (zI (0))), (0, .ref (ad 2)), (1, .ref (cs (100 + q.2.2.2.1)))]) [0, 1, 2] rfl ?_
      exact lp _ (0) _ rfl rfl (by omega)
    · refine z_iconst (z := 0) C dX7_is_24 rfl ?_
      exact z_zret C hr hlk dX7_is_25 (by decide) (by decide) (by decide) ⟨0, rfl, rfl, rfl, by omega, rfl⟩

set_option maxRecDepth 100000 in
set_option maxHeartbeats 4000000 in
theorem c_kindWord (l : Launch) (D : va_G) (A : Nat → Prop) (cs : Nat → ClassId) (tt : Nat) (N : Nat) (ad : Nat → Nat) (g : Nat → va_E) (z : Int) (hz : -2147483648 ≤ z ∧ z ≤ 2147483647) : zM l yX9_kindWord cX9_kindWord 1 (some (.object "java/lang/String")) ({ frames := 1, cells := 0, slots := 0, locals := 60 } : Room) D A cs tt N ad g [.int (zI (z))] (rR0 N ad fun a g' => (∃ q ∈ SKL, a = cs (100 + q.2.2.2.1)) ∧ g = g') := by
  refine z_of (by decide) (Nat.le_of_ble_eq_true rfl) ?_
  intro p e s m below meth c C hr hlk hnm
  refine z_lv (lv' := [(0, .int (zI (z)))]) [0] rfl ?_
  refine z_iload_n C 0 dX9_kindWord_0 rfl ?_
  by_cases hsy1 : z ≠ 0 ∧ z ≠ 1 ∧ z ≠ 2 ∧ z ≠ 3
  · refine z_tout (tgt := 48) C dX9_kindWord_1 (by omega) (by omega) (by decide) ?_
    refine z_ldcwS C skm6 rfl rfl dX9_kindWord_48 ?_
    exact z_aret C hr (Or.inl ⟨_, rfl⟩) hlk dX9_kindWord_51 (by decide) (by decide) ⟨_, rfl, rfl, rfl, ⟨_, skm6, rfl⟩, rfl⟩
  · rcases (show z = 0 ∨ z = 1 ∨ z = 2 ∨ z = 3 by omega) with rfl | rfl | rfl | rfl
    · refine z_tin (off := 31) (tgt := 32) C dX9_kindWord_1 (by omega) (by omega) (by omega) rfl (by decide) ?_
      refine z_ldcwS C skm2 rfl rfl dX9_kindWord_32 ?_
      exact z_aret C hr (Or.inl ⟨_, rfl⟩) hlk dX9_kindWord_35 (by decide) (by decide) ⟨_, rfl, rfl, rfl, ⟨_, skm2, rfl⟩, rfl⟩
    · refine z_tin (off := 35) (tgt := 36) C dX9_kindWord_1 (by omega) (by omega) (by omega) rfl (by decide) ?_
      refine z_ldcwS C skm3 rfl rfl dX9_kindWord_36 ?_
      exact z_aret C hr (Or.inl ⟨_, rfl⟩) hlk dX9_kindWord_39 (by decide) (by decide) ⟨_, rfl, rfl, rfl, ⟨_, skm3, rfl⟩, rfl⟩
    · refine z_tin (off := 39) (tgt := 40) C dX9_kindWord_1 (by omega) (by omega) (by omega) rfl (by decide) ?_
      refine z_ldcwS C skm4 rfl rfl dX9_kindWord_40 ?_
      exact z_aret C hr (Or.inl ⟨_, rfl⟩) hlk dX9_kindWord_43 (by decide) (by decide) ⟨_, rfl, rfl, rfl, ⟨_, skm4, rfl⟩, rfl⟩
    · refine z_tin (off := 43) (tgt := 44) C dX9_kindWord_1 (by omega) (by omega) (by omega) rfl (by decide) ?_
      refine z_ldcwS C skm5 rfl rfl dX9_kindWord_44 ?_
      exact z_aret C hr (Or.inl ⟨_, rfl⟩) hlk dX9_kindWord_47 (by decide) (by decide) ⟨_, rfl, rfl, rfl, ⟨_, skm5, rfl⟩, rfl⟩

set_option maxRecDepth 100000 in
set_option maxHeartbeats 4000000 in
theorem c_X7_kind (l : Launch) (D : va_G) (A : Nat → Prop) (cs : Nat → ClassId) (tt : Nat) (N : Nat) (ad : Nat → Nat) (g : Nat → va_E) (hN : 952 ≤ N) (co : Int) (tp : Nat → Int) (hR : okRun cs ad g co tp) : zM l yX7_kind cX7_kind 2 (some .int) ({ frames := 6, cells := 0, slots := 0, locals := 360 } : Room) D A cs tt N ad g [.ref (ad 2)] (rI0 N ad fun r g' => (0 ≤ r ∧ r ≤ 4) ∧ (∃ co' : Int, okRun cs ad g' co' tp ∧ co ≤ co') ∧ ∀ j, j ≠ 2 → g' j = g j) := by
  obtain ⟨pldy1, endy1, tydy1, a9dy1, bedy1, tkdy1, tddy1, hAdy1, hTdy1, hcdy1, hddy1⟩ := id hR
  have hay2 : zAt ad (2) (ad 2) := rfl
  have hay3 : zAt ad (1) (ad 1) := rfl
  refine z_of (by decide) (Nat.le_of_ble_eq_true rfl) ?_
  intro p e s m below meth c C hr hlk hnm
  refine z_lv (lv' := [(0, .ref (ad 2))]) [0] rfl ?_
  refine z_iconst (z := 0) C dX7_kind_0 rfl ?_
  refine z_istore_n (lv' := [(1, .int (zI (0))), (0, .ref (ad 2))]) C dX7_kind_1 rfl (by decide) rfl ?_
  have lp : ∀ (n9 : Nat) (i : Int) (g1 : Nat → va_E), (5 - i).toNat = n9 → (g1 = g) → (0 ≤ i ∧ i ≤ 5) → zV p l e ({ frames := 6, cells := 0, slots := 0, locals := 360 } : Room) s m ([.ref (ad 2)] : List Value).toArray below meth c (MQ below (zPost D A (rI0 N ad fun r g' => (0 ≤ r ∧ r ≤ 4) ∧ (∃ co' : Int, okRun cs ad g' co' tp ∧ co ≤ co') ∧ ∀ j, j ≠ 2 → g' j = g j)) ([.ref (ad 2)] : List Value).toArray s ({ frames := 6, cells := 0, slots := 0, locals := 360 } : Room).cells ({ frames := 6, cells := 0, slots := 0, locals := 360 } : Room).slots A) D A 2 (N) ad g1 (0) (0) 2 [(1, .int (zI (i))), (0, .ref (ad 2))] [] := by
    intro n9
    induction n9 using Nat.strongRecOn with
    | ind n9 ih =>
      intro i g1 hm9 hg1 hi9
      subst hg1
      refine z_iload_n C 0 dX7_kind_2 rfl ?_
      refine z_iconst (z := 5) C dX7_kind_3 rfl ?_
      refine z_icmp_ge (tgt := 30) C dX7_kind_4 (by decide) (by omega) (by omega) (fun hby4 => ?_) (fun hby4 => ?_)
      · refine z_aload_n C 1 dX7_kind_30 rfl ?_
        refine z_iconst (z := 1) C dX7_kind_31 rfl ?_
        refine z_aload_n C 1 dX7_kind_32 rfl ?_
        refine z_get (v := .int (zI (a9dy1))) C (lt_K hN (rfl : Nat.blt (2) 952 = true)) hay2 hcdy1 rfl inA_X7 5 (by decide) q_49 rfl rfl dX7_kind_33 ?_
        have hruny5 : okRun cs ad g1 (co) tp := ⟨_, _, _, _, _, _, _, by omega, by omega, hcdy1, hddy1⟩
        refine z_cV (As := [.int (zI (1)), .int (zI (a9dy1))]) (rest := []) (ci := 9) C (c_X7_fail l D A cs tt N ad _ (by omega) _ tp hruny5 (1) (by omega) (a9dy1) (by omega)) (lt_K hN (rfl : Nat.blt (2) 952 = true)) hay2 hcdy1 rfl rfl mv_yX7_fail q_809 hd_yX7_fail (by decide) (Nat.le_of_ble_eq_true rfl) (by decide) dX7_kind_36 rfl (kV0 fun gvy6 hvy6 => ?_)
        obtain ⟨⟨covy6, hkvy6, hnvy6⟩, hfvy6⟩ := hvy6
        obtain ⟨pldy7, endy7, tydy7, a9dy7, bedy7, tkdy7, tddy7, hAdy7, hTdy7, hcdy7, hddy7⟩ := id hkvy6
        refine z_iconst (z := 0) C dX7_kind_39 rfl ?_
        have hruny8 : okRun cs ad gvy6 (covy6) tp := ⟨_, _, _, _, _, _, _, by omega, by omega, hcdy7, hddy7⟩
        exact z_iret C hr hlk dX7_kind_40 (by decide) (by decide) ⟨0, rfl, rfl, rfl, by omega, ⟨_, hruny8, by omega⟩, fun j j1 => by rw [hfvy6 _ (by omega)]⟩
      · refine z_aload_n C 1 dX7_kind_7 rfl ?_
        refine z_iload_n C 0 dX7_kind_8 rfl ?_
        refine z_cSN (As := [.int (zI (i))]) (rest := [.ref (ad 2)]) C (c_kindWord l D A cs tt N ad _ (i) (by omega)) ms_yX9_kindWord n_834 hd_yX9_kindWord (by decide) (Nat.le_of_ble_eq_true rfl) (by decide) dX7_kind_9 rfl (kR0 fun avy9 gvy9 hvy9 => ?_)
        obtain ⟨⟨qvy9, hqvy9, rfl⟩, rfl⟩ := hvy9
        have hruny10 : okRun cs ad g1 (co) tp := ⟨_, _, _, _, _, _, _, by omega, by omega, hcdy1, hddy1⟩
        refine z_cV (As := [.ref (cs (100 + qvy9.2.2.2.1))]) (rest := []) (ci := 9) C (c_X7_is l D A cs tt N ad _ (by omega) _ tp hruny10 _ hqvy9) (lt_K hN (rfl : Nat.blt (2) 952 = true)) hay2 hcdy1 rfl rfl mv_yX7_is q_754 hd_yX7_is (by decide) (Nat.le_of_ble_eq_true rfl) (by decide) dX7_kind_12 rfl (kI0 fun vy11 gvy11 hvy11 => ?_)
        obtain ⟨hvy11, rfl⟩ := hvy11
        refine z_if_eq (tgt := 24) C dX7_kind_15 (by decide) (by omega) (fun hby12 => ?_) (fun hby12 => ?_)
        · refine z_iinc (z := i + 1) (lv' := [(1, .int (zI (i + 1))), (0, .ref (ad 2))]) (j := 0) C dX7_kind_24 rfl rfl (by decide) rfl ?_
          refine z_goto (tgt := 2) C dX7_kind_27 (by decide) ?_
          refine z_lv (lv' := [(1, .int (zI (i + 1))), (0, .ref (ad 2))]) [0, 1] rfl ?_
          exact ih _ (by omega) (i + 1) _ rfl rfl (by omega)
        · refine z_aload_n C 1 dX7_kind_18 rfl ?_
          have hruny13 : okRun cs ad g1 (co) tp := ⟨_, _, _, _, _, _, _, by omega, by omega, hcdy1, hddy1⟩
          refine z_cV (As := []) (rest := []) (ci := 9) C (c_X7_take l D A cs tt N ad _ (by omega) _ tp hruny13) (lt_K hN (rfl : Nat.blt (2) 952 = true)) hay2 hcdy1 rfl rfl mv_yX7_take q_813 hd_yX7_take (by decide) (Nat.le_of_ble_eq_true rfl) (by decide) dX7_kind_19 rfl (kV0 fun gvy14 hvy14 => ?_)
          obtain ⟨hkvy14, hfvy14⟩ := hvy14
          obtain ⟨pldy15, endy15, tydy15, a9dy15, bedy15, tkdy15, tddy15, hAdy15, hTdy15, hcdy15, hddy15⟩ := id hkvy14
          refine z_iload_n C 0 dX7_kind_22 rfl ?_
          have hruny16 : okRun cs ad gvy14 (co) tp := ⟨_, _, _, _, _, _, _, by omega, by omega, hcdy15, hddy15⟩
          exact z_iret C hr hlk dX7_kind_23 (by decide) (by decide) ⟨i, rfl, rfl, rfl, by omega, ⟨_, hruny16, by omega⟩, fun j j1 => by rw [hfvy14 _ (by omega)]⟩
  refine z_lv (lv' := [(1, .int (zI (0))), (0, .ref (ad 2))]) [0, 1] rfl ?_
  exact lp _ (0) _ rfl rfl (by omega)

set_option maxRecDepth 100000 in
set_option maxHeartbeats 4000000 in
theorem c_X7_number (l : Launch) (D : va_G) (A : Nat → Prop) (cs : Nat → ClassId) (tt : Nat) (N : Nat) (ad : Nat → Nat) (g : Nat → va_E) (hN : 952 ≤ N) (co : Int) (tp : Nat → Int) (hR : okRun cs ad g co tp) (z : Int) (hz : 0 ≤ z ∧ z ≤ 9999) (z1 : Int) (hz1 : 0 ≤ z1 ∧ z1 ≤ 9999) : zM l yX7_number cX7_number 5 (some .int) ({ frames := 5, cells := 0, slots := 0, locals := 300 } : Room) D A cs tt N ad g [.ref (ad 2), .int (zI (z)), .int (zI (z1))] (rI0 N ad fun r g' => (0 ≤ r ∧ r ≤ z1) ∧ (∃ co' : Int, okRun cs ad g' co' tp ∧ co ≤ co') ∧ ∀ j, j ≠ 2 → g' j = g j) := by
  obtain ⟨pldy1, endy1, tydy1, a9dy1, bedy1, tkdy1, tddy1, hAdy1, hTdy1, hcdy1, hddy1⟩ := id hR
  have hay2 : zAt ad (2) (ad 2) := rfl
  have hay3 : zAt ad (1) (ad 1) := rfl
  refine z_of (by decide) (Nat.le_of_ble_eq_true rfl) ?_
  intro p e s m below meth c C hr hlk hnm
  refine z_lv (lv' := [(0, .ref (ad 2)), (1, .int (zI (z))), (2, .int (zI (z1)))]) [0, 1, 2] rfl ?_
  refine z_aload_n C 0 dX7_number_0 rfl ?_
  refine z_get (v := .int (zI (tydy1))) C (lt_K hN (rfl : Nat.blt (2) 952 = true)) hay2 hcdy1 rfl inA_X7 4 (by decide) q_48 rfl rfl dX7_number_1 ?_
  refine z_iconst (z := 2) C dX7_number_4 rfl ?_
  refine z_icmp_eq (tgt := 19) C dX7_number_5 (by decide) (by omega) (by omega) (fun hby4 => ?_) (fun hby4 => ?_)
  · refine z_iconst (z := 0) C dX7_number_19 rfl ?_
    refine z_istore_n (lv' := [(3, .int (zI (0))), (0, .ref (ad 2)), (1, .int (zI (z))), (2, .int (zI (z1)))]) C dX7_number_20 rfl (by decide) rfl ?_
    refine z_aload_n C 1 dX7_number_21 rfl ?_
    refine z_get (v := .int (zI (a9dy1))) C (lt_K hN (rfl : Nat.blt (2) 952 = true)) hay2 hcdy1 rfl inA_X7 5 (by decide) q_49 rfl rfl dX7_number_22 ?_
    refine z_istore (lv' := [(4, .int (zI (a9dy1))), (3, .int (zI (0))), (0, .ref (ad 2)), (1, .int (zI (z))), (2, .int (zI (z1)))]) C dX7_number_25 (by decide) rfl ?_
    have lp : ∀ (n9 : Nat) (i : Int) (va : Int) (g1 : Nat → va_E), (900 - i).toNat = n9 → (g1 = g) → (0 ≤ i ∧ i ≤ 900) → (-2147483648 ≤ va ∧ va ≤ 2147483647) → zV p l e ({ frames := 5, cells := 0, slots := 0, locals := 300 } : Room) s m ([.ref (ad 2), .int (zI (z)), .int (zI (z1))] : List Value).toArray below meth c (MQ below (zPost D A (rI0 N ad fun r g' => (0 ≤ r ∧ r ≤ z1) ∧ (∃ co' : Int, okRun cs ad g' co' tp ∧ co ≤ co') ∧ ∀ j, j ≠ 2 → g' j = g j)) ([.ref (ad 2), .int (zI (z)), .int (zI (z1))] : List Value).toArray s ({ frames := 5, cells := 0, slots := 0, locals := 300 } : Room).cells ({ frames := 5, cells := 0, slots := 0, locals := 300 } : Room).slots A) D A 5 (N) ad g1 (0) (0) 27 [(4, .int (zI (i))), (3, .int (zI (va))), (0, .ref (ad 2)), (1, .int (zI (z))), (2, .int (zI (z1)))] [] := by
      intro n9
      induction n9 using Nat.strongRecOn with
      | ind n9 ih =>
        intro i va g1 hm9 hg1 hi9 hv9
        subst hg1
        refine z_iload C 0 dX7_number_27 rfl ?_
        refine z_aload_n C 2 dX7_number_29 rfl ?_
        refine z_get (v := .int (zI (bedy1))) C (lt_K hN (rfl : Nat.blt (2) 952 = true)) hay2 hcdy1 rfl inA_X7 6 (by decide) q_50 rfl rfl dX7_number_30 ?_
        refine z_icmp_ge (tgt := 63) C dX7_number_33 (by decide) (by omega) (by omega) (fun hby5 => ?_) (fun hby5 => ?_)
        · refine z_aload_n C 2 dX7_number_63 rfl ?_
          refine z_get (v := .int (zI (bedy1))) C (lt_K hN (rfl : Nat.blt (2) 952 = true)) hay2 hcdy1 rfl inA_X7 6 (by decide) q_50 rfl rfl dX7_number_64 ?_
          refine z_aload_n C 2 dX7_number_67 rfl ?_
          refine z_get (v := .int (zI (a9dy1))) C (lt_K hN (rfl : Nat.blt (2) 952 = true)) hay2 hcdy1 rfl inA_X7 5 (by decide) q_49 rfl rfl dX7_number_68 ?_
          refine z_isub C dX7_number_71 ?_
          refine z_iconst (z := 4) C dX7_number_72 rfl ?_
          refine z_icmp_gt (tgt := 86) C dX7_number_73 (by decide) (by omega) (by omega) (fun hby6 => ?_) (fun hby6 => ?_)
          · refine z_aload_n C 2 dX7_number_86 rfl ?_
            refine z_iconst (z := 2) C dX7_number_87 rfl ?_
            refine z_aload_n C 2 dX7_number_88 rfl ?_
            refine z_get (v := .int (zI (a9dy1))) C (lt_K hN (rfl : Nat.blt (2) 952 = true)) hay2 hcdy1 rfl inA_X7 5 (by decide) q_49 rfl rfl dX7_number_89 ?_
            have hruny7 : okRun cs ad g1 (co) tp := ⟨_, _, _, _, _, _, _, by omega, by omega, hcdy1, hddy1⟩
            refine z_cV (As := [.int (zI (2)), .int (zI (a9dy1))]) (rest := []) (ci := 9) C (c_X7_fail l D A cs tt N ad _ (by omega) _ tp hruny7 (2) (by omega) (a9dy1) (by omega)) (lt_K hN (rfl : Nat.blt (2) 952 = true)) hay2 hcdy1 rfl rfl mv_yX7_fail q_809 hd_yX7_fail (by decide) (Nat.le_of_ble_eq_true rfl) (by decide) dX7_number_92 rfl (kV0 fun gvy8 hvy8 => ?_)
            obtain ⟨⟨covy8, hkvy8, hnvy8⟩, hfvy8⟩ := hvy8
            obtain ⟨pldy9, endy9, tydy9, a9dy9, bedy9, tkdy9, tddy9, hAdy9, hTdy9, hcdy9, hddy9⟩ := id hkvy8
            refine z_iconst (z := 0) C dX7_number_95 rfl ?_
            have hruny10 : okRun cs ad gvy8 (covy8) tp := ⟨_, _, _, _, _, _, _, by omega, by omega, hcdy9, hddy9⟩
            exact z_iret C hr hlk dX7_number_96 (by decide) (by decide) ⟨0, rfl, rfl, rfl, by omega, ⟨_, hruny10, by omega⟩, fun j j1 => by rw [hfvy8 _ (by omega)]⟩
          · refine z_iload_n C 1 dX7_number_76 rfl ?_
            refine z_iload_n C 3 dX7_number_77 rfl ?_
            refine z_icmp_lt (tgt := 86) C dX7_number_78 (by decide) (by omega) (by omega) (fun hby11 => ?_) (fun hby11 => ?_)
            · refine z_aload_n C 2 dX7_number_86 rfl ?_
              refine z_iconst (z := 2) C dX7_number_87 rfl ?_
              refine z_aload_n C 2 dX7_number_88 rfl ?_
              refine z_get (v := .int (zI (a9dy1))) C (lt_K hN (rfl : Nat.blt (2) 952 = true)) hay2 hcdy1 rfl inA_X7 5 (by decide) q_49 rfl rfl dX7_number_89 ?_
              have hruny12 : okRun cs ad g1 (co) tp := ⟨_, _, _, _, _, _, _, by omega, by omega, hcdy1, hddy1⟩
              refine z_cV (As := [.int (zI (2)), .int (zI (a9dy1))]) (rest := []) (ci := 9) C (c_X7_fail l D A cs tt N ad _ (by omega) _ tp hruny12 (2) (by omega) (a9dy1) (by omega)) (lt_K hN (rfl : Nat.blt (2) 952 = true)) hay2 hcdy1 rfl rfl mv_yX7_fail q_809 hd_yX7_fail (by decide) (Nat.le_of_ble_eq_true rfl) (by decide) dX7_number_92 rfl (kV0 fun gvy13 hvy13 => ?_)
              obtain ⟨⟨covy13, hkvy13, hnvy13⟩, hfvy13⟩ := hvy13
              obtain ⟨pldy14, endy14, tydy14, a9dy14, bedy14, tkdy14, tddy14, hAdy14, hTdy14, hcdy14, hddy14⟩ := id hkvy13
              refine z_iconst (z := 0) C dX7_number_95 rfl ?_
              have hruny15 : okRun cs ad gvy13 (covy13) tp := ⟨_, _, _, _, _, _, _, by omega, by omega, hcdy14, hddy14⟩
              exact z_iret C hr hlk dX7_number_96 (by decide) (by decide) ⟨0, rfl, rfl, rfl, by omega, ⟨_, hruny15, by omega⟩, fun j j1 => by rw [hfvy13 _ (by omega)]⟩
            · refine z_iload_n C 1 dX7_number_81 rfl ?_
              refine z_iload_n C 4 dX7_number_82 rfl ?_
              refine z_icmp_le (tgt := 97) C dX7_number_83 (by decide) (by omega) (by omega) (fun hby16 => ?_) (fun hby16 => ?_)
              · refine z_aload_n C 2 dX7_number_97 rfl ?_
                have hruny17 : okRun cs ad g1 (co) tp := ⟨_, _, _, _, _, _, _, by omega, by omega, hcdy1, hddy1⟩
                refine z_cV (As := []) (rest := []) (ci := 9) C (c_X7_take l D A cs tt N ad _ (by omega) _ tp hruny17) (lt_K hN (rfl : Nat.blt (2) 952 = true)) hay2 hcdy1 rfl rfl mv_yX7_take q_813 hd_yX7_take (by decide) (Nat.le_of_ble_eq_true rfl) (by decide) dX7_number_98 rfl (kV0 fun gvy18 hvy18 => ?_)
                obtain ⟨hkvy18, hfvy18⟩ := hvy18
                obtain ⟨pldy19, endy19, tydy19, a9dy19, bedy19, tkdy19, tddy19, hAdy19, hTdy19, hcdy19, hddy19⟩ := id hkvy18
                refine z_iload_n C 1 dX7_number_101 rfl ?_
                have hruny20 : okRun cs ad gvy18 (co) tp := ⟨_, _, _, _, _, _, _, by omega, by omega, hcdy19, hddy19⟩
                exact z_iret C hr hlk dX7_number_102 (by decide) (by decide) ⟨va, rfl, rfl, rfl, by omega, ⟨_, hruny20, by omega⟩, fun j j1 => by rw [hfvy18 _ (by omega)]⟩
              · refine z_aload_n C 2 dX7_number_86 rfl ?_
                refine z_iconst (z := 2) C dX7_number_87 rfl ?_
                refine z_aload_n C 2 dX7_number_88 rfl ?_
                refine z_get (v := .int (zI (a9dy1))) C (lt_K hN (rfl : Nat.blt (2) 952 = true)) hay2 hcdy1 rfl inA_X7 5 (by decide) q_49 rfl rfl dX7_number_89 ?_
                have hruny21 : okRun cs ad g1 (co) tp := ⟨_, _, _, _, _, _, _, by omega, by omega, hcdy1, hddy1⟩
                refine z_cV (As := [.int (zI (2)), .int (zI (a9dy1))]) (rest := []) (ci := 9) C (c_X7_fail l D A cs tt N ad _ (by omega) _ tp hruny21 (2) (by omega) (a9dy1) (by omega)) (lt_K hN (rfl : Nat.blt (2) 952 = true)) hay2 hcdy1 rfl rfl mv_yX7_fail q_809 hd_yX7_fail (by decide) (Nat.le_of_ble_eq_true rfl) (by decide) dX7_number_92 rfl (kV0 fun gvy22 hvy22 => ?_)
                obtain ⟨⟨covy22, hkvy22, hnvy22⟩, hfvy22⟩ := hvy22
                obtain ⟨pldy23, endy23, tydy23, a9dy23, bedy23, tkdy23, tddy23, hAdy23, hTdy23, hcdy23, hddy23⟩ := id hkvy22
                refine z_iconst (z := 0) C dX7_number_95 rfl ?_
                have hruny24 : okRun cs ad gvy22 (covy22) tp := ⟨_, _, _, _, _, _, _, by omega, by omega, hcdy23, hddy23⟩
                exact z_iret C hr hlk dX7_number_96 (by decide) (by decide) ⟨0, rfl, rfl, rfl, by omega, ⟨_, hruny24, by omega⟩, fun j j1 => by rw [hfvy22 _ (by omega)]⟩
        · refine z_iload_n C 1 dX7_number_36 rfl ?_
          refine z_iload_n C 4 dX7_number_37 rfl ?_
          refine z_icmp_gt (tgt := 63) C dX7_number_38 (by decide) (by omega) (by omega) (fun hby25 => ?_) (fun hby25 => ?_)
          · refine z_aload_n C 2 dX7_number_63 rfl ?_
            refine z_get (v := .int (zI (bedy1))) C (lt_K hN (rfl : Nat.blt (2) 952 = true)) hay2 hcdy1 rfl inA_X7 6 (by decide) q_50 rfl rfl dX7_number_64 ?_
            refine z_aload_n C 2 dX7_number_67 rfl ?_
            refine z_get (v := .int (zI (a9dy1))) C (lt_K hN (rfl : Nat.blt (2) 952 = true)) hay2 hcdy1 rfl inA_X7 5 (by decide) q_49 rfl rfl dX7_number_68 ?_
            refine z_isub C dX7_number_71 ?_
            refine z_iconst (z := 4) C dX7_number_72 rfl ?_
            refine z_icmp_gt (tgt := 86) C dX7_number_73 (by decide) (by omega) (by omega) (fun hby26 => ?_) (fun hby26 => ?_)
            · refine z_aload_n C 2 dX7_number_86 rfl ?_
              refine z_iconst (z := 2) C dX7_number_87 rfl ?_
              refine z_aload_n C 2 dX7_number_88 rfl ?_
              refine z_get (v := .int (zI (a9dy1))) C (lt_K hN (rfl : Nat.blt (2) 952 = true)) hay2 hcdy1 rfl inA_X7 5 (by decide) q_49 rfl rfl dX7_number_89 ?_
              have hruny27 : okRun cs ad g1 (co) tp := ⟨_, _, _, _, _, _, _, by omega, by omega, hcdy1, hddy1⟩
              refine z_cV (As := [.int (zI (2)), .int (zI (a9dy1))]) (rest := []) (ci := 9) C (c_X7_fail l D A cs tt N ad _ (by omega) _ tp hruny27 (2) (by omega) (a9dy1) (by omega)) (lt_K hN (rfl : Nat.blt (2) 952 = true)) hay2 hcdy1 rfl rfl mv_yX7_fail q_809 hd_yX7_fail (by decide) (Nat.le_of_ble_eq_true rfl) (by decide) dX7_number_92 rfl (kV0 fun gvy28 hvy28 => ?_)
              obtain ⟨⟨covy28, hkvy28, hnvy28⟩, hfvy28⟩ := hvy28
              obtain ⟨pldy29, endy29, tydy29, a9dy29, bedy29, tkdy29, tddy29, hAdy29, hTdy29, hcdy29, hddy29⟩ := id hkvy28
              refine z_iconst (z := 0) C dX7_number_95 rfl ?_
              have hruny30 : okRun cs ad gvy28 (covy28) tp := ⟨_, _, _, _, _, _, _, by omega, by omega, hcdy29, hddy29⟩
              exact z_iret C hr hlk dX7_number_96 (by decide) (by decide) ⟨0, rfl, rfl, rfl, by omega, ⟨_, hruny30, by omega⟩, fun j j1 => by rw [hfvy28 _ (by omega)]⟩
            · refine z_iload_n C 1 dX7_number_76 rfl ?_
              refine z_iload_n C 3 dX7_number_77 rfl ?_
              refine z_icmp_lt (tgt := 86) C dX7_number_78 (by decide) (by omega) (by omega) (fun hby31 => ?_) (fun hby31 => ?_)
              · refine z_aload_n C 2 dX7_number_86 rfl ?_
                refine z_iconst (z := 2) C dX7_number_87 rfl ?_
                refine z_aload_n C 2 dX7_number_88 rfl ?_
                refine z_get (v := .int (zI (a9dy1))) C (lt_K hN (rfl : Nat.blt (2) 952 = true)) hay2 hcdy1 rfl inA_X7 5 (by decide) q_49 rfl rfl dX7_number_89 ?_
                have hruny32 : okRun cs ad g1 (co) tp := ⟨_, _, _, _, _, _, _, by omega, by omega, hcdy1, hddy1⟩
                refine z_cV (As := [.int (zI (2)), .int (zI (a9dy1))]) (rest := []) (ci := 9) C (c_X7_fail l D A cs tt N ad _ (by omega) _ tp hruny32 (2) (by omega) (a9dy1) (by omega)) (lt_K hN (rfl : Nat.blt (2) 952 = true)) hay2 hcdy1 rfl rfl mv_yX7_fail q_809 hd_yX7_fail (by decide) (Nat.le_of_ble_eq_true rfl) (by decide) dX7_number_92 rfl (kV0 fun gvy33 hvy33 => ?_)
                obtain ⟨⟨covy33, hkvy33, hnvy33⟩, hfvy33⟩ := hvy33
                obtain ⟨pldy34, endy34, tydy34, a9dy34, bedy34, tkdy34, tddy34, hAdy34, hTdy34, hcdy34, hddy34⟩ := id hkvy33
                refine z_iconst (z := 0) C dX7_number_95 rfl ?_
                have hruny35 : okRun cs ad gvy33 (covy33) tp := ⟨_, _, _, _, _, _, _, by omega, by omega, hcdy34, hddy34⟩
                exact z_iret C hr hlk dX7_number_96 (by decide) (by decide) ⟨0, rfl, rfl, rfl, by omega, ⟨_, hruny35, by omega⟩, fun j j1 => by rw [hfvy33 _ (by omega)]⟩
              · refine z_iload_n C 1 dX7_number_81 rfl ?_
                refine z_iload_n C 4 dX7_number_82 rfl ?_
                refine z_icmp_le (tgt := 97) C dX7_number_83 (by decide) (by omega) (by omega) (fun hby36 => ?_) (fun hby36 => ?_)
                · refine z_aload_n C 2 dX7_number_97 rfl ?_
                  have hruny37 : okRun cs ad g1 (co) tp := ⟨_, _, _, _, _, _, _, by omega, by omega, hcdy1, hddy1⟩
                  refine z_cV (As := []) (rest := []) (ci := 9) C (c_X7_take l D A cs tt N ad _ (by omega) _ tp hruny37) (lt_K hN (rfl : Nat.blt (2) 952 = true)) hay2 hcdy1 rfl rfl mv_yX7_take q_813 hd_yX7_take (by decide) (Nat.le_of_ble_eq_true rfl) (by decide) dX7_number_98 rfl (kV0 fun gvy38 hvy38 => ?_)
                  obtain ⟨hkvy38, hfvy38⟩ := hvy38
                  obtain ⟨pldy39, endy39, tydy39, a9dy39, bedy39, tkdy39, tddy39, hAdy39, hTdy39, hcdy39, hddy39⟩ := id hkvy38
                  refine z_iload_n C 1 dX7_number_101 rfl ?_
                  have hruny40 : okRun cs ad gvy38 (co) tp := ⟨_, _, _, _, _, _, _, by omega, by omega, hcdy39, hddy39⟩
                  exact z_iret C hr hlk dX7_number_102 (by decide) (by decide) ⟨va, rfl, rfl, rfl, by omega, ⟨_, hruny40, by omega⟩, fun j j1 => by rw [hfvy38 _ (by omega)]⟩
                · refine z_aload_n C 2 dX7_number_86 rfl ?_
                  refine z_iconst (z := 2) C dX7_number_87 rfl ?_
                  refine z_aload_n C 2 dX7_number_88 rfl ?_
                  refine z_get (v := .int (zI (a9dy1))) C (lt_K hN (rfl : Nat.blt (2) 952 = true)) hay2 hcdy1 rfl inA_X7 5 (by decide) q_49 rfl rfl dX7_number_89 ?_
                  have hruny41 : okRun cs ad g1 (co) tp := ⟨_, _, _, _, _, _, _, by omega, by omega, hcdy1, hddy1⟩
                  refine z_cV (As := [.int (zI (2)), .int (zI (a9dy1))]) (rest := []) (ci := 9) C (c_X7_fail l D A cs tt N ad _ (by omega) _ tp hruny41 (2) (by omega) (a9dy1) (by omega)) (lt_K hN (rfl : Nat.blt (2) 952 = true)) hay2 hcdy1 rfl rfl mv_yX7_fail q_809 hd_yX7_fail (by decide) (Nat.le_of_ble_eq_true rfl) (by decide) dX7_number_92 rfl (kV0 fun gvy42 hvy42 => ?_)
                  obtain ⟨⟨covy42, hkvy42, hnvy42⟩, hfvy42⟩ := hvy42
                  obtain ⟨pldy43, endy43, tydy43, a9dy43, bedy43, tkdy43, tddy43, hAdy43, hTdy43, hcdy43, hddy43⟩ := id hkvy42
                  refine z_iconst (z := 0) C dX7_number_95 rfl ?_
                  have hruny44 : okRun cs ad gvy42 (covy42) tp := ⟨_, _, _, _, _, _, _, by omega, by omega, hcdy43, hddy43⟩
                  exact z_iret C hr hlk dX7_number_96 (by decide) (by decide) ⟨0, rfl, rfl, rfl, by omega, ⟨_, hruny44, by omega⟩, fun j j1 => by rw [hfvy42 _ (by omega)]⟩
          · refine z_bipush (z := 10) C dX7_number_41 (by decide) ?_
            refine z_iload_n C 1 dX7_number_43 rfl ?_
            refine z_imul C dX7_number_44 ?_
            refine z_aload_n C 2 dX7_number_45 rfl ?_
            refine z_get (v := .ref (ad 1)) C (lt_K hN (rfl : Nat.blt (2) 952 = true)) hay2 hcdy1 rfl inA_X7 2 (by decide) q_46 rfl rfl dX7_number_46 ?_
            refine z_iload C 0 dX7_number_49 rfl ?_
            refine z_bald C (lt_K hN (rfl : Nat.blt (1) 952 = true)) hay3 hddy1 ((i).toNat) (by omega) (by omega) (by decide) dX7_number_51 ?_
            refine z_iadd C dX7_number_52 ?_
            refine z_bipush (z := 48) C dX7_number_53 (by decide) ?_
            refine z_isub C dX7_number_55 ?_
            refine z_istore_n (lv' := [(3, .int (zI (((10 * va) + (tp ((i).toNat))) - 48))), (4, .int (zI (i))), (0, .ref (ad 2)), (1, .int (zI (z))), (2, .int (zI (z1)))]) C dX7_number_56 rfl (by decide) rfl ?_
            refine z_iinc (z := i + 1) (lv' := [(4, .int (zI (i + 1))), (3, .int (zI (((10 * va) + (tp ((i).toNat))) - 48))), (0, .ref (ad 2)), (1, .int (zI (z))), (2, .int (zI (z1)))]) (j := 1) C dX7_number_57 rfl rfl (by decide) rfl ?_
            refine z_goto (tgt := 27) C dX7_number_60 (by decide) ?_
            obtain ⟨xy45, exy46, hxy47⟩ := zI_of (zI (((10 * va) + (tp ((i).toNat))) - 48))
            rw [exy46]
            refine z_lv (lv' := [(4, .int (zI (i + 1))), (3, .int (zI (xy45))), (0, .ref (ad 2)), (1, .int (zI (z))), (2, .int (zI (z1)))]) [0, 1, 2, 3, 4] rfl ?_
            exact ih _ (by omega) (i + 1) (xy45) _ rfl rfl (by omega) (by omega)
    refine z_lv (lv' := [(4, .int (zI (a9dy1))), (3, .int (zI (0))), (0, .ref (ad 2)), (1, .int (zI (z))), (2, .int (zI (z1)))]) [0, 1, 2, 3, 4] rfl ?_
    exact lp _ (a9dy1) (0) _ rfl rfl (by omega) (by omega)
  · refine z_aload_n C 0 dX7_number_8 rfl ?_
    refine z_iconst (z := 1) C dX7_number_9 rfl ?_
    refine z_aload_n C 0 dX7_number_10 rfl ?_
    refine z_get (v := .int (zI (a9dy1))) C (lt_K hN (rfl : Nat.blt (2) 952 = true)) hay2 hcdy1 rfl inA_X7 5 (by decide) q_49 rfl rfl dX7_number_11 ?_
    have hruny48 : okRun cs ad g (co) tp := ⟨_, _, _, _, _, _, _, by omega, by omega, hcdy1, hddy1⟩
    refine z_cV (As := [.int (zI (1)), .int (zI (a9dy1))]) (rest := []) (ci := 9) C (c_X7_fail l D A cs tt N ad _ (by omega) _ tp hruny48 (1) (by omega) (a9dy1) (by omega)) (lt_K hN (rfl : Nat.blt (2) 952 = true)) hay2 hcdy1 rfl rfl mv_yX7_fail q_809 hd_yX7_fail (by decide) (Nat.le_of_ble_eq_true rfl) (by decide) dX7_number_14 rfl (kV0 fun gvy49 hvy49 => ?_)
    obtain ⟨⟨covy49, hkvy49, hnvy49⟩, hfvy49⟩ := hvy49
    obtain ⟨pldy50, endy50, tydy50, a9dy50, bedy50, tkdy50, tddy50, hAdy50, hTdy50, hcdy50, hddy50⟩ := id hkvy49
    refine z_iconst (z := 0) C dX7_number_17 rfl ?_
    have hruny51 : okRun cs ad gvy49 (covy49) tp := ⟨_, _, _, _, _, _, _, by omega, by omega, hcdy50, hddy50⟩
    exact z_iret C hr hlk dX7_number_18 (by decide) (by decide) ⟨0, rfl, rfl, rfl, by omega, ⟨_, hruny51, by omega⟩, fun j j1 => by rw [hfvy49 _ (by omega)]⟩

set_option maxRecDepth 100000 in
set_option maxHeartbeats 4000000 in
theorem c_X7_readFall (l : Launch) (D : va_G) (A : Nat → Prop) (cs : Nat → ClassId) (tt : Nat) (N : Nat) (ad : Nat → Nat) (g : Nat → va_E) (hN : 952 ≤ N) (co : Int) (tp : Nat → Int) (hR : okRun cs ad g co tp) : zM l yX7_readFall cX7_readFall 2 (some .int) ({ frames := 6, cells := 0, slots := 0, locals := 360 } : Room) D A cs tt N ad g [.ref (ad 2)] (rI0 N ad fun r g' => (0 ≤ r ∧ r ≤ 3) ∧ (∃ co' : Int, okRun cs ad g' co' tp ∧ co ≤ co') ∧ ∀ j, j ≠ 2 → g' j = g j) := by
  obtain ⟨pldy1, endy1, tydy1, a9dy1, bedy1, tkdy1, tddy1, hAdy1, hTdy1, hcdy1, hddy1⟩ := id hR
  have hay2 : zAt ad (2) (ad 2) := rfl
  have hay3 : zAt ad (1) (ad 1) := rfl
  refine z_of (by decide) (Nat.le_of_ble_eq_true rfl) ?_
  intro p e s m below meth c C hr hlk hnm
  refine z_lv (lv' := [(0, .ref (ad 2))]) [0] rfl ?_
  refine z_aload_n C 0 dX7_readFall_0 rfl ?_
  refine z_ldcS C skm8 rfl rfl dX7_readFall_1 ?_
  have hruny4 : okRun cs ad g (co) tp := ⟨_, _, _, _, _, _, _, by omega, by omega, hcdy1, hddy1⟩
  refine z_cV (As := [.ref (cs (100 + 8))]) (rest := []) (ci := 9) C (c_X7_is l D A cs tt N ad _ (by omega) _ tp hruny4 _ skm8) (lt_K hN (rfl : Nat.blt (2) 952 = true)) hay2 hcdy1 rfl rfl mv_yX7_is q_754 hd_yX7_is (by decide) (Nat.le_of_ble_eq_true rfl) (by decide) dX7_readFall_3 rfl (kI0 fun vy5 gvy5 hvy5 => ?_)
  obtain ⟨hvy5, rfl⟩ := hvy5
  refine z_if_eq (tgt := 13) C dX7_readFall_6 (by decide) (by omega) (fun hby6 => ?_) (fun hby6 => ?_)
  · refine z_aload_n C 0 dX7_readFall_13 rfl ?_
    refine z_ldcS C skm9 rfl rfl dX7_readFall_14 ?_
    have hruny7 : okRun cs ad g (co) tp := ⟨_, _, _, _, _, _, _, by omega, by omega, hcdy1, hddy1⟩
    refine z_cV (As := [.ref (cs (100 + 9))]) (rest := []) (ci := 9) C (c_X7_is l D A cs tt N ad _ (by omega) _ tp hruny7 _ skm9) (lt_K hN (rfl : Nat.blt (2) 952 = true)) hay2 hcdy1 rfl rfl mv_yX7_is q_754 hd_yX7_is (by decide) (Nat.le_of_ble_eq_true rfl) (by decide) dX7_readFall_16 rfl (kI0 fun vy8 gvy8 hvy8 => ?_)
    obtain ⟨hvy8, rfl⟩ := hvy8
    refine z_if_eq (tgt := 26) C dX7_readFall_19 (by decide) (by omega) (fun hby9 => ?_) (fun hby9 => ?_)
    · refine z_aload_n C 0 dX7_readFall_26 rfl ?_
      refine z_ldcS C skm10 rfl rfl dX7_readFall_27 ?_
      have hruny10 : okRun cs ad g (co) tp := ⟨_, _, _, _, _, _, _, by omega, by omega, hcdy1, hddy1⟩
      refine z_cV (As := [.ref (cs (100 + 10))]) (rest := []) (ci := 9) C (c_X7_is l D A cs tt N ad _ (by omega) _ tp hruny10 _ skm10) (lt_K hN (rfl : Nat.blt (2) 952 = true)) hay2 hcdy1 rfl rfl mv_yX7_is q_754 hd_yX7_is (by decide) (Nat.le_of_ble_eq_true rfl) (by decide) dX7_readFall_29 rfl (kI0 fun vy11 gvy11 hvy11 => ?_)
      obtain ⟨hvy11, rfl⟩ := hvy11
      refine z_if_eq (tgt := 39) C dX7_readFall_32 (by decide) (by omega) (fun hby12 => ?_) (fun hby12 => ?_)
      · refine z_iconst (z := 0) C dX7_readFall_39 rfl ?_
        refine z_istore_n (lv' := [(1, .int (zI (0))), (0, .ref (ad 2))]) C dX7_readFall_40 rfl (by decide) rfl ?_
        refine z_iload_n C 0 dX7_readFall_41 rfl ?_
        refine z_if_eq (tgt := 49) C dX7_readFall_42 (by decide) (by omega) (fun _ => ?_) (fun h => absurd h (by omega))
        refine z_iload_n C 0 dX7_readFall_49 rfl ?_
        have hruny13 : okRun cs ad g (co) tp := ⟨_, _, _, _, _, _, _, by omega, by omega, hcdy1, hddy1⟩
        exact z_iret C hr hlk dX7_readFall_50 (by decide) (by decide) ⟨0, rfl, rfl, rfl, by omega, ⟨_, hruny13, by omega⟩, fun j j1 => by rfl⟩
      · refine z_iconst (z := 3) C dX7_readFall_35 rfl ?_
        refine z_goto (tgt := 40) C dX7_readFall_36 (by decide) ?_
        refine z_istore_n (lv' := [(1, .int (zI (3))), (0, .ref (ad 2))]) C dX7_readFall_40 rfl (by decide) rfl ?_
        refine z_iload_n C 0 dX7_readFall_41 rfl ?_
        refine z_if_eq (tgt := 49) C dX7_readFall_42 (by decide) (by omega) (fun h => absurd h (by omega)) (fun _ => ?_)
        refine z_aload_n C 1 dX7_readFall_45 rfl ?_
        have hruny14 : okRun cs ad g (co) tp := ⟨_, _, _, _, _, _, _, by omega, by omega, hcdy1, hddy1⟩
        refine z_cV (As := []) (rest := []) (ci := 9) C (c_X7_take l D A cs tt N ad _ (by omega) _ tp hruny14) (lt_K hN (rfl : Nat.blt (2) 952 = true)) hay2 hcdy1 rfl rfl mv_yX7_take q_813 hd_yX7_take (by decide) (Nat.le_of_ble_eq_true rfl) (by decide) dX7_readFall_46 rfl (kV0 fun gvy15 hvy15 => ?_)
        obtain ⟨hkvy15, hfvy15⟩ := hvy15
        obtain ⟨pldy16, endy16, tydy16, a9dy16, bedy16, tkdy16, tddy16, hAdy16, hTdy16, hcdy16, hddy16⟩ := id hkvy15
        refine z_iload_n C 0 dX7_readFall_49 rfl ?_
        have hruny17 : okRun cs ad gvy15 (co) tp := ⟨_, _, _, _, _, _, _, by omega, by omega, hcdy16, hddy16⟩
        exact z_iret C hr hlk dX7_readFall_50 (by decide) (by decide) ⟨3, rfl, rfl, rfl, by omega, ⟨_, hruny17, by omega⟩, fun j j1 => by rw [hfvy15 _ (by omega)]⟩
    · refine z_iconst (z := 2) C dX7_readFall_22 rfl ?_
      refine z_goto (tgt := 40) C dX7_readFall_23 (by decide) ?_
      refine z_istore_n (lv' := [(1, .int (zI (2))), (0, .ref (ad 2))]) C dX7_readFall_40 rfl (by decide) rfl ?_
      refine z_iload_n C 0 dX7_readFall_41 rfl ?_
      refine z_if_eq (tgt := 49) C dX7_readFall_42 (by decide) (by omega) (fun h => absurd h (by omega)) (fun _ => ?_)
      refine z_aload_n C 1 dX7_readFall_45 rfl ?_
      have hruny18 : okRun cs ad g (co) tp := ⟨_, _, _, _, _, _, _, by omega, by omega, hcdy1, hddy1⟩
      refine z_cV (As := []) (rest := []) (ci := 9) C (c_X7_take l D A cs tt N ad _ (by omega) _ tp hruny18) (lt_K hN (rfl : Nat.blt (2) 952 = true)) hay2 hcdy1 rfl rfl mv_yX7_take q_813 hd_yX7_take (by decide) (Nat.le_of_ble_eq_true rfl) (by decide) dX7_readFall_46 rfl (kV0 fun gvy19 hvy19 => ?_)
      obtain ⟨hkvy19, hfvy19⟩ := hvy19
      obtain ⟨pldy20, endy20, tydy20, a9dy20, bedy20, tkdy20, tddy20, hAdy20, hTdy20, hcdy20, hddy20⟩ := id hkvy19
      refine z_iload_n C 0 dX7_readFall_49 rfl ?_
      have hruny21 : okRun cs ad gvy19 (co) tp := ⟨_, _, _, _, _, _, _, by omega, by omega, hcdy20, hddy20⟩
      exact z_iret C hr hlk dX7_readFall_50 (by decide) (by decide) ⟨2, rfl, rfl, rfl, by omega, ⟨_, hruny21, by omega⟩, fun j j1 => by rw [hfvy19 _ (by omega)]⟩
  · refine z_iconst (z := 1) C dX7_readFall_9 rfl ?_
    refine z_goto (tgt := 40) C dX7_readFall_10 (by decide) ?_
    refine z_istore_n (lv' := [(1, .int (zI (1))), (0, .ref (ad 2))]) C dX7_readFall_40 rfl (by decide) rfl ?_
    refine z_iload_n C 0 dX7_readFall_41 rfl ?_
    refine z_if_eq (tgt := 49) C dX7_readFall_42 (by decide) (by omega) (fun h => absurd h (by omega)) (fun _ => ?_)
    refine z_aload_n C 1 dX7_readFall_45 rfl ?_
    have hruny22 : okRun cs ad g (co) tp := ⟨_, _, _, _, _, _, _, by omega, by omega, hcdy1, hddy1⟩
    refine z_cV (As := []) (rest := []) (ci := 9) C (c_X7_take l D A cs tt N ad _ (by omega) _ tp hruny22) (lt_K hN (rfl : Nat.blt (2) 952 = true)) hay2 hcdy1 rfl rfl mv_yX7_take q_813 hd_yX7_take (by decide) (Nat.le_of_ble_eq_true rfl) (by decide) dX7_readFall_46 rfl (kV0 fun gvy23 hvy23 => ?_)
    obtain ⟨hkvy23, hfvy23⟩ := hvy23
    obtain ⟨pldy24, endy24, tydy24, a9dy24, bedy24, tkdy24, tddy24, hAdy24, hTdy24, hcdy24, hddy24⟩ := id hkvy23
    refine z_iload_n C 0 dX7_readFall_49 rfl ?_
    have hruny25 : okRun cs ad gvy23 (co) tp := ⟨_, _, _, _, _, _, _, by omega, by omega, hcdy24, hddy24⟩
    exact z_iret C hr hlk dX7_readFall_50 (by decide) (by decide) ⟨1, rfl, rfl, rfl, by omega, ⟨_, hruny25, by omega⟩, fun j j1 => by rw [hfvy23 _ (by omega)]⟩

