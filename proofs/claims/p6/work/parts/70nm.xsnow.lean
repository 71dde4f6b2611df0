theorem xTd_0 : xTd 0 (fun _ => 0) := fun k hk => ⟨Or.inl rfl, (show ∀ k : Fin 15, zI 0 >>> (zI (k.val : Int) &&& 31) &&& zI 1 = zI 0 by decide) ⟨k, hk⟩⟩
/-- the tape's bytes, 0 to 255 -/
def unS (tp : Nat → Int) : Nat → Int := fun k => if tp k < 0 then tp k + 256 else tp k
theorem xT_un {tp : Nat → Int} (h : ∀ k, k < 900 → -128 ≤ tp k ∧ tp k ≤ 127) : xT tp (unS tp) := fun k hk => by
  have h1 := h k hk
  unfold unS
  by_cases e : tp k < 0
  · rw [if_pos e]; omega
  · rw [if_neg e]; omega

set_option maxRecDepth 100000 in
set_option maxHeartbeats 4000000 in
theorem c_xPkClear (l : Launch) (D : va_G) (A : Nat → Prop) (cs : Nat → ClassId) (tt : Nat) (N : Nat) (ad : Nat → Nat) (g : Nat → va_E) (a : Nat) (hN : a + 2 ≤ N) (sz ro : Int) (r : Nat → Int) (hz : 0 ≤ sz ∧ sz ≤ 12) (ha : isPack cs ad g a sz ro r) : zM l yX3_clear cX3_clear 1 none ({ frames := 1, cells := 0, slots := 0, locals := 60 } : Room) D A cs tt N ad g [.ref (ad a)] (rV0 N ad fun g' => isPack cs ad g' a 0 0 r ∧ ∀ j, j ≠ a → j ≠ a + 1 → g' j = g j) := by
  have hay1 : zAt ad (a) (ad a) := rfl
  have hay2 : zAt ad (a + 1) (ad (a + 1)) := rfl
  refine z_of (by decide) (Nat.le_of_ble_eq_true rfl) ?_
  intro p e s m below meth c C hr hlk hnm
  refine z_lv (lv' := [(0, .ref (ad a))]) [0] rfl ?_
  refine z_aload_n C 0 dX3_clear_0 rfl ?_
  refine z_iconst (z := 0) C dX3_clear_1 rfl ?_
  refine z_put (fs' := [.int (zI (0)), .int (zI (ro)), .ref (ad (a + 1))]) C (lt_A0 hN rfl) hay1 ha.1 tyX3 tyX3_ok nmX3 rfl inA_X3 0 (by decide) q_154 rfl rfl rfl rfl (Nat.le_of_ble_eq_true rfl) rfl dX3_clear_2 (fun gy3 egy4 => ?_)
  have hgy5 := up_s egy4
  refine z_aload_n C 0 dX3_clear_5 rfl ?_
  refine z_iconst (z := 0) C dX3_clear_6 rfl ?_
  refine z_put (fs' := [.int (zI (0)), .int (zI (0)), .ref (ad (a + 1))]) C (lt_A0 hN rfl) hay1 hgy5 tyX3 tyX3_ok nmX3 rfl inA_X3 1 (by decide) q_159 rfl rfl rfl rfl (Nat.le_of_ble_eq_true rfl) rfl dX3_clear_7 (fun gy6 egy7 => ?_)
  have hgy8 := up_s egy7
  have hgy9 := up_n egy4 ha.2 (ne_o (i := a) (c := 1) (d := 0) rfl)
  have hgy10 := up_n egy7 hgy9 (ne_o (i := a) (c := 1) (d := 0) rfl)
  exact z_vret C hr hlk dX3_clear_10 (by decide) (by decide) ⟨rfl, rfl, rfl, ⟨hgy8, hgy10⟩, fun j j1 j2 => by rw [egy7, va_up_ne _ _ (by omega)]; rw [egy4, va_up_ne _ _ (by omega)]⟩

set_option maxRecDepth 100000 in
set_option maxHeartbeats 4000000 in
theorem c_xWClear (l : Launch) (D : va_G) (A : Nat → Prop) (cs : Nat → ClassId) (tt : Nat) (N : Nat) (ad : Nat → Nat) (g : Nat → va_E) (a : Nat) (hN : a + 10 ≤ N) (hw : okWorld cs ad g a) : zM l yX8_clear cX8_clear 2 none ({ frames := 2, cells := 0, slots := 0, locals := 120 } : Room) D A cs tt N ad g [.ref (ad a)] (rV0 N ad fun g' => (∃ Lz : Nat → Nat → Int, isWorld cs ad g' a (fun _ => 0) (fun _ => 0) (fun _ => 0) Lz) ∧ ∀ j, j < a ∨ a + 10 ≤ j → g' j = g j) := by
  obtain ⟨ut, uz, uo, ur, uz4, ut5, u1, ⟨uu, u2, u3⟩, u4⟩ := id hw
  have hay1 : zAt ad (a) (ad a) := rfl
  have hay2 : zAt ad (a + 1) (ad (a + 1)) := rfl
  refine z_of (by decide) (Nat.le_of_ble_eq_true rfl) ?_
  intro p e s m below meth c C hr hlk hnm
  refine z_lv (lv' := [(0, .ref (ad a))]) [0] rfl ?_
  refine z_aload_n C 0 dX8_clear_0 rfl ?_
  refine z_iconst (z := 0) C dX8_clear_1 rfl ?_
  refine z_put (fs' := [.int (zI (0)), .int (zI (ut 1)), .int (zI (ut 2)), .int (zI (ut 3)), .int (zI (ut 4)), .int (zI (ut 5)), .ref (ad (a + 1))]) C (lt_A0 hN rfl) hay1 u1 tyX8 tyX8_ok nmX8 rfl inA_X8 0 (by decide) q_173 rfl rfl rfl rfl (Nat.le_of_ble_eq_true rfl) rfl dX8_clear_2 (fun gy3 egy4 => ?_)
  have hgy5 := up_s egy4
  refine z_aload_n C 0 dX8_clear_5 rfl ?_
  refine z_iconst (z := 0) C dX8_clear_6 rfl ?_
  refine z_put (fs' := [.int (zI (0)), .int (zI (0)), .int (zI (ut 2)), .int (zI (ut 3)), .int (zI (ut 4)), .int (zI (ut 5)), .ref (ad (a + 1))]) C (lt_A0 hN rfl) hay1 hgy5 tyX8 tyX8_ok nmX8 rfl inA_X8 1 (by decide) q_176 rfl rfl rfl rfl (Nat.le_of_ble_eq_true rfl) rfl dX8_clear_7 (fun gy6 egy7 => ?_)
  have hgy8 := up_s egy7
  refine z_aload_n C 0 dX8_clear_10 rfl ?_
  refine z_iconst (z := 0) C dX8_clear_11 rfl ?_
  refine z_put (fs' := [.int (zI (0)), .int (zI (0)), .int (zI (0)), .int (zI (ut 3)), .int (zI (ut 4)), .int (zI (ut 5)), .ref (ad (a + 1))]) C (lt_A0 hN rfl) hay1 hgy8 tyX8 tyX8_ok nmX8 rfl inA_X8 2 (by decide) q_179 rfl rfl rfl rfl (Nat.le_of_ble_eq_true rfl) rfl dX8_clear_12 (fun gy9 egy10 => ?_)
  have hgy11 := up_s egy10
  refine z_aload_n C 0 dX8_clear_15 rfl ?_
  refine z_iconst (z := 0) C dX8_clear_16 rfl ?_
  refine z_put (fs' := [.int (zI (0)), .int (zI (0)), .int (zI (0)), .int (zI (0)), .int (zI (ut 4)), .int (zI (ut 5)), .ref (ad (a + 1))]) C (lt_A0 hN rfl) hay1 hgy11 tyX8 tyX8_ok nmX8 rfl inA_X8 3 (by decide) q_181 rfl rfl rfl rfl (Nat.le_of_ble_eq_true rfl) rfl dX8_clear_17 (fun gy12 egy13 => ?_)
  have hgy14 := up_s egy13
  refine z_aload_n C 0 dX8_clear_20 rfl ?_
  refine z_iconst (z := 0) C dX8_clear_21 rfl ?_
  refine z_put (fs' := [.int (zI (0)), .int (zI (0)), .int (zI (0)), .int (zI (0)), .int (zI (0)), .int (zI (ut 5)), .ref (ad (a + 1))]) C (lt_A0 hN rfl) hay1 hgy14 tyX8 tyX8_ok nmX8 rfl inA_X8 4 (by decide) q_183 rfl rfl rfl rfl (Nat.le_of_ble_eq_true rfl) rfl dX8_clear_22 (fun gy15 egy16 => ?_)
  have hgy17 := up_s egy16
  refine z_aload_n C 0 dX8_clear_25 rfl ?_
  refine z_iconst (z := 0) C dX8_clear_26 rfl ?_
  refine z_put (fs' := [.int (zI (0)), .int (zI (0)), .int (zI (0)), .int (zI (0)), .int (zI (0)), .int (zI (0)), .ref (ad (a + 1))]) C (lt_A0 hN rfl) hay1 hgy17 tyX8 tyX8_ok nmX8 rfl inA_X8 5 (by decide) q_185 rfl rfl rfl rfl (Nat.le_of_ble_eq_true rfl) rfl dX8_clear_27 (fun gy18 egy19 => ?_)
  have hgy20 := up_s egy19
  refine z_iconst (z := 0) C dX8_clear_30 rfl ?_
  refine z_istore_n (lv' := [(1, .int (zI (0))), (0, .ref (ad a))]) C dX8_clear_31 rfl (by decide) rfl ?_
  refine z_iload_n C 0 dX8_clear_32 rfl ?_
  refine z_aload_n C 1 dX8_clear_33 rfl ?_
  refine z_get (v := .ref (ad (a + 1))) C (lt_A0 hN rfl) hay1 hgy20 rfl inA_X8 6 (by decide) q_188 rfl rfl dX8_clear_34 ?_
  have hgy21 := up_n egy4 u2 (ne_o (i := a) (c := 1) (d := 0) rfl)
  have hgy22 := up_n egy7 hgy21 (ne_o (i := a) (c := 1) (d := 0) rfl)
  have hgy23 := up_n egy10 hgy22 (ne_o (i := a) (c := 1) (d := 0) rfl)
  have hgy24 := up_n egy13 hgy23 (ne_o (i := a) (c := 1) (d := 0) rfl)
  have hgy25 := up_n egy16 hgy24 (ne_o (i := a) (c := 1) (d := 0) rfl)
  have hgy26 := up_n egy19 hgy25 (ne_o (i := a) (c := 1) (d := 0) rfl)
  refine z_alen (z := 4) C (lt_A (c := 1) hN rfl) hay2 hgy26 3 rfl rfl dX8_clear_37 ?_
  refine z_icmp_ge (tgt := 56) C dX8_clear_38 (by decide) (by omega) (by omega) (fun h => absurd h (by omega)) (fun _ => ?_)
  refine z_aload_n C 1 dX8_clear_41 rfl ?_
  refine z_get (v := .ref (ad (a + 1))) C (lt_A0 hN rfl) hay1 hgy20 rfl inA_X8 6 (by decide) q_188 rfl rfl dX8_clear_42 ?_
  refine z_iload_n C 0 dX8_clear_45 rfl ?_
  refine z_aald C (lt_A (c := 1) hN rfl) hay2 hgy26 3 rfl (0) (by omega) (by omega) (by decide) (u3 0 (by omega)) dX8_clear_46 ?_
  have hay27 : zAt ad (a + 2 + 2 * 0) (ad (a + 2 + 2 * 0)) := rfl
  have hay28 : zAt ad (a + 2 + 2 * 0 + 1) (ad (a + 2 + 2 * 0 + 1)) := rfl
  have hpy29 := u4 0 (by omega)
  have hqy30 := uz4 0 (by omega)
  have hgy31 := up_n egy4 hpy29.1 (by omega)
  have hgy32 := up_n egy7 hgy31 (by omega)
  have hgy33 := up_n egy10 hgy32 (by omega)
  have hgy34 := up_n egy13 hgy33 (by omega)
  have hgy35 := up_n egy16 hgy34 (by omega)
  have hgy36 := up_n egy19 hgy35 (by omega)
  have hgy37 := up_n egy4 hpy29.2 (by omega)
  have hgy38 := up_n egy7 hgy37 (by omega)
  have hgy39 := up_n egy10 hgy38 (by omega)
  have hgy40 := up_n egy13 hgy39 (by omega)
  have hgy41 := up_n egy16 hgy40 (by omega)
  have hgy42 := up_n egy19 hgy41 (by omega)
  refine z_cV (As := []) (rest := []) (ci := 5) C (c_xPkClear l D A cs tt N ad _ (a + 2 + 2 * 0) (by omega) _ _ _ (by omega) ⟨hgy36, hgy42⟩) (by omega) hay27 hgy36 rfl rfl mv_yX3_clear q_738 hd_yX3_clear (by decide) (Nat.le_of_ble_eq_true rfl) (by decide) dX8_clear_47 rfl (kV0 fun gvy43 hvy43 => ?_)
  obtain ⟨hpvy43, hfvy43⟩ := hvy43
  refine z_iinc (z := 1) (lv' := [(1, .int (zI (1))), (0, .ref (ad a))]) (j := 0) C dX8_clear_50 rfl (congrArg zI (by omega)) (by decide) rfl ?_
  refine z_goto (tgt := 32) C dX8_clear_53 (by decide) ?_
  refine z_iload_n C 0 dX8_clear_32 rfl ?_
  refine z_aload_n C 1 dX8_clear_33 rfl ?_
  have hgy44 := (hfvy43 (a) (by omega) (by omega)).trans hgy20
  refine z_get (v := .ref (ad (a + 1))) C (lt_A0 hN rfl) hay1 hgy44 rfl inA_X8 6 (by decide) q_188 rfl rfl dX8_clear_34 ?_
  have hgy45 := (hfvy43 (a + 1) (by omega) (by omega)).trans hgy26
  refine z_alen (z := 4) C (lt_A (c := 1) hN rfl) hay2 hgy45 3 rfl rfl dX8_clear_37 ?_
  refine z_icmp_ge (tgt := 56) C dX8_clear_38 (by decide) (by omega) (by omega) (fun h => absurd h (by omega)) (fun _ => ?_)
  refine z_aload_n C 1 dX8_clear_41 rfl ?_
  refine z_get (v := .ref (ad (a + 1))) C (lt_A0 hN rfl) hay1 hgy44 rfl inA_X8 6 (by decide) q_188 rfl rfl dX8_clear_42 ?_
  refine z_iload_n C 0 dX8_clear_45 rfl ?_
  refine z_aald C (lt_A (c := 1) hN rfl) hay2 hgy45 3 rfl (1) (by omega) (by omega) (by decide) (u3 1 (by omega)) dX8_clear_46 ?_
  have hay46 : zAt ad (a + 2 + 2 * 1) (ad (a + 2 + 2 * 1)) := rfl
  have hay47 : zAt ad (a + 2 + 2 * 1 + 1) (ad (a + 2 + 2 * 1 + 1)) := rfl
  have hpy48 := u4 1 (by omega)
  have hqy49 := uz4 1 (by omega)
  have hgy50 := up_n egy4 hpy48.1 (by omega)
  have hgy51 := up_n egy7 hgy50 (by omega)
  have hgy52 := up_n egy10 hgy51 (by omega)
  have hgy53 := up_n egy13 hgy52 (by omega)
  have hgy54 := up_n egy16 hgy53 (by omega)
  have hgy55 := up_n egy19 hgy54 (by omega)
  have hgy56 := (hfvy43 (a + 2 + 2 * 1) (by omega) (by omega)).trans hgy55
  have hgy57 := up_n egy4 hpy48.2 (by omega)
  have hgy58 := up_n egy7 hgy57 (by omega)
  have hgy59 := up_n egy10 hgy58 (by omega)
  have hgy60 := up_n egy13 hgy59 (by omega)
  have hgy61 := up_n egy16 hgy60 (by omega)
  have hgy62 := up_n egy19 hgy61 (by omega)
  have hgy63 := (hfvy43 (a + 2 + 2 * 1 + 1) (by omega) (by omega)).trans hgy62
  refine z_cV (As := []) (rest := []) (ci := 5) C (c_xPkClear l D A cs tt N ad _ (a + 2 + 2 * 1) (by omega) _ _ _ (by omega) ⟨hgy56, hgy63⟩) (by omega) hay46 hgy56 rfl rfl mv_yX3_clear q_738 hd_yX3_clear (by decide) (Nat.le_of_ble_eq_true rfl) (by decide) dX8_clear_47 rfl (kV0 fun gvy64 hvy64 => ?_)
  obtain ⟨hpvy64, hfvy64⟩ := hvy64
  refine z_iinc (z := 2) (lv' := [(1, .int (zI (2))), (0, .ref (ad a))]) (j := 0) C dX8_clear_50 rfl (congrArg zI (by omega)) (by decide) rfl ?_
  refine z_goto (tgt := 32) C dX8_clear_53 (by decide) ?_
  refine z_iload_n C 0 dX8_clear_32 rfl ?_
  refine z_aload_n C 1 dX8_clear_33 rfl ?_
  have hgy65 := (hfvy64 (a) (by omega) (by omega)).trans hgy44
  refine z_get (v := .ref (ad (a + 1))) C (lt_A0 hN rfl) hay1 hgy65 rfl inA_X8 6 (by decide) q_188 rfl rfl dX8_clear_34 ?_
  have hgy66 := (hfvy64 (a + 1) (by omega) (by omega)).trans hgy45
  refine z_alen (z := 4) C (lt_A (c := 1) hN rfl) hay2 hgy66 3 rfl rfl dX8_clear_37 ?_
  refine z_icmp_ge (tgt := 56) C dX8_clear_38 (by decide) (by omega) (by omega) (fun h => absurd h (by omega)) (fun _ => ?_)
  refine z_aload_n C 1 dX8_clear_41 rfl ?_
  refine z_get (v := .ref (ad (a + 1))) C (lt_A0 hN rfl) hay1 hgy65 rfl inA_X8 6 (by decide) q_188 rfl rfl dX8_clear_42 ?_
  refine z_iload_n C 0 dX8_clear_45 rfl ?_
  refine z_aald C (lt_A (c := 1) hN rfl) hay2 hgy66 3 rfl (2) (by omega) (by omega) (by decide) (u3 2 (by omega)) dX8_clear_46 ?_
  have hay67 : zAt ad (a + 2 + 2 * 2) (ad (a + 2 + 2 * 2)) := rfl
  have hay68 : zAt ad (a + 2 + 2 * 2 + 1) (ad (a + 2 + 2 * 2 + 1)) := rfl
  have hpy69 := u4 2 (by omega)
  have hqy70 := uz4 2 (by omega)
  have hgy71 := up_n egy4 hpy69.1 (by omega)
  have hgy72 := up_n egy7 hgy71 (by omega)
  have hgy73 := up_n egy10 hgy72 (by omega)
  have hgy74 := up_n egy13 hgy73 (by omega)
  have hgy75 := up_n egy16 hgy74 (by omega)
  have hgy76 := up_n egy19 hgy75 (by omega)
  have hgy77 := (hfvy43 (a + 2 + 2 * 2) (by omega) (by omega)).trans hgy76
  have hgy78 := (hfvy64 (a + 2 + 2 * 2) (by omega) (by omega)).trans hgy77
  have hgy79 := up_n egy4 hpy69.2 (by omega)
  have hgy80 := up_n egy7 hgy79 (by omega)
  have hgy81 := up_n egy10 hgy80 (by omega)
  have hgy82 := up_n egy13 hgy81 (by omega)
  have hgy83 := up_n egy16 hgy82 (by omega)
  have hgy84 := up_n egy19 hgy83 (by omega)
  have hgy85 := (hfvy43 (a + 2 + 2 * 2 + 1) (by omega) (by omega)).trans hgy84
  have hgy86 := (hfvy64 (a + 2 + 2 * 2 + 1) (by omega) (by omega)).trans hgy85
  refine z_cV (As := []) (rest := []) (ci := 5) C (c_xPkClear l D A cs tt N ad _ (a + 2 + 2 * 2) (by omega) _ _ _ (by omega) ⟨hgy78, hgy86⟩) (by omega) hay67 hgy78 rfl rfl mv_yX3_clear q_738 hd_yX3_clear (by decide) (Nat.le_of_ble_eq_true rfl) (by decide) dX8_clear_47 rfl (kV0 fun gvy87 hvy87 => ?_)
  obtain ⟨hpvy87, hfvy87⟩ := hvy87
  refine z_iinc (z := 3) (lv' := [(1, .int (zI (3))), (0, .ref (ad a))]) (j := 0) C dX8_clear_50 rfl (congrArg zI (by omega)) (by decide) rfl ?_
  refine z_goto (tgt := 32) C dX8_clear_53 (by decide) ?_
  refine z_iload_n C 0 dX8_clear_32 rfl ?_
  refine z_aload_n C 1 dX8_clear_33 rfl ?_
  have hgy88 := (hfvy87 (a) (by omega) (by omega)).trans hgy65
  refine z_get (v := .ref (ad (a + 1))) C (lt_A0 hN rfl) hay1 hgy88 rfl inA_X8 6 (by decide) q_188 rfl rfl dX8_clear_34 ?_
  have hgy89 := (hfvy87 (a + 1) (by omega) (by omega)).trans hgy66
  refine z_alen (z := 4) C (lt_A (c := 1) hN rfl) hay2 hgy89 3 rfl rfl dX8_clear_37 ?_
  refine z_icmp_ge (tgt := 56) C dX8_clear_38 (by decide) (by omega) (by omega) (fun h => absurd h (by omega)) (fun _ => ?_)
  refine z_aload_n C 1 dX8_clear_41 rfl ?_
  refine z_get (v := .ref (ad (a + 1))) C (lt_A0 hN rfl) hay1 hgy88 rfl inA_X8 6 (by decide) q_188 rfl rfl dX8_clear_42 ?_
  refine z_iload_n C 0 dX8_clear_45 rfl ?_
  refine z_aald C (lt_A (c := 1) hN rfl) hay2 hgy89 3 rfl (3) (by omega) (by omega) (by decide) (u3 3 (by omega)) dX8_clear_46 ?_
  have hay90 : zAt ad (a + 2 + 2 * 3) (ad (a + 2 + 2 * 3)) := rfl
  have hay91 : zAt ad (a + 2 + 2 * 3 + 1) (ad (a + 2 + 2 * 3 + 1)) := rfl
  have hpy92 := u4 3 (by omega)
  have hqy93 := uz4 3 (by omega)
  have hgy94 := up_n egy4 hpy92.1 (by omega)
  have hgy95 := up_n egy7 hgy94 (by omega)
  have hgy96 := up_n egy10 hgy95 (by omega)
  have hgy97 := up_n egy13 hgy96 (by omega)
  have hgy98 := up_n egy16 hgy97 (by omega)
  have hgy99 := up_n egy19 hgy98 (by omega)
  have hgy100 := (hfvy43 (a + 2 + 2 * 3) (by omega) (by omega)).trans hgy99
  have hgy101 := (hfvy64 (a + 2 + 2 * 3) (by omega) (by omega)).trans hgy100
  have hgy102 := (hfvy87 (a + 2 + 2 * 3) (by omega) (by omega)).trans hgy101
  have hgy103 := up_n egy4 hpy92.2 (by omega)
  have hgy104 := up_n egy7 hgy103 (by omega)
  have hgy105 := up_n egy10 hgy104 (by omega)
  have hgy106 := up_n egy13 hgy105 (by omega)
  have hgy107 := up_n egy16 hgy106 (by omega)
  have hgy108 := up_n egy19 hgy107 (by omega)
  have hgy109 := (hfvy43 (a + 2 + 2 * 3 + 1) (by omega) (by omega)).trans hgy108
  have hgy110 := (hfvy64 (a + 2 + 2 * 3 + 1) (by omega) (by omega)).trans hgy109
  have hgy111 := (hfvy87 (a + 2 + 2 * 3 + 1) (by omega) (by omega)).trans hgy110
  refine z_cV (As := []) (rest := []) (ci := 5) C (c_xPkClear l D A cs tt N ad _ (a + 2 + 2 * 3) (by omega) _ _ _ (by omega) ⟨hgy102, hgy111⟩) (by omega) hay90 hgy102 rfl rfl mv_yX3_clear q_738 hd_yX3_clear (by decide) (Nat.le_of_ble_eq_true rfl) (by decide) dX8_clear_47 rfl (kV0 fun gvy112 hvy112 => ?_)
  obtain ⟨hpvy112, hfvy112⟩ := hvy112
  refine z_iinc (z := 4) (lv' := [(1, .int (zI (4))), (0, .ref (ad a))]) (j := 0) C dX8_clear_50 rfl (congrArg zI (by omega)) (by decide) rfl ?_
  refine z_goto (tgt := 32) C dX8_clear_53 (by decide) ?_
  refine z_iload_n C 0 dX8_clear_32 rfl ?_
  refine z_aload_n C 1 dX8_clear_33 rfl ?_
  have hgy113 := (hfvy112 (a) (by omega) (by omega)).trans hgy88
  refine z_get (v := .ref (ad (a + 1))) C (lt_A0 hN rfl) hay1 hgy113 rfl inA_X8 6 (by decide) q_188 rfl rfl dX8_clear_34 ?_
  have hgy114 := (hfvy112 (a + 1) (by omega) (by omega)).trans hgy89
  refine z_alen (z := 4) C (lt_A (c := 1) hN rfl) hay2 hgy114 3 rfl rfl dX8_clear_37 ?_
  refine z_icmp_ge (tgt := 56) C dX8_clear_38 (by decide) (by omega) (by omega) (fun _ => ?_) (fun h => absurd h (by omega))
  have hgy115 := (hfvy64 (a + 2 + 2 * 0) (by omega) (by omega)).trans hpvy43.1
  have hgy116 := (hfvy87 (a + 2 + 2 * 0) (by omega) (by omega)).trans hgy115
  have hgy117 := (hfvy112 (a + 2 + 2 * 0) (by omega) (by omega)).trans hgy116
  have hgy118 := (hfvy64 (a + 2 + 2 * 0 + 1) (by omega) (by omega)).trans hpvy43.2
  have hgy119 := (hfvy87 (a + 2 + 2 * 0 + 1) (by omega) (by omega)).trans hgy118
  have hgy120 := (hfvy112 (a + 2 + 2 * 0 + 1) (by omega) (by omega)).trans hgy119
  have hgy121 := (hfvy87 (a + 2 + 2 * 1) (by omega) (by omega)).trans hpvy64.1
  have hgy122 := (hfvy112 (a + 2 + 2 * 1) (by omega) (by omega)).trans hgy121
  have hgy123 := (hfvy87 (a + 2 + 2 * 1 + 1) (by omega) (by omega)).trans hpvy64.2
  have hgy124 := (hfvy112 (a + 2 + 2 * 1 + 1) (by omega) (by omega)).trans hgy123
  have hgy125 := (hfvy112 (a + 2 + 2 * 2) (by omega) (by omega)).trans hpvy87.1
  have hgy126 := (hfvy112 (a + 2 + 2 * 2 + 1) (by omega) (by omega)).trans hpvy87.2
  have hp4 : ∀ k, k < 4 → isPack cs ad gvy112 (a + 2 + 2 * k) ((fun _ => 0) k) ((fun _ => 0) k) (ur k) := by
    intro k hk
    rcases (show k = 0 ∨ k = 1 ∨ k = 2 ∨ k = 3 by omega) with rfl | rfl | rfl | rfl
    · exact ⟨hgy117, hgy120⟩
    · exact ⟨hgy122, hgy124⟩
    · exact ⟨hgy125, hgy126⟩
    · exact ⟨hpvy112.1, hpvy112.2⟩
  exact z_vret C hr hlk dX8_clear_56 (by decide) (by decide) ⟨rfl, rfl, rfl, ⟨ur, hgy113, ⟨uu, hgy114, u3⟩, hp4⟩, fun j j1 => by rw [hfvy112 _ (by omega) (by omega)]; rw [hfvy87 _ (by omega) (by omega)]; rw [hfvy64 _ (by omega) (by omega)]; rw [hfvy43 _ (by omega) (by omega)]; rw [egy19, va_up_ne _ _ (by omega)]; rw [egy16, va_up_ne _ _ (by omega)]; rw [egy13, va_up_ne _ _ (by omega)]; rw [egy10, va_up_ne _ _ (by omega)]; rw [egy7, va_up_ne _ _ (by omega)]; rw [egy4, va_up_ne _ _ (by omega)]⟩

set_option maxRecDepth 100000 in
set_option maxHeartbeats 4000000 in
theorem c_xPClear (l : Launch) (D : va_G) (A : Nat → Prop) (cs : Nat → ClassId) (tt : Nat) (N : Nat) (ad : Nat → Nat) (g : Nat → va_E) (b : Nat) (hNb : b + 7 ≤ N) (sl ho ua : Int) (st op ai fa mu tb : Nat → Int) (hb : isPlan cs ad g b sl ho ua st op ai fa mu tb) : zM l yX5_clear cX5_clear 1 none ({ frames := 1, cells := 0, slots := 0, locals := 60 } : Room) D A cs tt N ad g [.ref (ad b)] (rV0 N ad fun g' => isPlan cs ad g' b 0 0 0 st op ai fa mu tabZ ∧ ∀ j, j < b ∨ b + 7 ≤ j → g' j = g j) := by
  have hay1 : zAt ad (b) (ad b) := rfl
  have hay2 : zAt ad (b + 1) (ad (b + 1)) := rfl
  have hay3 : zAt ad (b + 2) (ad (b + 2)) := rfl
  have hay4 : zAt ad (b + 3) (ad (b + 3)) := rfl
  have hay5 : zAt ad (b + 4) (ad (b + 4)) := rfl
  have hay6 : zAt ad (b + 5) (ad (b + 5)) := rfl
  have hay7 : zAt ad (b + 6) (ad (b + 6)) := rfl
  refine z_of (by decide) (Nat.le_of_ble_eq_true rfl) ?_
  intro p e s m below meth c C hr hlk hnm
  refine z_lv (lv' := [(0, .ref (ad b))]) [0] rfl ?_
  refine z_aload_n C 0 dX5_clear_0 rfl ?_
  refine z_iconst (z := 0) C dX5_clear_1 rfl ?_
  refine z_put (fs' := [.int (zI (0)), .int (zI (ho)), .int (zI (ua)), .ref (ad (b + 1)), .ref (ad (b + 2)), .ref (ad (b + 3)), .ref (ad (b + 4)), .ref (ad (b + 5)), .ref (ad (b + 6))]) C (by omega) hay1 hb.1 tyX5 tyX5_ok nmX5 rfl inA_X5 0 (by decide) q_88 rfl rfl rfl rfl (Nat.le_of_ble_eq_true rfl) rfl dX5_clear_2 (fun gy8 egy9 => ?_)
  have hgy10 := up_s egy9
  refine z_aload_n C 0 dX5_clear_5 rfl ?_
  refine z_iconst (z := 0) C dX5_clear_6 rfl ?_
  refine z_put (fs' := [.int (zI (0)), .int (zI (0)), .int (zI (ua)), .ref (ad (b + 1)), .ref (ad (b + 2)), .ref (ad (b + 3)), .ref (ad (b + 4)), .ref (ad (b + 5)), .ref (ad (b + 6))]) C (by omega) hay1 hgy10 tyX5 tyX5_ok nmX5 rfl inA_X5 1 (by decide) q_92 rfl rfl rfl rfl (Nat.le_of_ble_eq_true rfl) rfl dX5_clear_7 (fun gy11 egy12 => ?_)
  have hgy13 := up_s egy12
  refine z_aload_n C 0 dX5_clear_10 rfl ?_
  refine z_iconst (z := 0) C dX5_clear_11 rfl ?_
  refine z_put (fs' := [.int (zI (0)), .int (zI (0)), .int (zI (0)), .ref (ad (b + 1)), .ref (ad (b + 2)), .ref (ad (b + 3)), .ref (ad (b + 4)), .ref (ad (b + 5)), .ref (ad (b + 6))]) C (by omega) hay1 hgy13 tyX5 tyX5_ok nmX5 rfl inA_X5 2 (by decide) q_95 rfl rfl rfl rfl (Nat.le_of_ble_eq_true rfl) rfl dX5_clear_12 (fun gy14 egy15 => ?_)
  have hgy16 := up_s egy15
  refine z_getT C n_79 dX5_clear_15 ?_
  refine z_iconst (z := 0) C dX5_clear_18 rfl ?_
  refine z_aload_n C 0 dX5_clear_19 rfl ?_
  refine z_get (v := .ref (ad (b + 6))) C (by omega) hay1 hgy16 rfl inA_X5 8 (by decide) q_113 rfl rfl dX5_clear_20 ?_
  refine z_iconst (z := 0) C dX5_clear_23 rfl ?_
  refine z_aload_n C 0 dX5_clear_24 rfl ?_
  refine z_get (v := .ref (ad (b + 6))) C (by omega) hay1 hgy16 rfl inA_X5 8 (by decide) q_113 rfl rfl dX5_clear_25 ?_
  have hgy17 := up_n egy9 hb.2.2.2.2.2.2 (ne_o (i := b) (c := 6) (d := 0) rfl)
  have hgy18 := up_n egy12 hgy17 (ne_o (i := b) (c := 6) (d := 0) rfl)
  have hgy19 := up_n egy15 hgy18 (ne_o (i := b) (c := 6) (d := 0) rfl)
  refine z_alen (z := 15) C (by omega) hay7 hgy19 1 rfl rfl dX5_clear_28 ?_
  refine z_copyT C q_733 q_430 q_429 q_21 (by omega) hay7 hgy19 (by decide) (Nat.le_of_ble_eq_true rfl) dX5_clear_29 (fun gy20 egy21 => ?_)
  have hgy22 := up_s egy21
  refine z_ext (r' := tabZ) (by omega) hgy22 (fun j hj => cZ_all hj) (fun gy23 egy24 => ?_)
  have hgy25 := up_s egy24
  have hgy26 := up_n egy21 hgy16 (ne_o (i := b) (c := 0) (d := 6) rfl)
  have hgy27 := up_n egy24 hgy26 (ne_o (i := b) (c := 0) (d := 6) rfl)
  have hgy28 := up_n egy9 hb.2.1 (ne_o (i := b) (c := 1) (d := 0) rfl)
  have hgy29 := up_n egy12 hgy28 (ne_o (i := b) (c := 1) (d := 0) rfl)
  have hgy30 := up_n egy15 hgy29 (ne_o (i := b) (c := 1) (d := 0) rfl)
  have hgy31 := up_n egy21 hgy30 (ne_o (i := b) (c := 1) (d := 6) rfl)
  have hgy32 := up_n egy24 hgy31 (ne_o (i := b) (c := 1) (d := 6) rfl)
  have hgy33 := up_n egy9 hb.2.2.1 (ne_o (i := b) (c := 2) (d := 0) rfl)
  have hgy34 := up_n egy12 hgy33 (ne_o (i := b) (c := 2) (d := 0) rfl)
  have hgy35 := up_n egy15 hgy34 (ne_o (i := b) (c := 2) (d := 0) rfl)
  have hgy36 := up_n egy21 hgy35 (ne_o (i := b) (c := 2) (d := 6) rfl)
  have hgy37 := up_n egy24 hgy36 (ne_o (i := b) (c := 2) (d := 6) rfl)
  have hgy38 := up_n egy9 hb.2.2.2.1 (ne_o (i := b) (c := 3) (d := 0) rfl)
  have hgy39 := up_n egy12 hgy38 (ne_o (i := b) (c := 3) (d := 0) rfl)
  have hgy40 := up_n egy15 hgy39 (ne_o (i := b) (c := 3) (d := 0) rfl)
  have hgy41 := up_n egy21 hgy40 (ne_o (i := b) (c := 3) (d := 6) rfl)
  have hgy42 := up_n egy24 hgy41 (ne_o (i := b) (c := 3) (d := 6) rfl)
  have hgy43 := up_n egy9 hb.2.2.2.2.1 (ne_o (i := b) (c := 4) (d := 0) rfl)
  have hgy44 := up_n egy12 hgy43 (ne_o (i := b) (c := 4) (d := 0) rfl)
  have hgy45 := up_n egy15 hgy44 (ne_o (i := b) (c := 4) (d := 0) rfl)
  have hgy46 := up_n egy21 hgy45 (ne_o (i := b) (c := 4) (d := 6) rfl)
  have hgy47 := up_n egy24 hgy46 (ne_o (i := b) (c := 4) (d := 6) rfl)
  have hgy48 := up_n egy9 hb.2.2.2.2.2.1 (ne_o (i := b) (c := 5) (d := 0) rfl)
  have hgy49 := up_n egy12 hgy48 (ne_o (i := b) (c := 5) (d := 0) rfl)
  have hgy50 := up_n egy15 hgy49 (ne_o (i := b) (c := 5) (d := 0) rfl)
  have hgy51 := up_n egy21 hgy50 (ne_o (i := b) (c := 5) (d := 6) rfl)
  have hgy52 := up_n egy24 hgy51 (ne_o (i := b) (c := 5) (d := 6) rfl)
  exact z_vret C hr hlk dX5_clear_32 (by decide) (by decide) ⟨rfl, rfl, rfl, ⟨hgy27, hgy32, hgy37, hgy42, hgy47, hgy52, hgy25⟩, fun j j1 => by rw [egy24, va_up_ne _ _ (by omega)]; rw [egy21, va_up_ne _ _ (by omega)]; rw [egy15, va_up_ne _ _ (by omega)]; rw [egy12, va_up_ne _ _ (by omega)]; rw [egy9, va_up_ne _ _ (by omega)]⟩

set_option maxRecDepth 100000 in
set_option maxHeartbeats 4000000 in
theorem c_xRead (l : Launch) (D : va_G) (A : Nat → Prop) (cs : Nat → ClassId) (tt : Nat) (N : Nat) (ad : Nat → Nat) (g : Nat → va_E) (hN : 952 ≤ N) (tp T : Nat → Int) (hT : xT tp T) (n : Nat) (hn : n ≤ 900) (hr2 : okRdr ad g 2) (hg1 : g 1 = bA cs 900 tp) (sl ho ua : Int) (st op ai fa mu tb : Nat → Int) (hP : isPlan cs ad g 883 sl ho ua st op ai fa mu tb) (hsl : 0 ≤ sl ∧ sl ≤ 4) (hho : 0 ≤ ho ∧ ho ≤ 24) (hw8 : okWorld cs ad g 890) (z : Int) (hzn : z = (n : Int)) : zM l yX7_read cX7_read 6 (some .int) ({ frames := 10, cells := 0, slots := 0, locals := 600 } : Room) D A cs tt N ad g [.ref (ad 2), .ref (ad 1), .int (zI (z)), .ref (ad 883), .ref (ad 890)] (rI0 N ad fun r g' => (∃ (L0 : Nat → Nat → Int) (k : Nat) (co pl : Int) (s9 : Int × Int × Int × (Nat → Int) × (Nat → Int) × (Nat → Int) × (Nat → Int) × (Nat → Int) × (Nat → Int) × (Nat → Int) × (Nat → Int) × (Nat → Nat → Int)), ps_run T n k (0, 0, 0, (fun _ => 0), st, op, ai, fa, mu, tabZ, (fun _ => 0), L0) (tk_at T n 0) = some ((co, pl), s9) ∧ r = co ∧ (0 ≤ co ∧ co ≤ 5) ∧ (∃ en ty a9 be tk td : Int, g' 2 = rdC ad pl co en ty a9 be tk td) ∧ g' 1 = bA cs 900 tp ∧ xSt cs ad g' s9) ∧ ∀ j, j ≠ 2 → (j < 883 ∨ 900 ≤ j) → g' j = g j) := by
  subst hzn
  obtain ⟨x0, x1, x3, x4, x5, x6, x7, x8, tx, hg2⟩ := id hr2
  have hay1 : zAt ad (2) (ad 2) := rfl
  have hay2 : zAt ad (1) (ad 1) := rfl
  have hay3 : zAt ad (883) (ad 883) := rfl
  have hay4 : zAt ad (883 + 1) (ad (883 + 1)) := rfl
  have hay5 : zAt ad (883 + 2) (ad (883 + 2)) := rfl
  have hay6 : zAt ad (883 + 3) (ad (883 + 3)) := rfl
  have hay7 : zAt ad (883 + 4) (ad (883 + 4)) := rfl
  have hay8 : zAt ad (883 + 5) (ad (883 + 5)) := rfl
  have hay9 : zAt ad (883 + 6) (ad (883 + 6)) := rfl
  have hay10 : zAt ad (890) (ad 890) := rfl
  obtain ⟨thcy11, zhcy11, ohcy11, rhcy11, hzhcy11, hthcy11, hwhcy11⟩ := id hw8
  have hTr : ∀ k, k < 900 → -128 ≤ tp k ∧ tp k ≤ 127 := fun k hk => (hT k hk).2.1
  refine z_of (by decide) (Nat.le_of_ble_eq_true rfl) ?_
  intro p e s m below meth c C hr hlk hnm
  refine z_lv (lv' := [(0, .ref (ad 2)), (1, .ref (ad 1)), (2, .int (zI ((n : Int)))), (3, .ref (ad 883)), (4, .ref (ad 890))]) [0, 1, 2, 3, 4] rfl ?_
  refine z_aload_n C 0 dX7_read_0 rfl ?_
  refine z_aload_n C 1 dX7_read_1 rfl ?_
  refine z_put (fs' := [.int (zI (x0)), .int (zI (x1)), .ref (ad 1), .int (zI (x3)), .int (zI (x4)), .int (zI (x5)), .int (zI (x6)), .int (zI (x7)), .int (zI (x8))]) C (lt_K hN (rfl : Nat.blt (2) 952 = true)) hay1 hg2 tyX7 tyX7_ok nmX7 rfl inA_X7 2 (by decide) q_46 rfl rfl rfl rfl (Nat.le_of_ble_eq_true rfl) rfl dX7_read_2 (fun gy12 egy13 => ?_)
  have hgy14 := up_s egy13
  refine z_aload_n C 0 dX7_read_5 rfl ?_
  refine z_iload_n C 2 dX7_read_6 rfl ?_
  refine z_aload_n C 1 dX7_read_7 rfl ?_
  have hgy15 := up_n egy13 hg1 (by decide)
  refine z_alen (z := 900) C (lt_K hN (rfl : Nat.blt (1) 952 = true)) hay2 hgy15 0 rfl rfl dX7_read_8 ?_
  refine z_mmin C q_728 q_473 q_20 q_474 (by omega) (by omega) (by decide) (Nat.le_of_ble_eq_true rfl) (by decide) (by decide) dX7_read_9 ?_
  obtain ⟨xy16, exy17, hxy18⟩ := mm_min ((n : Int)) (900)
  rw [exy17]
  obtain rfl : xy16 = (n : Int) := by omega
  refine z_put (fs' := [.int (zI (x0)), .int (zI (x1)), .ref (ad 1), .int (zI ((n : Int))), .int (zI (x4)), .int (zI (x5)), .int (zI (x6)), .int (zI (x7)), .int (zI (x8))]) C (lt_K hN (rfl : Nat.blt (2) 952 = true)) hay1 hgy14 tyX7 tyX7_ok nmX7 rfl inA_X7 3 (by decide) q_47 rfl rfl rfl rfl (Nat.le_of_ble_eq_true rfl) rfl dX7_read_12 (fun gy19 egy20 => ?_)
  have hgy21 := up_s egy20
  refine z_aload_n C 0 dX7_read_15 rfl ?_
  refine z_iconst (z := 0) C dX7_read_16 rfl ?_
  refine z_put (fs' := [.int (zI (x0)), .int (zI (x1)), .ref (ad 1), .int (zI ((n : Int))), .int (zI (x4)), .int (zI (x5)), .int (zI (0)), .int (zI (x7)), .int (zI (x8))]) C (lt_K hN (rfl : Nat.blt (2) 952 = true)) hay1 hgy21 tyX7 tyX7_ok nmX7 rfl inA_X7 6 (by decide) q_50 rfl rfl rfl rfl (Nat.le_of_ble_eq_true rfl) rfl dX7_read_17 (fun gy22 egy23 => ?_)
  have hgy24 := up_s egy23
  refine z_aload_n C 0 dX7_read_20 rfl ?_
  refine z_iconst (z := 0) C dX7_read_21 rfl ?_
  refine z_put (fs' := [.int (zI (x0)), .int (zI (0)), .ref (ad 1), .int (zI ((n : Int))), .int (zI (x4)), .int (zI (x5)), .int (zI (0)), .int (zI (x7)), .int (zI (x8))]) C (lt_K hN (rfl : Nat.blt (2) 952 = true)) hay1 hgy24 tyX7 tyX7_ok nmX7 rfl inA_X7 1 (by decide) q_45 rfl rfl rfl rfl (Nat.le_of_ble_eq_true rfl) rfl dX7_read_22 (fun gy25 egy26 => ?_)
  have hgy27 := up_s egy26
  refine z_aload_n C 0 dX7_read_25 rfl ?_
  refine z_iconst (z := -1) C dX7_read_26 rfl ?_
  refine z_put (fs' := [.int (zI (-1)), .int (zI (0)), .ref (ad 1), .int (zI ((n : Int))), .int (zI (x4)), .int (zI (x5)), .int (zI (0)), .int (zI (x7)), .int (zI (x8))]) C (lt_K hN (rfl : Nat.blt (2) 952 = true)) hay1 hgy27 tyX7 tyX7_ok nmX7 rfl inA_X7 0 (by decide) q_43 rfl rfl rfl rfl (Nat.le_of_ble_eq_true rfl) rfl dX7_read_27 (fun gy28 egy29 => ?_)
  have hgy30 := up_s egy29
  refine z_aload_n C 0 dX7_read_30 rfl ?_
  refine z_iconst (z := 0) C dX7_read_31 rfl ?_
  refine z_put (fs' := [.int (zI (-1)), .int (zI (0)), .ref (ad 1), .int (zI ((n : Int))), .int (zI (x4)), .int (zI (x5)), .int (zI (0)), .int (zI (x7)), .int (zI (0))]) C (lt_K hN (rfl : Nat.blt (2) 952 = true)) hay1 hgy30 tyX7 tyX7_ok nmX7 rfl inA_X7 8 (by decide) q_52 rfl rfl rfl rfl (Nat.le_of_ble_eq_true rfl) rfl dX7_read_32 (fun gy31 egy32 => ?_)
  have hgy33 := up_s egy32
  refine z_aload_n C 3 dX7_read_35 rfl ?_
  have hgy35 := up_n egy13 hP.1 (by decide)
  have hgy36 := up_n egy20 hgy35 (by decide)
  have hgy37 := up_n egy23 hgy36 (by decide)
  have hgy38 := up_n egy26 hgy37 (by decide)
  have hgy39 := up_n egy29 hgy38 (by decide)
  have hgy40 := up_n egy32 hgy39 (by decide)
  have hgy41 := up_n egy13 hP.2.1 (by omega)
  have hgy42 := up_n egy20 hgy41 (by omega)
  have hgy43 := up_n egy23 hgy42 (by omega)
  have hgy44 := up_n egy26 hgy43 (by omega)
  have hgy45 := up_n egy29 hgy44 (by omega)
  have hgy46 := up_n egy32 hgy45 (by omega)
  have hgy47 := up_n egy13 hP.2.2.1 (by omega)
  have hgy48 := up_n egy20 hgy47 (by omega)
  have hgy49 := up_n egy23 hgy48 (by omega)
  have hgy50 := up_n egy26 hgy49 (by omega)
  have hgy51 := up_n egy29 hgy50 (by omega)
  have hgy52 := up_n egy32 hgy51 (by omega)
  have hgy53 := up_n egy13 hP.2.2.2.1 (by omega)
  have hgy54 := up_n egy20 hgy53 (by omega)
  have hgy55 := up_n egy23 hgy54 (by omega)
  have hgy56 := up_n egy26 hgy55 (by omega)
  have hgy57 := up_n egy29 hgy56 (by omega)
  have hgy58 := up_n egy32 hgy57 (by omega)
  have hgy59 := up_n egy13 hP.2.2.2.2.1 (by omega)
  have hgy60 := up_n egy20 hgy59 (by omega)
  have hgy61 := up_n egy23 hgy60 (by omega)
  have hgy62 := up_n egy26 hgy61 (by omega)
  have hgy63 := up_n egy29 hgy62 (by omega)
  have hgy64 := up_n egy32 hgy63 (by omega)
  have hgy65 := up_n egy13 hP.2.2.2.2.2.1 (by omega)
  have hgy66 := up_n egy20 hgy65 (by omega)
  have hgy67 := up_n egy23 hgy66 (by omega)
  have hgy68 := up_n egy26 hgy67 (by omega)
  have hgy69 := up_n egy29 hgy68 (by omega)
  have hgy70 := up_n egy32 hgy69 (by omega)
  have hgy71 := up_n egy13 hP.2.2.2.2.2.2 (by omega)
  have hgy72 := up_n egy20 hgy71 (by omega)
  have hgy73 := up_n egy23 hgy72 (by omega)
  have hgy74 := up_n egy26 hgy73 (by omega)
  have hgy75 := up_n egy29 hgy74 (by omega)
  have hgy76 := up_n egy32 hgy75 (by omega)
  refine z_cV (As := []) (rest := []) (ci := 7) C (c_xPClear l D A cs tt N ad _ 883 (by omega) _ _ _ _ _ _ _ _ _ ⟨hgy40, hgy46, hgy52, hgy58, hgy64, hgy70, hgy76⟩) (lt_K hN (rfl : Nat.blt (883) 952 = true)) hay3 hgy40 rfl rfl mv_yX5_clear q_729 hd_yX5_clear (by decide) (Nat.le_of_ble_eq_true rfl) (by decide) dX7_read_36 rfl (kV0 fun gvy34 hvy34 => ?_)
  obtain ⟨hpvy34, hfvy34⟩ := hvy34
  refine z_aload C 4 dX7_read_39 rfl ?_
  have hoky78 : okWorld cs ad gvy34 (890) := okWorld.mv (fun j j1 j2 => by rw [hfvy34 _ (by omega)]; rw [egy32, va_up_ne _ _ (by omega)]; rw [egy29, va_up_ne _ _ (by omega)]; rw [egy26, va_up_ne _ _ (by omega)]; rw [egy23, va_up_ne _ _ (by omega)]; rw [egy20, va_up_ne _ _ (by omega)]; rw [egy13, va_up_ne _ _ (by omega)]) hw8
  have hgy79 := up_n egy13 hwhcy11.1 (by decide)
  have hgy80 := up_n egy20 hgy79 (by decide)
  have hgy81 := up_n egy23 hgy80 (by decide)
  have hgy82 := up_n egy26 hgy81 (by decide)
  have hgy83 := up_n egy29 hgy82 (by decide)
  have hgy84 := up_n egy32 hgy83 (by decide)
  have hgy85 := (hfvy34 (890) (by omega)).trans hgy84
  refine z_cV (As := []) (rest := []) (ci := 10) C (c_xWClear l D A cs tt N ad _ 890 (by omega) hoky78) (lt_K hN (rfl : Nat.blt (890) 952 = true)) hay10 hgy85 rfl rfl mv_yX8_clear q_734 hd_yX8_clear (by decide) (Nat.le_of_ble_eq_true rfl) (by decide) dX7_read_41 rfl (kV0 fun gvy77 hvy77 => ?_)
  obtain ⟨⟨L0, hwvy77⟩, hfvy77⟩ := hvy77
  refine z_aload_n C 0 dX7_read_44 rfl ?_
  have hgy86 := (hfvy34 (2) (by omega)).trans hgy33
  have hgy87 := (hfvy77 (2) (by omega)).trans hgy86
  have hgy88 := up_n egy20 hgy15 (by decide)
  have hgy89 := up_n egy23 hgy88 (by decide)
  have hgy90 := up_n egy26 hgy89 (by decide)
  have hgy91 := up_n egy29 hgy90 (by decide)
  have hgy92 := up_n egy32 hgy91 (by decide)
  have hgy93 := (hfvy34 (1) (by omega)).trans hgy92
  have hgy94 := (hfvy77 (1) (by omega)).trans hgy93
  refine z_cV (As := []) (rest := []) (ci := 9) C (c_xPeek l D A cs tt N ad _ (by omega) _ _ _ _ _ _ tp T hT n hn 0 (by omega) hgy87 hgy94) (lt_K hN (rfl : Nat.blt (2) 952 = true)) hay1 hgy87 rfl rfl mv_yX7_peek q_742 hd_yX7_peek (by decide) (Nat.le_of_ble_eq_true rfl) (by decide) dX7_read_45 rfl (kV0 fun gvy95 hvy95 => ?_)
  obtain ⟨hkvy95, hfvy95⟩ := hvy95
  refine z_iconst (z := 0) C dX7_read_48 rfl ?_
  refine z_istore (lv' := [(5, .int (zI (0))), (0, .ref (ad 2)), (1, .ref (ad 1)), (2, .int (zI ((n : Int)))), (3, .ref (ad 883)), (4, .ref (ad 890))]) C dX7_read_49 (by decide) rfl ?_
  have lp : ∀ (n9 : Nat) (i : Int) (f : Nat) (s9 : Int × Int × Int × (Nat → Int) × (Nat → Int) × (Nat → Int) × (Nat → Int) × (Nat → Int) × (Nat → Int) × (Nat → Int) × (Nat → Int) × (Nat → Nat → Int)) (tk : Int) (td : Int) (g1 : Nat → va_E), (901 - i).toNat = n9 → (g1 2 = rdC ad (-1) (0) ((n : Int)) (tk_so T n f) ((f : Int)) (((tk_to T n f : Nat) : Int)) (tk) (td)) → (g1 1 = bA cs 900 tp) → (xSt cs ad g1 s9) → (xTd td (s9.2.2.2.2.2.2.2.2.2.2.1)) → (∀ r9, (∃ k9, ps_run T n k9 s9 f = some r9) → ∃ k9, ps_run T n k9 (0, 0, 0, (fun _ => 0), st, op, ai, fa, mu, tabZ, (fun _ => 0), L0) (tk_at T n 0) = some r9) → (∀ j, j ≠ 2 → (j < 883 ∨ 900 ≤ j) → g1 j = g j) → ((0 ≤ i ∧ i ≤ 901) ∧ i ≤ (f : Int) ∧ f ≤ n) → zV p l e ({ frames := 10, cells := 0, slots := 0, locals := 600 } : Room) s m ([.ref (ad 2), .ref (ad 1), .int (zI (n : Int)), .ref (ad 883), .ref (ad 890)] : List Value).toArray below meth c (MQ below (zPost D A (rI0 N ad fun r g' => (∃ (L0 : Nat → Nat → Int) (k : Nat) (co pl : Int) (s9 : Int × Int × Int × (Nat → Int) × (Nat → Int) × (Nat → Int) × (Nat → Int) × (Nat → Int) × (Nat → Int) × (Nat → Int) × (Nat → Int) × (Nat → Nat → Int)), ps_run T n k (0, 0, 0, (fun _ => 0), st, op, ai, fa, mu, tabZ, (fun _ => 0), L0) (tk_at T n 0) = some ((co, pl), s9) ∧ r = co ∧ (0 ≤ co ∧ co ≤ 5) ∧ (∃ en ty a9 be tk td : Int, g' 2 = rdC ad pl co en ty a9 be tk td) ∧ g' 1 = bA cs 900 tp ∧ xSt cs ad g' s9) ∧ ∀ j, j ≠ 2 → (j < 883 ∨ 900 ≤ j) → g' j = g j)) ([.ref (ad 2), .ref (ad 1), .int (zI (n : Int)), .ref (ad 883), .ref (ad 890)] : List Value).toArray s ({ frames := 10, cells := 0, slots := 0, locals := 600 } : Room).cells ({ frames := 10, cells := 0, slots := 0, locals := 600 } : Room).slots A) D A 6 (N) ad g1 (0) (0) 51 [(5, .int (zI (i))), (0, .ref (ad 2)), (3, .ref (ad 883)), (4, .ref (ad 890))] [] := by
    intro n9
    induction n9 using Nat.strongRecOn with
    | ind n9 ih =>
      intro i f s9 tk td g1 hm9 f1 f2 hX9 hB9 hf9 f4 f5
      have hay96 : zAt ad (2) (ad 2) := rfl
      have hay97 : zAt ad (1) (ad 1) := rfl
      have hay98 : zAt ad (883) (ad 883) := rfl
      have hay99 : zAt ad (890) (ad 890) := rfl
      have hsb := tk_so_b T n f
      have htb := tk_to_b (T := T) (n := n) (f := f) (by omega)
      refine z_iload C 0 dX7_read_51 rfl ?_
      refine z_aload_n C 1 dX7_read_53 rfl ?_
      refine z_get (v := .int (zI ((n : Int)))) C (lt_K hN (rfl : Nat.blt (2) 952 = true)) hay96 f1 rfl inA_X7 3 (by decide) q_47 rfl rfl dX7_read_54 ?_
      refine z_icmp_gt (tgt := 87) C dX7_read_57 (by decide) (by omega) (by omega) (fun hby100 => ?_) (fun hby100 => ?_)
      · refine z_aload_n C 1 dX7_read_87 rfl ?_
        refine z_get (v := .int (zI (0))) C (lt_K hN (rfl : Nat.blt (2) 952 = true)) hay96 f1 rfl inA_X7 1 (by decide) q_45 rfl rfl dX7_read_88 ?_
        exfalso; omega
      · refine z_aload_n C 1 dX7_read_60 rfl ?_
        refine z_get (v := .int (zI (0))) C (lt_K hN (rfl : Nat.blt (2) 952 = true)) hay96 f1 rfl inA_X7 1 (by decide) q_45 rfl rfl dX7_read_61 ?_
        refine z_if_ne (tgt := 87) C dX7_read_64 (by decide) (by omega) (fun h => absurd h (by omega)) (fun _ => ?_)
        refine z_aload_n C 1 dX7_read_67 rfl ?_
        refine z_get (v := .int (zI (tk_so T n f))) C (lt_K hN (rfl : Nat.blt (2) 952 = true)) hay96 f1 rfl inA_X7 4 (by decide) q_48 rfl rfl dX7_read_68 ?_
        refine z_if_eq (tgt := 87) C dX7_read_71 (by decide) (by omega) (fun hby101 => ?_) (fun hby101 => ?_)
        · have hso : (tk_so T n f = 0) := by omega
          refine z_aload_n C 1 dX7_read_87 rfl ?_
          refine z_get (v := .int (zI (0))) C (lt_K hN (rfl : Nat.blt (2) 952 = true)) hay96 f1 rfl inA_X7 1 (by decide) q_45 rfl rfl dX7_read_88 ?_
          obtain ⟨k9, hk9⟩ := hf9 ((0, -1), s9) ⟨1, by simp only [ps_run]; rw [if_pos hso]⟩
          exact z_iret C hr hlk dX7_read_91 (by decide) (by decide) ⟨0, rfl, rfl, rfl, ⟨L0, k9, _, _, s9, hk9, rfl, by omega, ⟨_, _, _, _, _, _, f1⟩, f2, hX9⟩, fun j j1 j2 => by exact f4 j j1 j2⟩
        · have hso : ¬ (tk_so T n f = 0) := by omega
          refine z_aload_n C 1 dX7_read_74 rfl ?_
          refine z_aload_n C 2 dX7_read_75 rfl ?_
          refine z_aload C 3 dX7_read_76 rfl ?_
          have hfn : f < n := by
            by_cases e9 : n ≤ f
            · exact absurd (tk_so_0.mpr e9) hso
            · omega
          refine z_cV (As := [.ref (ad 883), .ref (ad 890)]) (rest := []) (ci := 9) C (c_xClause l D A cs tt N ad _ (by omega) _ _ _ tp T hT n hn f (by omega) f1 f2 (s9.1) (s9.2.1) (s9.2.2.1) (s9.2.2.2.1) (s9.2.2.2.2.1) (s9.2.2.2.2.2.1) (s9.2.2.2.2.2.2.1) (s9.2.2.2.2.2.2.2.1) (s9.2.2.2.2.2.2.2.2.1) (s9.2.2.2.2.2.2.2.2.2.1) (s9.2.2.2.2.2.2.2.2.2.2.1) (s9.2.2.2.2.2.2.2.2.2.2.2) hB9 hX9) (lt_K hN (rfl : Nat.blt (2) 952 = true)) hay96 f1 rfl rfl mv_yX7_readClause q_749 hd_yX7_readClause (by decide) (Nat.le_of_ble_eq_true rfl) (by decide) dX7_read_78 rfl (kV0 fun gvy102 hvy102 => ?_)
          obtain ⟨hvy102, hfvy102⟩ := hvy102
          rcases hvy102 with hvy102 | hvy102
          · obtain ⟨vvy102, hv0vy102, hbvy102, ⟨tkvy102, tdvy102, hkvy102, htvy102⟩, hxvy102⟩ := hvy102
            have hvvy102 : ps_step T n s9 f = .ok vvy102 := hv0vy102
            have hsby103 := tk_so_b T n vvy102.2
            have htby104 := tk_to_b (T := T) (n := n) (f := vvy102.2) (by omega)
            have hf2vy102 : ∀ r9, (∃ k9, ps_run T n k9 vvy102.1 vvy102.2 = some r9) → ∃ k9, ps_run T n k9 (0, 0, 0, (fun _ => 0), st, op, ai, fa, mu, tabZ, (fun _ => 0), L0) (tk_at T n 0) = some r9 := fun r9 ⟨k9, hk9⟩ => hf9 r9 ⟨k9 + 1, by simp only [ps_run]; rw [if_neg hso, hvvy102]; exact hk9⟩
            refine z_iinc (z := i + 1) (lv' := [(5, .int (zI (i + 1))), (0, .ref (ad 2)), (3, .ref (ad 883)), (4, .ref (ad 890))]) (j := 0) C dX7_read_81 rfl rfl (by decide) rfl ?_
            refine z_goto (tgt := 51) C dX7_read_84 (by decide) ?_
            refine z_lv (lv' := [(5, .int (zI (i + 1))), (0, .ref (ad 2)), (3, .ref (ad 883)), (4, .ref (ad 890))]) [0, 1, 2, 3] rfl ?_
            exact ih _ (by omega) (i + 1) (vvy102.2) vvy102.1 (tkvy102) (tdvy102) gvy102 rfl hkvy102 ((hfvy102 1 (by omega) (by omega)).trans f2) hxvy102 htvy102 hf2vy102 (fun j j1 j2 => by rw [hfvy102 _ (by omega) (by omega)]; exact f4 j j1 j2) (by omega)
          · obtain ⟨evy102, hv0vy102, ⟨hcvy102, envy102, tyvy102, a9vy102, bevy102, tkvy102, tdvy102, hAvy102, hTvy102, hkvy102, h1vy102⟩, hxvy102⟩ := hvy102
            have hvvy102 : ps_step T n s9 f = .error evy102 := hv0vy102
            refine z_iinc (z := i + 1) (lv' := [(5, .int (zI (i + 1))), (0, .ref (ad 2)), (3, .ref (ad 883)), (4, .ref (ad 890))]) (j := 0) C dX7_read_81 rfl rfl (by decide) rfl ?_
            refine z_goto (tgt := 51) C dX7_read_84 (by decide) ?_
            refine z_iload C 0 dX7_read_51 rfl ?_
            refine z_aload_n C 1 dX7_read_53 rfl ?_
            refine z_get (v := .int (zI (envy102))) C (lt_K hN (rfl : Nat.blt (2) 952 = true)) hay96 hkvy102 rfl inA_X7 3 (by decide) q_47 rfl rfl dX7_read_54 ?_
            refine z_icmp_gt (tgt := 87) C dX7_read_57 (by decide) (by omega) (by omega) (fun hby105 => ?_) (fun hby105 => ?_)
            · refine z_aload_n C 1 dX7_read_87 rfl ?_
              refine z_get (v := .int (zI (evy102.1))) C (lt_K hN (rfl : Nat.blt (2) 952 = true)) hay96 hkvy102 rfl inA_X7 1 (by decide) q_45 rfl rfl dX7_read_88 ?_
              obtain ⟨k9, hk9⟩ := hf9 ((evy102.1, (evy102.2 : Int)), s9) ⟨1, by simp only [ps_run]; rw [if_neg hso, hvvy102]⟩
              exact z_iret C hr hlk dX7_read_91 (by decide) (by decide) ⟨evy102.1, rfl, rfl, rfl, ⟨L0, k9, _, _, s9, hk9, rfl, by omega, ⟨_, _, _, _, _, _, hkvy102⟩, h1vy102, hxvy102⟩, fun j j1 j2 => by rw [hfvy102 _ (by omega) (by omega)]; exact f4 j j1 j2⟩
            · refine z_aload_n C 1 dX7_read_60 rfl ?_
              refine z_get (v := .int (zI (evy102.1))) C (lt_K hN (rfl : Nat.blt (2) 952 = true)) hay96 hkvy102 rfl inA_X7 1 (by decide) q_45 rfl rfl dX7_read_61 ?_
              refine z_if_ne (tgt := 87) C dX7_read_64 (by decide) (by omega) (fun _ => ?_) (fun h => absurd h (by omega))
              refine z_aload_n C 1 dX7_read_87 rfl ?_
              refine z_get (v := .int (zI (evy102.1))) C (lt_K hN (rfl : Nat.blt (2) 952 = true)) hay96 hkvy102 rfl inA_X7 1 (by decide) q_45 rfl rfl dX7_read_88 ?_
              obtain ⟨k9, hk9⟩ := hf9 ((evy102.1, (evy102.2 : Int)), s9) ⟨1, by simp only [ps_run]; rw [if_neg hso, hvvy102]⟩
              exact z_iret C hr hlk dX7_read_91 (by decide) (by decide) ⟨evy102.1, rfl, rfl, rfl, ⟨L0, k9, _, _, s9, hk9, rfl, by omega, ⟨_, _, _, _, _, _, hkvy102⟩, h1vy102, hxvy102⟩, fun j j1 j2 => by rw [hfvy102 _ (by omega) (by omega)]; exact f4 j j1 j2⟩
  have hgy106 := (hfvy95 (1) (by decide)).trans hgy94
  have hgy107 := (hfvy77 (883) (by omega)).trans hpvy34.1
  have hgy108 := (hfvy95 (883) (by decide)).trans hgy107
  have hgy109 := (hfvy77 (883 + 1) (by omega)).trans hpvy34.2.1
  have hgy110 := (hfvy95 (883 + 1) (by omega)).trans hgy109
  have hgy111 := (hfvy77 (883 + 2) (by omega)).trans hpvy34.2.2.1
  have hgy112 := (hfvy95 (883 + 2) (by omega)).trans hgy111
  have hgy113 := (hfvy77 (883 + 3) (by omega)).trans hpvy34.2.2.2.1
  have hgy114 := (hfvy95 (883 + 3) (by omega)).trans hgy113
  have hgy115 := (hfvy77 (883 + 4) (by omega)).trans hpvy34.2.2.2.2.1
  have hgy116 := (hfvy95 (883 + 4) (by omega)).trans hgy115
  have hgy117 := (hfvy77 (883 + 5) (by omega)).trans hpvy34.2.2.2.2.2.1
  have hgy118 := (hfvy95 (883 + 5) (by omega)).trans hgy117
  have hgy119 := (hfvy77 (883 + 6) (by omega)).trans hpvy34.2.2.2.2.2.2
  have hgy120 := (hfvy95 (883 + 6) (by omega)).trans hgy119
  have hX0 : xSt cs ad gvy95 (0, 0, 0, (fun _ => 0), st, op, ai, fa, mu, tabZ, (fun _ => 0), L0) := ⟨⟨hgy108, hgy110, hgy112, hgy114, hgy116, hgy118, hgy120⟩, (show (0 : Int) ≤ 0 ∧ (0 : Int) ≤ 4 by decide), (show (0 : Int) ≤ 0 ∧ (0 : Int) ≤ 24 by decide), fun k hk => (show (0 : Int) ≤ 0 ∧ (0 : Int) ≤ 12 by decide), fun _ => 0, fun _ _ _ => rfl, rfl, hwvy77.mv (fun _ _ _ => rfl) (fun j a b => by rw [hfvy95 _ (by omega)])⟩
  have haby121 := tk_at_b (T := T) (n := n) (p := 0) (by omega)
  refine z_lv (lv' := [(5, .int (zI (0))), (0, .ref (ad 2)), (3, .ref (ad 883)), (4, .ref (ad 890))]) [0, 1, 4, 5] rfl ?_
  exact lp _ (0) ((tk_at T n 0)) (0, 0, 0, (fun _ => 0), st, op, ai, fa, mu, tabZ, (fun _ => 0), L0) (x7) (0) gvy95 rfl hkvy95 hgy106 hX0 xTd_0 (fun r hr => hr) (fun j j1 j2 => by rw [hfvy95 _ (by omega)]; rw [hfvy77 _ (by omega)]; rw [hfvy34 _ (by omega)]; rw [egy32, va_up_ne _ _ (by omega)]; rw [egy29, va_up_ne _ _ (by omega)]; rw [egy26, va_up_ne _ _ (by omega)]; rw [egy23, va_up_ne _ _ (by omega)]; rw [egy20, va_up_ne _ _ (by omega)]; rw [egy13, va_up_ne _ _ (by omega)]) (by omega)

set_option maxRecDepth 100000 in
set_option maxHeartbeats 4000000 in
theorem c_xSnow (l : Launch) (D : va_G) (A : Nat → Prop) (cs : Nat → ClassId) (tt : Nat) (N : Nat) (ad : Nat → Nat) (g : Nat → va_E) (hN : 952 ≤ N) (t fp im nz kz sl ho ua : Int) (st op ai fa mu tb tp : Nat → Int) (hR : okRec cs ad g N t fp im nz kz sl ho ua st op ai fa mu tb tp) (hTr : ∀ k, k < 900 → -128 ≤ tp k ∧ tp k ≤ 127) (hl0 : l.stackTraces = false) (z : Int) (hz : -2147483648 ≤ z ∧ z ≤ 2147483647) : zMX l yX9_snow cX9_snow 3 (some .int) ({ frames := 12, cells := 6, slots := 60, locals := 720 } : Room) D A cs tt N ad g [.ref (ad 0), .int (zI (z))] (rI0 N ad fun r g' => ((0 ≤ r ∧ r ≤ 5) ∧ 0 ≤ z ∧ z ≤ t) ∧ (∃ (st0 op0 ai0 fa0 mu0 : Nat → Int) (L0 : Nat → Nat → Int) (k9 : Nat) (pl9 : Int) (s9 : Int × Int × Int × (Nat → Int) × (Nat → Int) × (Nat → Int) × (Nat → Int) × (Nat → Int) × (Nat → Int) × (Nat → Int) × (Nat → Int) × (Nat → Nat → Int)), ps_run (unS tp) (z).toNat k9 (0, 0, 0, (fun _ => 0), st0, op0, ai0, fa0, mu0, tabZ, (fun _ => 0), L0) (tk_at (unS tp) (z).toNat 0) = some ((r, pl9), s9) ∧ ((r = 0 ∧ okRec cs ad g' N 0 pl9 0 0 kz (s9.1) (s9.2.1) 0 (s9.2.2.2.2.1) (s9.2.2.2.2.2.1) (s9.2.2.2.2.2.2.1) (s9.2.2.2.2.2.2.2.1) (s9.2.2.2.2.2.2.2.2.1) (s9.2.2.2.2.2.2.2.2.2.1) tp) ∨ (r ≠ 0 ∧ okRec cs ad g' N 0 pl9 im nz kz sl ho ua st op ai fa mu tb tp))) ∧ oX g g') (fun E N' ad' g' => (E = eIA ∧ ¬ (0 ≤ z ∧ z ≤ t)) ∧ N' = N ∧ ad' = ad ∧ g' = g) := by
  obtain ⟨ary1, bry1, cry1, dry1, ery1, fry1, gry11, hry1, ⟨acry1, iry1⟩, ⟨kcry1, jry1⟩, kry1, lry1, mry1, nry1, ory1, pry1⟩ := id hR
  have hay2 : zAt ad (0) (ad 0) := rfl
  have hay3 : zAt ad (1) (ad 1) := rfl
  have hay4 : zAt ad (2) (ad 2) := rfl
  have hay5 : zAt ad (4) (ad 4) := rfl
  have hay6 : zAt ad (11) (ad 11) := rfl
  have hay7 : zAt ad (447) (ad 447) := rfl
  have hay8 : zAt ad (883) (ad 883) := rfl
  have hay9 : zAt ad (890) (ad 890) := rfl
  have hay10 : zAt ad (900) (ad 900) := rfl
  have hay11 : zAt ad (910) (ad 910) := rfl
  have hay12 : zAt ad (917) (ad 917) := rfl
  have hay13 : zAt ad (919) (ad 919) := rfl
  have hay14 : zAt ad (4 + 1) (ad (4 + 1)) := rfl
  have hay15 : zAt ad (4 + 2) (ad (4 + 2)) := rfl
  have hay16 : zAt ad (4 + 3) (ad (4 + 3)) := rfl
  have hay17 : zAt ad (4 + 4) (ad (4 + 4)) := rfl
  have hay18 : zAt ad (4 + 5) (ad (4 + 5)) := rfl
  have hay19 : zAt ad (4 + 6) (ad (4 + 6)) := rfl
  obtain ⟨thcy20, zhcy20, ohcy20, rhcy20, hzhcy20, hthcy20, hwhcy20⟩ := id lry1
  obtain ⟨thcy21, zhcy21, ohcy21, rhcy21, hzhcy21, hthcy21, hwhcy21⟩ := id mry1
  obtain ⟨asy22, bsy22, csy22, dsy22, esy22, ⟨ptsy22, fsy22, gsy221⟩, hsy22, ⟨nusy22, nvsy22, nwsy22, isy22, jsy22, ksy22, lsy22, msy22, nsy22⟩, rfsy22, osy22⟩ := id iry1
  have hay23 : zAt ad (11 + 1) (ad (11 + 1)) := rfl
  have hay24 : zAt ad (11 + 11) (ad (11 + 11)) := rfl
  have hay25 : zAt ad (11 + 12) (ad (11 + 12)) := rfl
  have hay26 : zAt ad (11 + 13) (ad (11 + 13)) := rfl
  have hay27 : zAt ad (11 + 13 + 1) (ad (11 + 13 + 1)) := rfl
  have hay28 : zAt ad (11 + 13 + 2) (ad (11 + 13 + 2)) := rfl
  have hay29 : zAt ad (11 + 13 + 3) (ad (11 + 13 + 3)) := rfl
  have hay30 : zAt ad (11 + 17) (ad (11 + 17)) := rfl
  obtain ⟨uy31t, uy31z, uy31o, uy31r, uy31z4, uy31t5, uy311, ⟨uy31u, uy312, uy313⟩, uy314⟩ := id csy22
  have hay32 : zAt ad (11 + 1) (ad (11 + 1)) := rfl
  have hay33 : zAt ad (11 + 1 + 1) (ad (11 + 1 + 1)) := rfl
  obtain ⟨sloy34, hooy34, uaoy34, stoy34, opoy34, aioy34, faoy34, muoy34, tboy34, hsloy34, hhooy34, hpoy34⟩ := id kry1
  have hay35 : zAt ad (883 + 1) (ad (883 + 1)) := rfl
  have hay36 : zAt ad (883 + 2) (ad (883 + 2)) := rfl
  have hay37 : zAt ad (883 + 3) (ad (883 + 3)) := rfl
  have hay38 : zAt ad (883 + 4) (ad (883 + 4)) := rfl
  have hay39 : zAt ad (883 + 5) (ad (883 + 5)) := rfl
  have hay40 : zAt ad (883 + 6) (ad (883 + 6)) := rfl
  refine z_ofX (by decide) (Nat.le_of_ble_eq_true rfl) ?_
  intro p e s m below meth c C hr hlk hxt
  refine z_lv (lv' := [(0, .ref (ad 0)), (1, .int (zI (z)))]) [0, 1] rfl ?_
  refine z_iload_n C 1 dX9_snow_0 rfl ?_
  refine z_if_lt (tgt := 12) C dX9_snow_1 (by decide) (by omega) (fun hby41 => ?_) (fun hby41 => ?_)
  · exact z_thr (cls := eIA) (text := "the tape has not so many bytes") C hl0 (by decide +kernel) q_658 q_19 (by decide +kernel) at_IA gd_IA dX9_snow_12 dX9_snow_15 dX9_snow_16 dX9_snow_18 dX9_snow_21 hxt (by decide) (Nat.le_of_ble_eq_true rfl) (by decide) (by decide) hlk (by decide) (by decide) ⟨⟨rfl, by omega⟩, rfl, rfl, rfl⟩
  · refine z_iload_n C 1 dX9_snow_4 rfl ?_
    refine z_aload_n C 0 dX9_snow_5 rfl ?_
    refine z_get (v := .int (zI (t))) C (lt_K hN (rfl : Nat.blt (0) 952 = true)) hay2 ary1 rfl inA_X9 1 (by decide) q_350 rfl rfl dX9_snow_6 ?_
    refine z_icmp_le (tgt := 22) C dX9_snow_9 (by decide) (by omega) (by omega) (fun hby42 => ?_) (fun hby42 => ?_)
    · refine z_aload_n C 0 dX9_snow_22 rfl ?_
      refine z_get (v := .ref (ad 2)) C (lt_K hN (rfl : Nat.blt (0) 952 = true)) hay2 ary1 rfl inA_X9 3 (by decide) q_352 rfl rfl dX9_snow_23 ?_
      refine z_aload_n C 0 dX9_snow_26 rfl ?_
      refine z_get (v := .ref (ad 1)) C (lt_K hN (rfl : Nat.blt (0) 952 = true)) hay2 ary1 rfl inA_X9 0 (by decide) q_349 rfl rfl dX9_snow_27 ?_
      refine z_iload_n C 1 dX9_snow_30 rfl ?_
      refine z_aload_n C 0 dX9_snow_31 rfl ?_
      refine z_get (v := .ref (ad 883)) C (lt_K hN (rfl : Nat.blt (0) 952 = true)) hay2 ary1 rfl inA_X9 8 (by decide) q_357 rfl rfl dX9_snow_32 ?_
      refine z_aload_n C 0 dX9_snow_35 rfl ?_
      refine z_get (v := .ref (ad 890)) C (lt_K hN (rfl : Nat.blt (0) 952 = true)) hay2 ary1 rfl inA_X9 9 (by decide) q_358 rfl rfl dX9_snow_36 ?_
      obtain ⟨x0xy44, x1xy44, x3xy44, x4xy44, x5xy44, x6xy44, x7xy44, x8xy44, txxy44, hcxy44⟩ := id ery1
      obtain ⟨sloy45, hooy45, uaoy45, stoy45, opoy45, aioy45, faoy45, muoy45, tboy45, hsloy45, hhooy45, hpoy45⟩ := id kry1
      obtain ⟨n9, hn9⟩ : ∃ n9 : Nat, z = (n9 : Int) := ⟨(z).toNat, by omega⟩
      have hxT := xT_un hTr
      refine z_cV (As := [.ref (ad 1), .int (zI (z)), .ref (ad 883), .ref (ad 890)]) (rest := []) (ci := 9) C (c_xRead l D A cs tt N ad _ (by omega) tp (unS tp) hxT n9 (by omega) ery1 dry1 _ _ _ _ _ _ _ _ _ ⟨hpoy45.1, hpoy45.2.1, hpoy45.2.2.1, hpoy45.2.2.2.1, hpoy45.2.2.2.2.1, hpoy45.2.2.2.2.2.1, hpoy45.2.2.2.2.2.2⟩ (by omega) (by omega) lry1 (z) hn9) (lt_K hN (rfl : Nat.blt (2) 952 = true)) hay4 hcxy44 rfl rfl mv_yX7_read q_724 hd_yX7_read (by decide) (Nat.le_of_ble_eq_true rfl) (by decide) dX9_snow_39 rfl (kI0 fun vy43 gvy43 hvy43 => ?_)
      obtain ⟨⟨L0, k9, co9, pl9, ⟨sl9, ho9, nm9, mn9, st9, op9, ai9, fa9, mu9, tb9, B9, L9⟩, hrun9, hr9, hco9, ⟨en9, ty9, a99, be9, tk9, td9, hc9⟩, h19, hX9⟩, hfvy43⟩ := hvy43
      obtain rfl : co9 = vy43 := hr9.symm
      obtain ⟨hP9, hsl9, hho9, hmn9, wt9, hwt9, hnm9, hW9⟩ := hX9
      have hPl9 : isPlan cs ad gvy43 883 sl9 ho9 0 st9 op9 ai9 fa9 mu9 tb9 := hP9
      have hs9 : 0 ≤ sl9 ∧ sl9 ≤ 4 := hsl9
      have ho99 : 0 ≤ ho9 ∧ ho9 ≤ 24 := hho9
      have hw9 : okWorld cs ad gvy43 890 := ⟨_, _, _, _, hmn9, by rw [hwt9 5 (by decide) (by decide)]; omega, hW9⟩
      have hop9 : okPlan cs ad gvy43 883 := ⟨_, _, _, _, _, _, _, _, _, hs9, ho99, hPl9⟩
      have hrd9 : okRdr ad gvy43 2 := ⟨_, _, _, _, _, _, _, _, _, hc9⟩
      obtain ⟨thcy46, zhcy46, ohcy46, rhcy46, hzhcy46, hthcy46, hwhcy46⟩ := id hw9
      refine z_istore_n (lv' := [(2, .int (zI (co9))), (0, .ref (ad 0)), (1, .int (zI (z)))]) C dX9_snow_42 rfl (by decide) rfl ?_
      refine z_aload_n C 1 dX9_snow_43 rfl ?_
      refine z_iconst (z := 0) C dX9_snow_44 rfl ?_
      have hgy47 := (hfvy43 (0) (by decide) (by omega)).trans ary1
      refine z_put (fs' := [.ref (ad 1), .int (zI (0)), .int (zI (fp)), .ref (ad 2), .ref (ad 4), .ref (ad 11), .ref (ad 447), .int (zI (im)), .ref (ad 883), .ref (ad 890), .ref (ad 900), .ref (ad 910), .ref (ad 917), .ref (ad 919)]) C (lt_K hN (rfl : Nat.blt (0) 952 = true)) hay2 hgy47 tyX9 tyX9_ok nmX9 rfl inA_X9 1 (by decide) q_350 rfl rfl rfl rfl (Nat.le_of_ble_eq_true rfl) rfl dX9_snow_45 (fun gy48 egy49 => ?_)
      have hgy50 := up_s egy49
      refine z_aload_n C 1 dX9_snow_48 rfl ?_
      refine z_aload_n C 1 dX9_snow_49 rfl ?_
      refine z_get (v := .ref (ad 2)) C (lt_K hN (rfl : Nat.blt (0) 952 = true)) hay2 hgy50 rfl inA_X9 3 (by decide) q_352 rfl rfl dX9_snow_50 ?_
      have hgy51 := up_n egy49 hc9 (by decide)
      refine z_get (v := .int (zI (pl9))) C (lt_K hN (rfl : Nat.blt (2) 952 = true)) hay4 hgy51 rfl inA_X7 0 (by decide) q_44 rfl rfl dX9_snow_53 ?_
      refine z_put (fs' := [.ref (ad 1), .int (zI (0)), .int (zI (pl9)), .ref (ad 2), .ref (ad 4), .ref (ad 11), .ref (ad 447), .int (zI (im)), .ref (ad 883), .ref (ad 890), .ref (ad 900), .ref (ad 910), .ref (ad 917), .ref (ad 919)]) C (lt_K hN (rfl : Nat.blt (0) 952 = true)) hay2 hgy50 tyX9 tyX9_ok nmX9 rfl inA_X9 2 (by decide) q_351 rfl rfl rfl rfl (Nat.le_of_ble_eq_true rfl) rfl dX9_snow_56 (fun gy52 egy53 => ?_)
      have hgy54 := up_s egy53
      refine z_iload_n C 0 dX9_snow_59 rfl ?_
      refine z_if_eq (tgt := 78) C dX9_snow_60 (by decide) (by omega) (fun hby55 => ?_) (fun hby55 => ?_)
      · refine z_aload_n C 1 dX9_snow_78 rfl ?_
        refine z_get (v := .ref (ad 4)) C (lt_K hN (rfl : Nat.blt (0) 952 = true)) hay2 hgy54 rfl inA_X9 4 (by decide) q_353 rfl rfl dX9_snow_79 ?_
        refine z_aload_n C 1 dX9_snow_82 rfl ?_
        refine z_get (v := .ref (ad 883)) C (lt_K hN (rfl : Nat.blt (0) 952 = true)) hay2 hgy54 rfl inA_X9 8 (by decide) q_357 rfl rfl dX9_snow_83 ?_
        have hpy57 := isPlan.mv (ad' := ad) (g' := gy52) (fun j h1 h2 => by rfl) (fun j h1 h2 => by rw [egy53, va_up_ne _ _ (by omega)]; rw [egy49, va_up_ne _ _ (by omega)]) hPl9
        have hgy58 := (hfvy43 (4) (by decide) (by omega)).trans fry1.1
        have hgy59 := up_n egy49 hgy58 (by decide)
        have hgy60 := up_n egy53 hgy59 (by decide)
        have hgy61 := (hfvy43 (4 + 1) (by omega) (by omega)).trans fry1.2.1
        have hgy62 := up_n egy49 hgy61 (by omega)
        have hgy63 := up_n egy53 hgy62 (by omega)
        have hgy64 := (hfvy43 (4 + 2) (by omega) (by omega)).trans fry1.2.2.1
        have hgy65 := up_n egy49 hgy64 (by omega)
        have hgy66 := up_n egy53 hgy65 (by omega)
        have hgy67 := (hfvy43 (4 + 3) (by omega) (by omega)).trans fry1.2.2.2.1
        have hgy68 := up_n egy49 hgy67 (by omega)
        have hgy69 := up_n egy53 hgy68 (by omega)
        have hgy70 := (hfvy43 (4 + 4) (by omega) (by omega)).trans fry1.2.2.2.2.1
        have hgy71 := up_n egy49 hgy70 (by omega)
        have hgy72 := up_n egy53 hgy71 (by omega)
        have hgy73 := (hfvy43 (4 + 5) (by omega) (by omega)).trans fry1.2.2.2.2.2.1
        have hgy74 := up_n egy49 hgy73 (by omega)
        have hgy75 := up_n egy53 hgy74 (by omega)
        have hgy76 := (hfvy43 (4 + 6) (by omega) (by omega)).trans fry1.2.2.2.2.2.2
        have hgy77 := up_n egy49 hgy76 (by omega)
        have hgy78 := up_n egy53 hgy77 (by omega)
        refine z_cV (As := [.ref (ad 883)]) (rest := []) (ci := 7) C (c_X5_copyFrom l D A cs tt N ad _ 4 (by omega) _ _ _ _ _ _ _ _ _ ⟨hgy60, hgy63, hgy66, hgy69, hgy72, hgy75, hgy78⟩ 883 (by omega) _ _ _ _ _ _ _ _ _ hpy57 (by omega)) (lt_K hN (rfl : Nat.blt (4) 952 = true)) hay5 hgy60 rfl rfl mv_yX5_copyFrom q_862 hd_yX5_copyFrom (by decide) (Nat.le_of_ble_eq_true rfl) (by decide) dX9_snow_86 rfl (kV0 fun gvy56 hvy56 => ?_)
        obtain ⟨hpvy56, hfvy56⟩ := hvy56
        refine z_aload_n C 1 dX9_snow_89 rfl ?_
        have hgy79 := (hfvy56 (0) (by omega)).trans hgy54
        refine z_get (v := .ref (ad 11)) C (lt_K hN (rfl : Nat.blt (0) 952 = true)) hay2 hgy79 rfl inA_X9 5 (by decide) q_354 rfl rfl dX9_snow_90 ?_
        refine z_aload_n C 1 dX9_snow_93 rfl ?_
        refine z_get (v := .ref (ad 890)) C (lt_K hN (rfl : Nat.blt (0) 952 = true)) hay2 hgy79 rfl inA_X9 9 (by decide) q_358 rfl rfl dX9_snow_94 ?_
        have hpy80 := okState.mv (ad' := ad) (g' := gvy56) (fun j h1 h2 => by rfl) (fun j h1 h2 => by rw [hfvy56 _ (by omega)]; rw [egy53, va_up_ne _ _ (by omega)]; rw [egy49, va_up_ne _ _ (by omega)]; rw [hfvy43 _ (by omega) (by omega)]) iry1
        have hoky81 : okWorld cs ad gvy56 (890) := okWorld.mv (fun j j1 j2 => by rw [hfvy56 _ (by omega)]; rw [egy53, va_up_ne _ _ (by omega)]; rw [egy49, va_up_ne _ _ (by omega)]) hw9
        have hgy83 := (hfvy43 (11) (by decide) (by omega)).trans iry1.1
        have hgy84 := up_n egy49 hgy83 (by decide)
        have hgy85 := up_n egy53 hgy84 (by decide)
        have hgy86 := (hfvy56 (11) (by omega)).trans hgy85
        refine z_cV (As := [.ref (ad 890)]) (rest := []) (ci := 8) C (c_X6_beginWith l D A cs tt N ad _ 11 (by omega) _ _ hpy80 890 (by omega) hoky81 (by omega)) (lt_K hN (rfl : Nat.blt (11) 952 = true)) hay6 hgy86 rfl rfl mv_yX6_beginWith q_866 hd_yX6_beginWith (by decide) (Nat.le_of_ble_eq_true rfl) (by decide) dX9_snow_97 rfl (kV0 fun gvy82 hvy82 => ?_)
        obtain ⟨hkvy82, hfvy82⟩ := hvy82
        have hacqy87 := hkvy82.2.1
        obtain ⟨asy88, bsy88, csy88, dsy88, esy88, ⟨ptsy88, fsy88, gsy881⟩, hsy88, ⟨nusy88, nvsy88, nwsy88, isy88, jsy88, ksy88, lsy88, msy88, nsy88⟩, rfsy88, osy88⟩ := id hkvy82
        obtain ⟨uy89t, uy89z, uy89o, uy89r, uy89z4, uy89t5, uy891, ⟨uy89u, uy892, uy893⟩, uy894⟩ := id csy88
        have hay90 : zAt ad (11 + 1) (ad (11 + 1)) := rfl
        have hay91 : zAt ad (11 + 1 + 1) (ad (11 + 1 + 1)) := rfl
        refine z_aload_n C 1 dX9_snow_100 rfl ?_
        refine z_iconst (z := 0) C dX9_snow_101 rfl ?_
        have hgy92 := (hfvy82 (0) (by omega)).trans hgy79
        refine z_put (fs' := [.ref (ad 1), .int (zI (0)), .int (zI (pl9)), .ref (ad 2), .ref (ad 4), .ref (ad 11), .ref (ad 447), .int (zI (0)), .ref (ad 883), .ref (ad 890), .ref (ad 900), .ref (ad 910), .ref (ad 917), .ref (ad 919)]) C (lt_K hN (rfl : Nat.blt (0) 952 = true)) hay2 hgy92 tyX9 tyX9_ok nmX9 rfl inA_X9 7 (by decide) q_356 rfl rfl (by decide) rfl (Nat.le_of_ble_eq_true rfl) rfl dX9_snow_102 (fun gy93 egy94 => ?_)
        have hgy95 := up_s egy94
        refine z_iconst (z := 0) C dX9_snow_105 rfl ?_
        have hgy96 := up_n egy49 h19 (by decide)
        have hgy97 := up_n egy53 hgy96 (by decide)
        have hgy98 := (hfvy56 (1) (by omega)).trans hgy97
        have hgy99 := (hfvy82 (1) (by omega)).trans hgy98
        have hgy100 := up_n egy94 hgy99 (by decide)
        have hpy101 := okState.mv (ad' := ad) (g' := gy93) (fun j h1 h2 => by rfl) (fun j h1 h2 => by rw [egy94, va_up_ne _ _ (by omega)]) hkvy82
        have hpy102 := okRdr.mv (ad' := ad) (g' := gy93) (fun j h1 h2 => by rfl) (fun j h1 h2 => by rw [egy94, va_up_ne _ _ (by omega)]; rw [hfvy82 _ (by omega)]; rw [hfvy56 _ (by omega)]; rw [egy53, va_up_ne _ _ (by omega)]; rw [egy49, va_up_ne _ _ (by omega)]) hrd9
        have hpy103 := isPlan.mv (ad' := ad) (g' := gy93) (fun j h1 h2 => by rfl) (fun j h1 h2 => by rw [egy94, va_up_ne _ _ (by omega)]; rw [hfvy82 _ (by omega)]) hpvy56
        have hpy104 := okState.mv (ad' := ad) (g' := gy93) (fun j h1 h2 => by rfl) (fun j h1 h2 => by rw [egy94, va_up_ne _ _ (by omega)]; rw [hfvy82 _ (by omega)]; rw [hfvy56 _ (by omega)]; rw [egy53, va_up_ne _ _ (by omega)]; rw [egy49, va_up_ne _ _ (by omega)]; rw [hfvy43 _ (by omega) (by omega)]) jry1
        have hpy105 := okPlan.mv (ad' := ad) (g' := gy93) (fun j h1 h2 => by rfl) (fun j h1 h2 => by rw [egy94, va_up_ne _ _ (by omega)]; rw [hfvy82 _ (by omega)]; rw [hfvy56 _ (by omega)]; rw [egy53, va_up_ne _ _ (by omega)]; rw [egy49, va_up_ne _ _ (by omega)]) hop9
        have hpy106 := okGss.mv (ad' := ad) (g' := gy93) (fun j h1 h2 => by rfl) (fun j h1 h2 => by rw [egy94, va_up_ne _ _ (by omega)]; rw [hfvy82 _ (by omega)]; rw [hfvy56 _ (by omega)]; rw [egy53, va_up_ne _ _ (by omega)]; rw [egy49, va_up_ne _ _ (by omega)]; rw [hfvy43 _ (by omega) (by omega)]) nry1
        have hpy107 := okLike.mv (ad' := ad) (g' := gy93) (fun j h1 h2 => by rfl) (fun j h1 h2 => by rw [egy94, va_up_ne _ _ (by omega)]; rw [hfvy82 _ (by omega)]; rw [hfvy56 _ (by omega)]; rw [egy53, va_up_ne _ _ (by omega)]; rw [egy49, va_up_ne _ _ (by omega)]; rw [hfvy43 _ (by omega) (by omega)]) ory1
        have hpy108 := okBld.mv (ad' := ad) (g' := gy93) (fun j h1 h2 => by rfl) (fun j h1 h2 => by rw [egy94, va_up_ne _ _ (by omega)]; rw [hfvy82 _ (by omega)]; rw [hfvy56 _ (by omega)]; rw [egy53, va_up_ne _ _ (by omega)]; rw [egy49, va_up_ne _ _ (by omega)]; rw [hfvy43 _ (by omega) (by omega)]) pry1
        have hoky109 : okWorld cs ad gy93 (890) := okWorld.mv (fun j j1 j2 => by rw [egy94, va_up_ne _ _ (by omega)]; rw [hfvy82 _ (by omega)]) hoky81
        have hoky110 : okWorld cs ad gy93 (900) := okWorld.mv (fun j j1 j2 => by rw [egy94, va_up_ne _ _ (by omega)]; rw [hfvy82 _ (by omega)]; rw [hfvy56 _ (by omega)]; rw [egy53, va_up_ne _ _ (by omega)]; rw [egy49, va_up_ne _ _ (by omega)]; rw [hfvy43 _ (by omega) (by omega)]) mry1
        have hrecy111 : okRec cs ad gy93 N (0) (pl9) (0) (0) (kz) (sl9) (ho9) (0) (st9) (op9) (ai9) (fa9) (mu9) (tb9) (tp) := ⟨hgy95, by omega, by omega, hgy100, hpy102, hpy103, by omega, by omega, ⟨_, hpy101⟩, ⟨_, hpy104⟩, hpy105, hoky109, hoky110, hpy106, hpy107, hpy108⟩
        have hz9 : (z).toNat = n9 := by omega
        obtain rfl : co9 = 0 := by omega
        have hrun : ps_run (unS tp) (z).toNat k9 (0, 0, 0, (fun _ => 0), stoy45, opoy45, aioy45, faoy45, muoy45, tabZ, (fun _ => 0), L0) (tk_at (unS tp) (z).toNat 0) = some ((0, pl9), (sl9, ho9, nm9, mn9, st9, op9, ai9, fa9, mu9, tb9, B9, L9)) := by rw [hz9]; exact hrun9
        exact z_rX (z_iret C hr hlk dX9_snow_106 (by decide) (by decide) ⟨0, rfl, rfl, rfl, by omega, ⟨_, _, _, _, _, L0, k9, pl9, (sl9, ho9, nm9, mn9, st9, op9, ai9, fa9, mu9, tb9, B9, L9), hrun, Or.inl ⟨rfl, hrecy111⟩⟩, fun j j1 j2 => by rw [egy94, va_up_ne _ _ (by omega)]; rw [hfvy82 _ (by omega)]; rw [hfvy56 _ (by omega)]; rw [egy53, va_up_ne _ _ (by omega)]; rw [egy49, va_up_ne _ _ (by omega)]; rw [hfvy43 _ (by omega) (by omega)]⟩)
      · refine z_aload_n C 1 dX9_snow_63 rfl ?_
        refine z_get (v := .ref (ad 11)) C (lt_K hN (rfl : Nat.blt (0) 952 = true)) hay2 hgy54 rfl inA_X9 5 (by decide) q_354 rfl rfl dX9_snow_64 ?_
        have hgy112 := (hfvy43 (11) (by decide) (by omega)).trans iry1.1
        have hgy113 := up_n egy49 hgy112 (by decide)
        have hgy114 := up_n egy53 hgy113 (by decide)
        refine z_get (v := .ref (ad (11 + 17))) C (lt_K hN (rfl : Nat.blt (11) 952 = true)) hay6 hgy114 rfl inA_X6 5 (by decide) q_267 rfl rfl dX9_snow_67 ?_
        refine z_iconst (z := 0) C dX9_snow_70 rfl ?_
        refine z_dup2 C dX9_snow_71 rfl rfl ?_
        have hgy115 := (hfvy43 (11 + 17) (by omega) (by omega)).trans osy22
        have hgy116 := up_n egy49 hgy115 (by omega)
        have hgy117 := up_n egy53 hgy116 (by omega)
        refine z_iald C (lt_K hN (rfl : Nat.blt (11 + 17) 952 = true)) hay30 hgy117 (0) (by omega) (by omega) (by decide) dX9_snow_72 ?_
        refine z_iconst (z := 1) C dX9_snow_73 rfl ?_
        refine z_iadd C dX9_snow_74 ?_
        refine z_iast C (lt_K hN (rfl : Nat.blt (11 + 17) 952 = true)) hay30 hgy117 (0) (by omega) (by omega) (by decide) dX9_snow_75 (fun gy118 egy119 => ?_)
        have hgy120 := up_s egy119
        refine z_iload_n C 0 dX9_snow_76 rfl ?_
        have hsty121 := okState.refused2 (g' := gy118) iry1 (fun j a1 a2 j1 => by rw [egy119, va_up_ne _ _ (by omega)]; rw [egy53, va_up_ne _ _ (by omega)]; rw [egy49, va_up_ne _ _ (by omega)]; rw [hfvy43 _ (by omega) (by omega)]) hgy120
        have hgy122 := up_n egy119 hgy54 (by omega)
        have hgy123 := up_n egy49 h19 (by decide)
        have hgy124 := up_n egy53 hgy123 (by decide)
        have hgy125 := up_n egy119 hgy124 (by omega)
        have hpy126 := okRdr.mv (ad' := ad) (g' := gy118) (fun j h1 h2 => by rfl) (fun j h1 h2 => by rw [egy119, va_up_ne _ _ (by omega)]; rw [egy53, va_up_ne _ _ (by omega)]; rw [egy49, va_up_ne _ _ (by omega)]) hrd9
        have hpy127 := isPlan.mv (ad' := ad) (g' := gy118) (fun j h1 h2 => by rfl) (fun j h1 h2 => by rw [egy119, va_up_ne _ _ (by omega)]; rw [egy53, va_up_ne _ _ (by omega)]; rw [egy49, va_up_ne _ _ (by omega)]; rw [hfvy43 _ (by omega) (by omega)]) fry1
        have hpy128 := okState.mv (ad' := ad) (g' := gy118) (fun j h1 h2 => by rfl) (fun j h1 h2 => by rw [egy119, va_up_ne _ _ (by omega)]; rw [egy53, va_up_ne _ _ (by omega)]; rw [egy49, va_up_ne _ _ (by omega)]; rw [hfvy43 _ (by omega) (by omega)]) jry1
        have hpy129 := okPlan.mv (ad' := ad) (g' := gy118) (fun j h1 h2 => by rfl) (fun j h1 h2 => by rw [egy119, va_up_ne _ _ (by omega)]; rw [egy53, va_up_ne _ _ (by omega)]; rw [egy49, va_up_ne _ _ (by omega)]) hop9
        have hpy130 := okGss.mv (ad' := ad) (g' := gy118) (fun j h1 h2 => by rfl) (fun j h1 h2 => by rw [egy119, va_up_ne _ _ (by omega)]; rw [egy53, va_up_ne _ _ (by omega)]; rw [egy49, va_up_ne _ _ (by omega)]; rw [hfvy43 _ (by omega) (by omega)]) nry1
        have hpy131 := okLike.mv (ad' := ad) (g' := gy118) (fun j h1 h2 => by rfl) (fun j h1 h2 => by rw [egy119, va_up_ne _ _ (by omega)]; rw [egy53, va_up_ne _ _ (by omega)]; rw [egy49, va_up_ne _ _ (by omega)]; rw [hfvy43 _ (by omega) (by omega)]) ory1
        have hpy132 := okBld.mv (ad' := ad) (g' := gy118) (fun j h1 h2 => by rfl) (fun j h1 h2 => by rw [egy119, va_up_ne _ _ (by omega)]; rw [egy53, va_up_ne _ _ (by omega)]; rw [egy49, va_up_ne _ _ (by omega)]; rw [hfvy43 _ (by omega) (by omega)]) pry1
        have hoky133 : okWorld cs ad gy118 (890) := okWorld.mv (fun j j1 j2 => by rw [egy119, va_up_ne _ _ (by omega)]; rw [egy53, va_up_ne _ _ (by omega)]; rw [egy49, va_up_ne _ _ (by omega)]) hw9
        have hoky134 : okWorld cs ad gy118 (900) := okWorld.mv (fun j j1 j2 => by rw [egy119, va_up_ne _ _ (by omega)]; rw [egy53, va_up_ne _ _ (by omega)]; rw [egy49, va_up_ne _ _ (by omega)]; rw [hfvy43 _ (by omega) (by omega)]) mry1
        have hrecy135 : okRec cs ad gy118 N (0) (pl9) (im) (nz) (kz) (sl) (ho) (ua) (st) (op) (ai) (fa) (mu) (tb) (tp) := ⟨hgy122, by omega, cry1, hgy125, hpy126, hpy127, gry11, hry1, ⟨_, hsty121⟩, ⟨_, hpy128⟩, hpy129, hoky133, hoky134, hpy130, hpy131, hpy132⟩
        have hz9 : (z).toNat = n9 := by omega
        have hrun : ps_run (unS tp) (z).toNat k9 (0, 0, 0, (fun _ => 0), stoy45, opoy45, aioy45, faoy45, muoy45, tabZ, (fun _ => 0), L0) (tk_at (unS tp) (z).toNat 0) = some ((co9, pl9), (sl9, ho9, nm9, mn9, st9, op9, ai9, fa9, mu9, tb9, B9, L9)) := by rw [hz9]; exact hrun9
        exact z_rX (z_iret C hr hlk dX9_snow_77 (by decide) (by decide) ⟨co9, rfl, rfl, rfl, by omega, ⟨_, _, _, _, _, L0, k9, pl9, (sl9, ho9, nm9, mn9, st9, op9, ai9, fa9, mu9, tb9, B9, L9), hrun, Or.inr ⟨by omega, hrecy135⟩⟩, fun j j1 j2 => by rw [egy119, va_up_ne _ _ (by omega)]; rw [egy53, va_up_ne _ _ (by omega)]; rw [egy49, va_up_ne _ _ (by omega)]; rw [hfvy43 _ (by omega) (by omega)]⟩)
    · exact z_thr (cls := eIA) (text := "the tape has not so many bytes") C hl0 (by decide +kernel) q_658 q_19 (by decide +kernel) at_IA gd_IA dX9_snow_12 dX9_snow_15 dX9_snow_16 dX9_snow_18 dX9_snow_21 hxt (by decide) (Nat.le_of_ble_eq_true rfl) (by decide) (by decide) hlk (by decide) (by decide) ⟨⟨rfl, by omega⟩, rfl, rfl, rfl⟩

