section
-- 70nm.xsnow.lean.txt
theorem xTd_0 : xTd 0 (fun _ => 0) := fun k hk => ⟨Or.inl rfl, (show ∀ k : Fin 15, zI 0 >>> (zI (k.val : Int) &&& 31) &&& zI 1 = zI 0 by decide) ⟨k, hk⟩⟩
/-- the tape's bytes, 0 to 255 -/
def unS (tp : Nat → Int) : Nat → Int := fun k => if tp k < 0 then tp k + 256 else tp k
theorem xT_un {tp : Nat → Int} (h : ∀ k, k < 900 → -128 ≤ tp k ∧ tp k ≤ 127) : xT tp (unS tp) := fun k hk => by
  have h1 := h k hk
  unfold unS
  by_cases e : tp k < 0
  · rw [if_pos e]; omega
  · rw [if_neg e]; omega

set_option maxRecDepth 100000 in
set_option maxHeartbeats 4000000 in
theorem c_xPkClear (l : Launch) (D : va_G) (A : Nat → Prop) (cs : Nat → ClassId) (tt : Nat) (N : Nat) (ad : Nat → Nat) (g : Nat → va_E) (a : Nat) (hN : a + 2 ≤ N) (sz ro : Int) (r : Nat → Int) (hz : 0 ≤ sz ∧ sz ≤ 12) (ha : isPack cs ad g a sz ro r) : zM l yX3_clear cX3_clear 1 none ({ frames := 1, cells := 0, slots := 0, locals := 60 } : Room) D A cs tt N ad g [.ref (ad a)] (rV0 N ad fun g' => isPack cs ad g' a 0 0 r ∧ ∀ j, j ≠ a → j ≠ a + 1 → g' j = g j) := by
  have hay1 : zAt ad (a) (ad a) := rfl
  have hay2 : zAt ad (a + 1) (ad (a + 1)) := rfl
  refine z_of (by decide) (Nat.le_of_ble_eq_true rfl) ?_
  intro p e s m below meth c C hr hlk hnm
  refine z_lv (lv' := [(0, .ref (ad a))]) [0] rfl ?_
  refine z_aload_n C 0 dX3_clear_0 rfl ?_
  refine z_iconst (z := 0) C dX3_clear_1 rfl ?_
  refine z_put (fs' := [.int (zI (0)), .int (zI (ro)), .ref (ad (a + 1))]) C (lt_A0 hN rfl) hay1 ha.1 tyX3 tyX3_ok nmX3 rfl inA_X3 0 (by decide) q_154 rfl rfl rfl rfl (Nat.le_of_ble_eq_true rfl) rfl dX3_clear_2 (fun gy3 egy4 => ?_)
  have hgy5 := up_s egy4
  refine z_aload_n C 0 dX3_clear_5 rfl ?_
  refine z_iconst (z := 0) C dX3_clear_6 rfl ?_
  refine z_put (fs' := [.int (zI (0)), .int (zI (0)), .ref (ad (a + 1))]) C (lt_A0 hN rfl) hay1 hgy5 tyX3 tyX3_ok nmX3 rfl inA_X3 1 (by decide) q_159 rfl rfl rfl rfl (Nat.le_of_ble_eq_true rfl) rfl dX3_clear_7 (fun gy6 egy7 => ?_)
  have hgy8 := up_s egy7
  have hgy9 := up_n egy4 ha.2 (ne_o (i := a) (c := 1) (d := 0) rfl)
  have hgy10 := up_n egy7 hgy9 (ne_o (i := a) (c := 1) (d := 0) rfl)
  exact z_vret C hr hlk dX3_clear_10 (by decide) (by decide) ⟨rfl, rfl, rfl, ⟨hgy8, hgy10⟩, fun j j1 j2 => by rw [egy7, va_up_ne _ _ (by omega)]; rw [egy4, va_up_ne _ _ (by omega)]⟩

set_option maxRecDepth 100000 in
set_option maxHeartbeats 4000000 in
theorem c_xWClear (l : Launch) (D : va_G) (A : Nat → Prop) (cs : Nat → ClassId) (tt : Nat) (N : Nat) (ad : Nat → Nat) (g : Nat → va_E) (a : Nat) (hN : a + 10 ≤ N) (hw : okWorld cs ad g a) : zM l yX8_clear cX8_clear 2 none ({ frames := 2, cells := 0, slots := 0, locals := 120 } : Room) D A cs tt N ad g [.ref (ad a)] (rV0 N ad fun g' => (∃ Lz : Nat → Nat → Int, isWorld cs ad g' a (fun _ => 0) (fun _ => 0) (fun _ => 0) Lz) ∧ ∀ j, j < a ∨ a + 10 ≤ j → g' j = g j) := by
  obtain ⟨ut, uz, uo, ur, uz4, ut5, u1, ⟨uu, u2, u3⟩, u4⟩ := id hw
  have hay1 : zAt ad (a) (ad a) := rfl
  have hay2 : zAt ad (a + 1) (ad (a + 1)) := rfl
  refine z_of (by decide) (Nat.le_of_ble_eq_true rfl) ?_
  intro p e s m below meth c C hr hlk hnm
  refine z_lv (lv' := [(0, .ref (ad a))]) [0] rfl ?_
  refine z_aload_n C 0 dX8_clear_0 rfl ?_
  refine z_iconst (z := 0) C dX8_clear_1 rfl ?_
  refine z_put (fs' := [.int (zI (0)), .int (zI (ut 1)), .int (zI (ut 2)), .int (zI (ut 3)), .int (zI (ut 4)), .int (zI (ut 5)), .ref (ad (a + 1))]) C (lt_A0 hN rfl) hay1 u1 tyX8 tyX8_ok nmX8 rfl inA_X8 0 (by decide) q_173 rfl rfl rfl rfl (Nat.le_of_ble_eq_true rfl) rfl dX8_clear_2 (fun gy3 egy4 => ?_)
  have hgy5 := up_s egy4
  refine z_aload_n C 0 dX8_clear_5 rfl ?_
  refine z_iconst (z := 0) C dX8_clear_6 rfl ?_
  refine z_put (fs' := [.int (zI (0)), .int (zI (0)), .int (zI (ut 2)), .int (zI (ut 3)), .int (zI (ut 4)), .int (zI (ut 5)), .ref (ad (a + 1))]) C (lt_A0 hN rfl) hay1 hgy5 tyX8 tyX8_ok nmX8 rfl inA_X8 1 (by decide) q_176 rfl rfl rfl rfl (Nat.le_of_ble_eq_true rfl) rfl dX8_clear_7 (fun gy6 egy7 => ?_)
  have hgy8 := up_s egy7
  refine z_aload_n C 0 dX8_clear_10 rfl ?_
  refine z_iconst (z := 0) C dX8_clear_11 rfl ?_
  refine z_put (fs' := [.int (zI (0)), .int (zI (0)), .int (zI (0)), .int (zI (ut 3)), .int (zI (ut 4)), .int (zI (ut 5)), .ref (ad (a + 1))]) C (lt_A0 hN rfl) hay1 hgy8 tyX8 tyX8_ok nmX8 rfl inA_X8 2 (by decide) q_179 rfl rfl rfl rfl (Nat.le_of_ble_eq_true rfl) rfl dX8_clear_12 (fun gy9 egy10 => ?_)
  have hgy11 := up_s egy10
  refine z_aload_n C 0 dX8_clear_15 rfl ?_
  refine z_iconst (z := 0) C dX8_clear_16 rfl ?_
  refine z_put (fs' := [.int (zI (0)), .int (zI (0)), .int (zI (0)), .int (zI (0)), .int (zI (ut 4)), .int (zI (ut 5)), .ref (ad (a + 1))]) C (lt_A0 hN rfl) hay1 hgy11 tyX8 tyX8_ok nmX8 rfl inA_X8 3 (by decide) q_181 rfl rfl rfl rfl (Nat.le_of_ble_eq_true rfl) rfl dX8_clear_17 (fun gy12 egy13 => ?_)
  have hgy14 := up_s egy13
  refine z_aload_n C 0 dX8_clear_20 rfl ?_
  refine z_iconst (z := 0) C dX8_clear_21 rfl ?_
  refine z_put (fs' := [.int (zI (0)), .int (zI (0)), .int (zI (0)), .int (zI (0)), .int (zI (0)), .int (zI (ut 5)), .ref (ad (a + 1))]) C (lt_A0 hN rfl) hay1 hgy14 tyX8 tyX8_ok nmX8 rfl inA_X8 4 (by decide) q_183 rfl rfl rfl rfl (Nat.le_of_ble_eq_true rfl) rfl dX8_clear_22 (fun gy15 egy16 => ?_)
  have hgy17 := up_s egy16
  refine z_aload_n C 0 dX8_clear_25 rfl ?_
  refine z_iconst (z := 0) C dX8_clear_26 rfl ?_
  refine z_put (fs' := [.int (zI (0)), .int (zI (0)), .int (zI (0)), .int (zI (0)), .int (zI (0)), .int (zI (0)), .ref (ad (a + 1))]) C (lt_A0 hN rfl) hay1 hgy17 tyX8 tyX8_ok nmX8 rfl inA_X8 5 (by decide) q_185 rfl rfl rfl rfl (Nat.le_of_ble_eq_true rfl) rfl dX8_clear_27 (fun gy18 egy19 => ?_)
  have hgy20 := up_s egy19
  refine z_iconst (z := 0) C dX8_clear_30 rfl ?_
  refine z_istore_n (lv' := [(1, .int (zI (0))), (0, .ref (ad a))]) C dX8_clear_31 rfl (by decide) rfl ?_
  refine z_iload_n C 0 dX8_clear_32 rfl ?_
  refine z_aload_n C 1 dX8_clear_33 rfl ?_
  refine z_get (v := .ref (ad (a + 1))) C (lt_A0 hN rfl) hay1 hgy20 rfl inA_X8 6 (by decide) q_188 rfl rfl dX8_clear_34 ?_
  have hgy21 := up_n egy4 u2 (ne_o (i := a) (c := 1) (d := 0) rfl)
  have hgy22 := up_n egy7 hgy21 (ne_o (i := a) (c := 1) (d := 0) rfl)
  have hgy23 := up_n egy10 hgy22 (ne_o (i := a) (c := 1) (d := 0) rfl)
  have hgy24 := up_n egy13 hgy23 (ne_o (i := a) (c := 1) (d := 0) rfl)
  have hgy25 := up_n egy16 hgy24 (ne_o (i := a) (c := 1) (d := 0) rfl)
  have hgy26 := up_n egy19 hgy25 (ne_o (i := a) (c := 1) (d := 0) rfl)
  refine z_alen (z := 4) C (lt_A (c := 1) hN rfl) hay2 hgy26 3 rfl rfl dX8_clear_37 ?_
  refine z_icmp_ge (tgt := 56) C dX8_clear_38 (by decide) (by omega) (by omega) (fun h => absurd h (by omega)) (fun _ => ?_)
  refine z_aload_n C 1 dX8_clear_41 rfl ?_
  refine z_get (v := .ref (ad (a + 1))) C (lt_A0 hN rfl) hay1 hgy20 rfl inA_X8 6 (by decide) q_188 rfl rfl dX8_clear_42 ?_
  refine z_iload_n C 0 dX8_clear_45 rfl ?_
  refine z_aald C (lt_A (c := 1) hN rfl) hay2 hgy26 3 rfl (0) (by omega) (by omega) (by decide) (u3 0 (by omega)) dX8_clear_46 ?_
  have hay27 : zAt ad (a + 2 + 2 * 0) (ad (a + 2 + 2 * 0)) := rfl
  have hay28 : zAt ad (a + 2 + 2 * 0 + 1) (ad (a + 2 + 2 * 0 + 1)) := rfl
  have hpy29 := u4 0 (by omega)
  have hqy30 := uz4 0 (by omega)
  have hgy31 := up_n egy4 hpy29.1 (by omega)
  have hgy32 := up_n egy7 hgy31 (by omega)
  have hgy33 := up_n egy10 hgy32 (by omega)
  have hgy34 := up_n egy13 hgy33 (by omega)
  have hgy35 := up_n egy16 hgy34 (by omega)
  have hgy36 := up_n egy19 hgy35 (by omega)
  have hgy37 := up_n egy4 hpy29.2 (by omega)
  have hgy38 := up_n egy7 hgy37 (by omega)
  have hgy39 := up_n egy10 hgy38 (by omega)
  have hgy40 := up_n egy13 hgy39 (by omega)
  have hgy41 := up_n egy16 hgy40 (by omega)
  have hgy42 := up_n egy19 hgy41 (by omega)
  refine z_cV (As := []) (rest := []) (ci := 5) C (c_xPkClear l D A cs tt N ad _ (a + 2 + 2 * 0) (by omega) _ _ _ (by omega) ⟨hgy36, hgy42⟩) (by omega) hay27 hgy36 rfl rfl mv_yX3_clear q_738 hd_yX3_clear (by decide) (Nat.le_of_ble_eq_true rfl) (by decide) dX8_clear_47 rfl (kV0 fun gvy43 hvy43 => ?_)
  obtain ⟨hpvy43, hfvy43⟩ := hvy43
  refine z_iinc (z := 1) (lv' := [(1, .int (zI (1))), (0, .ref (ad a))]) (j := 0) C dX8_clear_50 rfl (congrArg zI (by omega)) (by decide) rfl ?_
  refine z_goto (tgt := 32) C dX8_clear_53 (by decide) ?_
  refine z_iload_n C 0 dX8_clear_32 rfl ?_
  refine z_aload_n C 1 dX8_clear_33 rfl ?_
  have hgy44 := (hfvy43 (a) (by omega) (by omega)).trans hgy20
  refine z_get (v := .ref (ad (a + 1))) C (lt_A0 hN rfl) hay1 hgy44 rfl inA_X8 6 (by decide) q_188 rfl rfl dX8_clear_34 ?_
  have hgy45 := (hfvy43 (a + 1) (by omega) (by omega)).trans hgy26
  refine z_alen (z := 4) C (lt_A (c := 1) hN rfl) hay2 hgy45 3 rfl rfl dX8_clear_37 ?_
  refine z_icmp_ge (tgt := 56) C dX8_clear_38 (by decide) (by omega) (by omega) (fun h => absurd h (by omega)) (fun _ => ?_)
  refine z_aload_n C 1 dX8_clear_41 rfl ?_
  refine z_get (v := .ref (ad (a + 1))) C (lt_A0 hN rfl) hay1 hgy44 rfl inA_X8 6 (by decide) q_188 rfl rfl dX8_clear_42 ?_
  refine z_iload_n C 0 dX8_clear_45 rfl ?_
  refine z_aald C (lt_A (c := 1) hN rfl) hay2 hgy45 3 rfl (1) (by omega) (by omega) (by decide) (u3 1 (by omega)) dX8_clear_46 ?_
  have hay46 : zAt ad (a + 2 + 2 * 1) (ad (a + 2 + 2 * 1)) := rfl
  have hay47 : zAt ad (a + 2 + 2 * 1 + 1) (ad (a + 2 + 2 * 1 + 1)) := rfl
  have hpy48 := u4 1 (by omega)
  have hqy49 := uz4 1 (by omega)
  have hgy50 := up_n egy4 hpy48.1 (by omega)
  have hgy51 := up_n egy7 hgy50 (by omega)
  have hgy52 := up_n egy10 hgy51 (by omega)
  have hgy53 := up_n egy13 hgy52 (by omega)
  have hgy54 := up_n egy16 hgy53 (by omega)
  have hgy55 := up_n egy19 hgy54 (by omega)
  have hgy56 := (hfvy43 (a + 2 + 2 * 1) (by omega) (by omega)).trans hgy55
  have hgy57 := up_n egy4 hpy48.2 (by omega)
  have hgy58 := up_n egy7 hgy57 (by omega)
  have hgy59 := up_n egy10 hgy58 (by omega)
  have hgy60 := up_n egy13 hgy59 (by omega)
  have hgy61 := up_n egy16 hgy60 (by omega)
  have hgy62 := up_n egy19 hgy61 (by omega)
  have hgy63 := (hfvy43 (a + 2 + 2 * 1 + 1) (by omega) (by omega)).trans hgy62
  refine z_cV (As := []) (rest := []) (ci := 5) C (c_xPkClear l D A cs tt N ad _ (a + 2 + 2 * 1) (by omega) _ _ _ (by omega) ⟨hgy56, hgy63⟩) (by omega) hay46 hgy56 rfl rfl mv_yX3_clear q_738 hd_yX3_clear (by decide) (Nat.le_of_ble_eq_true rfl) (by decide) dX8_clear_47 rfl (kV0 fun gvy64 hvy64 => ?_)
  obtain ⟨hpvy64, hfvy64⟩ := hvy64
  refine z_iinc (z := 2) (lv' := [(1, .int (zI (2))), (0, .ref (ad a))]) (j := 0) C dX8_clear_50 rfl (congrArg zI (by omega)) (by decide) rfl ?_
  refine z_goto (tgt := 32) C dX8_clear_53 (by decide) ?_
  refine z_iload_n C 0 dX8_clear_32 rfl ?_
  refine z_aload_n C 1 dX8_clear_33 rfl ?_
  have hgy65 := (hfvy64 (a) (by omega) (by omega)).trans hgy44
  refine z_get (v := .ref (ad (a + 1))) C (lt_A0 hN rfl) hay1 hgy65 rfl inA_X8 6 (by decide) q_188 rfl rfl dX8_clear_34 ?_
  have hgy66 := (hfvy64 (a + 1) (by omega) (by omega)).trans hgy45
  refine z_alen (z := 4) C (lt_A (c := 1) hN rfl) hay2 hgy66 3 rfl rfl dX8_clear_37 ?_
  refine z_icmp_ge (tgt := 56) C dX8_clear_38 (by decide) (by omega) (by omega) (fun h => absurd h (by omega)) (fun _ => ?_)
  refine z_aload_n C 1 dX8_clear_41 rfl ?_
  refine z_get (v := .ref (ad (a + 1))) C (lt_A0 hN rfl) hay1 hgy65 rfl inA_X8 6 (by decide) q_188 rfl rfl dX8_clear_42 ?_
  refine z_iload_n C 0 dX8_clear_45 rfl ?_
  refine z_aald C (lt_A (c := 1) hN rfl) hay2 hgy66 3 rfl (2) (by omega) (by omega) (by decide) (u3 2 (by omega)) dX8_clear_46 ?_
  have hay67 : zAt ad (a + 2 + 2 * 2) (ad (a + 2 + 2 * 2)) := rfl
  have hay68 : zAt ad (a + 2 + 2 * 2 + 1) (ad (a + 2 + 2 * 2 + 1)) := rfl
  have hpy69 := u4 2 (by omega)
  have hqy70 := uz4 2 (by omega)
  have hgy71 := up_n egy4 hpy69.1 (by omega)
  have hgy72 := up_n egy7 hgy71 (by omega)
  have hgy73 := up_n egy10 hgy72 (by omega)
  have hgy74 := up_n egy13 hgy73 (by omega)
  have hgy75 := up_n egy16 hgy74 (by omega)
  have hgy76 := up_n egy19 hgy75 (by omega)
  have hgy77 := (hfvy43 (a + 2 + 2 * 2) (by omega) (by omega)).trans hgy76
  have hgy78 := (hfvy64 (a + 2 + 2 * 2) (by omega) (by omega)).trans hgy77
  have hgy79 := up_n egy4 hpy69.2 (by omega)
  have hgy80 := up_n egy7 hgy79 (by omega)
  have hgy81 := up_n egy10 hgy80 (by omega)
  have hgy82 := up_n egy13 hgy81 (by omega)
  have hgy83 := up_n egy16 hgy82 (by omega)
  have hgy84 := up_n egy19 hgy83 (by omega)
  have hgy85 := (hfvy43 (a + 2 + 2 * 2 + 1) (by omega) (by omega)).trans hgy84
  have hgy86 := (hfvy64 (a + 2 + 2 * 2 + 1) (by omega) (by omega)).trans hgy85
  refine z_cV (As := []) (rest := []) (ci := 5) C (c_xPkClear l D A cs tt N ad _ (a + 2 + 2 * 2) (by omega) _ _ _ (by omega) ⟨hgy78, hgy86⟩) (by omega) hay67 hgy78 rfl rfl mv_yX3_clear q_738 hd_yX3_clear (by decide) (Nat.le_of_ble_eq_true rfl) (by decide) dX8_clear_47 rfl (kV0 fun gvy87 hvy87 => ?_)
  obtain ⟨hpvy87, hfvy87⟩ := hvy87
  refine z_iinc (z := 3) (lv' := [(1, .int (zI (3))), (0, .ref (ad a))]) (j := 0) C dX8_clear_50 rfl (congrArg zI (by omega)) (by decide) rfl ?_
  refine z_goto (tgt := 32) C dX8_clear_53 (by decide) ?_
  refine z_iload_n C 0 dX8_clear_32 rfl ?_
  refine z_aload_n C 1 dX8_clear_33 rfl ?_
  have hgy88 := (hfvy87 (a) (by omega) (by omega)).trans hgy65
  refine z_get (v := .ref (ad (a + 1))) C (lt_A0 hN rfl) hay1 hgy88 rfl inA_X8 6 (by decide) q_188 rfl rfl dX8_clear_34 ?_
  have hgy89 := (hfvy87 (a + 1) (by omega) (by omega)).trans hgy66
  refine z_alen (z := 4) C (lt_A (c := 1) hN rfl) hay2 hgy89 3 rfl rfl dX8_clear_37 ?_
  refine z_icmp_ge (tgt := 56) C dX8_clear_38 (by decide) (by omega) (by omega) (fun h => absurd h (by omega)) (fun _ => ?_)
  refine z_aload_n C 1 dX8_clear_41 rfl ?_
  refine z_get (v := .ref (ad (a + 1))) C (lt_A0 hN rfl) hay1 hgy88 rfl inA_X8 6 (by decide) q_188 rfl rfl dX8_clear_42 ?_
  refine z_iload_n C 0 dX8_clear_45 rfl ?_
  refine z_aald C (lt_A (c := 1) hN rfl) hay2 hgy89 3 rfl (3) (by omega) (by omega) (by decide) (u3 3 (by omega)) dX8_clear_46 ?_
  have hay90 : zAt ad (a + 2 + 2 * 3) (ad (a + 2 + 2 * 3)) := rfl
  have hay91 : zAt ad (a + 2 + 2 * 3 + 1) (ad (a + 2 + 2 * 3 + 1)) := rfl
  have hpy92 := u4 3 (by omega)
  have hqy93 := uz4 3 (by omega)
  have hgy94 := up_n egy4 hpy92.1 (by omega)
  have hgy95 := up_n egy7 hgy94 (by omega)
  have hgy96 := up_n egy10 hgy95 (by omega)
  have hgy97 := up_n egy13 hgy96 (by omega)
  have hgy98 := up_n egy16 hgy97 (by omega)
  have hgy99 := up_n egy19 hgy98 (by omega)
  have hgy100 := (hfvy43 (a + 2 + 2 * 3) (by omega) (by omega)).trans hgy99
  have hgy101 := (hfvy64 (a + 2 + 2 * 3) (by omega) (by omega)).trans hgy100
  have hgy102 := (hfvy87 (a + 2 + 2 * 3) (by omega) (by omega)).trans hgy101
  have hgy103 := up_n egy4 hpy92.2 (by omega)
  have hgy104 := up_n egy7 hgy103 (by omega)
  have hgy105 := up_n egy10 hgy104 (by omega)
  have hgy106 := up_n egy13 hgy105 (by omega)
  have hgy107 := up_n egy16 hgy106 (by omega)
  have hgy108 := up_n egy19 hgy107 (by omega)
  have hgy109 := (hfvy43 (a + 2 + 2 * 3 + 1) (by omega) (by omega)).trans hgy108
  have hgy110 := (hfvy64 (a + 2 + 2 * 3 + 1) (by omega) (by omega)).trans hgy109
  have hgy111 := (hfvy87 (a + 2 + 2 * 3 + 1) (by omega) (by omega)).trans hgy110
  refine z_cV (As := []) (rest := []) (ci := 5) C (c_xPkClear l D A cs tt N ad _ (a + 2 + 2 * 3) (by omega) _ _ _ (by omega) ⟨hgy102, hgy111⟩) (by omega) hay90 hgy102 rfl rfl mv_yX3_clear q_738 hd_yX3_clear (by decide) (Nat.le_of_ble_eq_true rfl) (by decide) dX8_clear_47 rfl (kV0 fun gvy112 hvy112 => ?_)
  obtain ⟨hpvy112, hfvy112⟩ := hvy112
  refine z_iinc (z := 4) (lv' := [(1, .int (zI (4))), (0, .ref (ad a))]) (j := 0) C dX8_clear_50 rfl (congrArg zI (by omega)) (by decide) rfl ?_
  refine z_goto (tgt := 32) C dX8_clear_53 (by decide) ?_
  refine z_iload_n C 0 dX8_clear_32 rfl ?_
  refine z_aload_n C 1 dX8_clear_33 rfl ?_
  have hgy113 := (hfvy112 (a) (by omega) (by omega)).trans hgy88
  refine z_get (v := .ref (ad (a + 1))) C (lt_A0 hN rfl) hay1 hgy113 rfl inA_X8 6 (by decide) q_188 rfl rfl dX8_clear_34 ?_
  have hgy114 := (hfvy112 (a + 1) (by omega) (by omega)).trans hgy89
  refine z_alen (z := 4) C (lt_A (c := 1) hN rfl) hay2 hgy114 3 rfl rfl dX8_clear_37 ?_
  refine z_icmp_ge (tgt := 56) C dX8_clear_38 (by decide) (by omega) (by omega) (fun _ => ?_) (fun h => absurd h (by omega))
  have hgy115 := (hfvy64 (a + 2 + 2 * 0) (by omega) (by omega)).trans hpvy43.1
  have hgy116 := (hfvy87 (a + 2 + 2 * 0) (by omega) (by omega)).trans hgy115
  have hgy117 := (hfvy112 (a + 2 + 2 * 0) (by omega) (by omega)).trans hgy116
  have hgy118 := (hfvy64 (a + 2 + 2 * 0 + 1) (by omega) (by omega)).trans hpvy43.2
  have hgy119 := (hfvy87 (a + 2 + 2 * 0 + 1) (by omega) (by omega)).trans hgy118
  have hgy120 := (hfvy112 (a + 2 + 2 * 0 + 1) (by omega) (by omega)).trans hgy119
  have hgy121 := (hfvy87 (a + 2 + 2 * 1) (by omega) (by omega)).trans hpvy64.1
  have hgy122 := (hfvy112 (a + 2 + 2 * 1) (by omega) (by omega)).trans hgy121
  have hgy123 := (hfvy87 (a + 2 + 2 * 1 + 1) (by omega) (by omega)).trans hpvy64.2
  have hgy124 := (hfvy112 (a + 2 + 2 * 1 + 1) (by omega) (by omega)).trans hgy123
  have hgy125 := (hfvy112 (a + 2 + 2 * 2) (by omega) (by omega)).trans hpvy87.1
  have hgy126 := (hfvy112 (a + 2 + 2 * 2 + 1) (by omega) (by omega)).trans hpvy87.2
  have hp4 : ∀ k, k < 4 → isPack cs ad gvy112 (a + 2 + 2 * k) ((fun _ => 0) k) ((fun _ => 0) k) (ur k) := by
    intro k hk
    rcases (show k = 0 ∨ k = 1 ∨ k = 2 ∨ k = 3 by omega) with rfl | rfl | rfl | rfl
    · exact ⟨hgy117, hgy120⟩
    · exact ⟨hgy122, hgy124⟩
    · exact ⟨hgy125, hgy126⟩
    · exact ⟨hpvy112.1, hpvy112.2⟩
  exact z_vret C hr hlk dX8_clear_56 (by decide) (by decide) ⟨rfl, rfl, rfl, ⟨ur, hgy113, ⟨uu, hgy114, u3⟩, hp4⟩, fun j j1 => by rw [hfvy112 _ (by omega) (by omega)]; rw [hfvy87 _ (by omega) (by omega)]; rw [hfvy64 _ (by omega) (by omega)]; rw [hfvy43 _ (by omega) (by omega)]; rw [egy19, va_up_ne _ _ (by omega)]; rw [egy16, va_up_ne _ _ (by omega)]; rw [egy13, va_up_ne _ _ (by omega)]; rw [egy10, va_up_ne _ _ (by omega)]; rw [egy7, va_up_ne _ _ (by omega)]; rw [egy4, va_up_ne _ _ (by omega)]⟩

set_option maxRecDepth 100000 in
set_option maxHeartbeats 4000000 in
theorem c_xPClear (l : Launch) (D : va_G) (A : Nat → Prop) (cs : Nat → ClassId) (tt : Nat) (N : Nat) (ad : Nat → Nat) (g : Nat → va_E) (b : Nat) (hNb : b + 7 ≤ N) (sl ho ua : Int) (st op ai fa mu tb : Nat → Int) (hb : isPlan cs ad g b sl ho ua st op ai fa mu tb) : zM l yX5_clear cX5_clear 1 none ({ frames := 1, cells := 0, slots := 0, locals := 60 } : Room) D A cs tt N ad g [.ref (ad b)] (rV0 N ad fun g' => isPlan cs ad g' b 0 0 0 st op ai fa mu tabZ ∧ ∀ j, j < b ∨ b + 7 ≤ j → g' j = g j) := by
  have hay1 : zAt ad (b) (ad b) := rfl
  have hay2 : zAt ad (b + 1) (ad (b + 1)) := rfl
  have hay3 : zAt ad (b + 2) (ad (b + 2)) := rfl
  have hay4 : zAt ad (b + 3) (ad (b + 3)) := rfl
  have hay5 : zAt ad (b + 4) (ad (b + 4)) := rfl
  have hay6 : zAt ad (b + 5) (ad (b + 5)) := rfl
  have hay7 : zAt ad (b + 6) (ad (b + 6)) := rfl
  refine z_of (by decide) (Nat.le_of_ble_eq_true rfl) ?_
  intro p e s m below meth c C hr hlk hnm
  refine z_lv (lv' := [(0, .ref (ad b))]) [0] rfl ?_
  refine z_aload_n C 0 dX5_clear_0 rfl ?_
  refine z_iconst (z := 0) C dX5_clear_1 rfl ?_
  refine z_put (fs' := [.int (zI (0)), .int (zI (ho)), .int (zI (ua)), .ref (ad (b + 1)), .ref (ad (b + 2)), .ref (ad (b + 3)), .ref (ad (b + 4)), .ref (ad (b + 5)), .ref (ad (b + 6))]) C (by omega) hay1 hb.1 tyX5 tyX5_ok nmX5 rfl inA_X5 0 (by decide) q_88 rfl rfl rfl rfl (Nat.le_of_ble_eq_true rfl) rfl dX5_clear_2 (fun gy8 egy9 => ?_)
  have hgy10 := up_s egy9
  refine z_aload_n C 0 dX5_clear_5 rfl ?_
  refine z_iconst (z := 0) C dX5_clear_6 rfl ?_
  refine z_put (fs' := [.int (zI (0)), .int (zI (0)), .int (zI (ua)), .ref (ad (b + 1)), .ref (ad (b + 2)), .ref (ad (b + 3)), .ref (ad (b + 4)), .ref (ad (b + 5)), .ref (ad (b + 6))]) C (by omega) hay1 hgy10 tyX5 tyX5_ok nmX5 rfl inA_X5 1 (by decide) q_92 rfl rfl rfl rfl (Nat.le_of_ble_eq_true rfl) rfl dX5_clear_7 (fun gy11 egy12 => ?_)
  have hgy13 := up_s egy12
  refine z_aload_n C 0 dX5_clear_10 rfl ?_
  refine z_iconst (z := 0) C dX5_clear_11 rfl ?_
  refine z_put (fs' := [.int (zI (0)), .int (zI (0)), .int (zI (0)), .ref (ad (b + 1)), .ref (ad (b + 2)), .ref (ad (b + 3)), .ref (ad (b + 4)), .ref (ad (b + 5)), .ref (ad (b + 6))]) C (by omega) hay1 hgy13 tyX5 tyX5_ok nmX5 rfl inA_X5 2 (by decide) q_95 rfl rfl rfl rfl (Nat.le_of_ble_eq_true rfl) rfl dX5_clear_12 (fun gy14 egy15 => ?_)
  have hgy16 := up_s egy15
  refine z_getT C n_79 dX5_clear_15 ?_
  refine z_iconst (z := 0) C dX5_clear_18 rfl ?_
  refine z_aload_n C 0 dX5_clear_19 rfl ?_
  refine z_get (v := .ref (ad (b + 6))) C (by omega) hay1 hgy16 rfl inA_X5 8 (by decide) q_113 rfl rfl dX5_clear_20 ?_
  refine z_iconst (z := 0) C dX5_clear_23 rfl ?_
  refine z_aload_n C 0 dX5_clear_24 rfl ?_
  refine z_get (v := .ref (ad (b + 6))) C (by omega) hay1 hgy16 rfl inA_X5 8 (by decide) q_113 rfl rfl dX5_clear_25 ?_
  have hgy17 := up_n egy9 hb.2.2.2.2.2.2 (ne_o (i := b) (c := 6) (d := 0) rfl)
  have hgy18 := up_n egy12 hgy17 (ne_o (i := b) (c := 6) (d := 0) rfl)
  have hgy19 := up_n egy15 hgy18 (ne_o (i := b) (c := 6) (d := 0) rfl)
  refine z_alen (z := 15) C (by omega) hay7 hgy19 1 rfl rfl dX5_clear_28 ?_
  refine z_copyT C q_733 q_430 q_429 q_21 (by omega) hay7 hgy19 (by decide) (Nat.le_of_ble_eq_true rfl) dX5_clear_29 (fun gy20 egy21 => ?_)
  have hgy22 := up_s egy21
  refine z_ext (r' := tabZ) (by omega) hgy22 (fun j hj => cZ_all hj) (fun gy23 egy24 => ?_)
  have hgy25 := up_s egy24
  have hgy26 := up_n egy21 hgy16 (ne_o (i := b) (c := 0) (d := 6) rfl)
  have hgy27 := up_n egy24 hgy26 (ne_o (i := b) (c := 0) (d := 6) rfl)
  have hgy28 := up_n egy9 hb.2.1 (ne_o (i := b) (c := 1) (d := 0) rfl)
  have hgy29 := up_n egy12 hgy28 (ne_o (i := b) (c := 1) (d := 0) rfl)
  have hgy30 := up_n egy15 hgy29 (ne_o (i := b) (c := 1) (d := 0) rfl)
  have hgy31 := up_n egy21 hgy30 (ne_o (i := b) (c := 1) (d := 6) rfl)
  have hgy32 := up_n egy24 hgy31 (ne_o (i := b) (c := 1) (d := 6) rfl)
  have hgy33 := up_n egy9 hb.2.2.1 (ne_o (i := b) (c := 2) (d := 0) rfl)
  have hgy34 := up_n egy12 hgy33 (ne_o (i := b) (c := 2) (d := 0) rfl)
  have hgy35 := up_n egy15 hgy34 (ne_o (i := b) (c := 2) (d := 0) rfl)
  have hgy36 := up_n egy21 hgy35 (ne_o (i := b) (c := 2) (d := 6) rfl)
  have hgy37 := up_n egy24 hgy36 (ne_o (i := b) (c := 2) (d := 6) rfl)
  have hgy38 := up_n egy9 hb.2.2.2.1 (ne_o (i := b) (c := 3) (d := 0) rfl)
  have hgy39 := up_n egy12 hgy38 (ne_o (i := b) (c := 3) (d := 0) rfl)
  have hgy40 := up_n egy15 hgy39 (ne_o (i := b) (c := 3) (d := 0) rfl)
  have hgy41 := up_n egy21 hgy40 (ne_o (i := b) (c := 3) (d := 6) rfl)
  have hgy42 := up_n egy24 hgy41 (ne_o (i := b) (c := 3) (d := 6) rfl)
  have hgy43 := up_n egy9 hb.2.2.2.2.1 (ne_o (i := b) (c := 4) (d := 0) rfl)
  have hgy44 := up_n egy12 hgy43 (ne_o (i := b) (c := 4) (d := 0) rfl)
  have hgy45 := up_n egy15 hgy44 (ne_o (i := b) (c := 4) (d := 0) rfl)
  have hgy46 := up_n egy21 hgy45 (ne_o (i := b) (c := 4) (d := 6) rfl)
  have hgy47 := up_n egy24 hgy46 (ne_o (i := b) (c := 4) (d := 6) rfl)
  have hgy48 := up_n egy9 hb.2.2.2.2.2.1 (ne_o (i := b) (c := 5) (d := 0) rfl)
  have hgy49 := up_n egy12 hgy48 (ne_o (i := b) (c := 5) (d := 0) rfl)
  have hgy50 := up_n egy15 hgy49 (ne_o (i := b) (c := 5) (d := 0) rfl)
  have hgy51 := up_n egy21 hgy50 (ne_o (i := b) (c := 5) (d := 6) rfl)
  have hgy52 := up_n egy24 hgy51 (ne_o (i := b) (c := 5) (d := 6) rfl)
  exact z_vret C hr hlk dX5_clear_32 (by decide) (by decide) ⟨rfl, rfl, rfl, ⟨hgy27, hgy32, hgy37, hgy42, hgy47, hgy52, hgy25⟩, fun j j1 => by rw [egy24, va_up_ne _ _ (by omega)]; rw [egy21, va_up_ne _ _ (by omega)]; rw [egy15, va_up_ne _ _ (by omega)]; rw [egy12, va_up_ne _ _ (by omega)]; rw [egy9, va_up_ne _ _ (by omega)]⟩

set_option maxRecDepth 100000 in
set_option maxHeartbeats 4000000 in
theorem c_xRead (l : Launch) (D : va_G) (A : Nat → Prop) (cs : Nat → ClassId) (tt : Nat) (N : Nat) (ad : Nat → Nat) (g : Nat → va_E) (hN : 952 ≤ N) (tp T : Nat → Int) (hT : xT tp T) (n : Nat) (hn : n ≤ 900) (hr2 : okRdr ad g 2) (hg1 : g 1 = bA cs 900 tp) (sl ho ua : Int) (st op ai fa mu tb : Nat → Int) (hP : isPlan cs ad g 883 sl ho ua st op ai fa mu tb) (hsl : 0 ≤ sl ∧ sl ≤ 4) (hho : 0 ≤ ho ∧ ho ≤ 24) (hw8 : okWorld cs ad g 890) (z : Int) (hzn : z = (n : Int)) : zM l yX7_read cX7_read 6 (some .int) ({ frames := 10, cells := 0, slots := 0, locals := 600 } : Room) D A cs tt N ad g [.ref (ad 2), .ref (ad 1), .int (zI (z)), .ref (ad 883), .ref (ad 890)] (rI0 N ad fun r g' => (∃ (L0 : Nat → Nat → Int) (k : Nat) (co pl : Int) (s9 : Int × Int × Int × (Nat → Int) × (Nat → Int) × (Nat → Int) × (Nat → Int) × (Nat → Int) × (Nat → Int) × (Nat → Int) × (Nat → Int) × (Nat → Nat → Int)), ps_run T n k (0, 0, 0, (fun _ => 0), st, op, ai, fa, mu, tabZ, (fun _ => 0), L0) (tk_at T n 0) = some ((co, pl), s9) ∧ r = co ∧ (0 ≤ co ∧ co ≤ 5) ∧ (∃ en ty a9 be tk td : Int, g' 2 = rdC ad pl co en ty a9 be tk td) ∧ g' 1 = bA cs 900 tp ∧ xSt cs ad g' s9) ∧ ∀ j, j ≠ 2 → (j < 883 ∨ 900 ≤ j) → g' j = g j) := by
  subst hzn
  obtain ⟨x0, x1, x3, x4, x5, x6, x7, x8, tx, hg2⟩ := id hr2
  have hay1 : zAt ad (2) (ad 2) := rfl
  have hay2 : zAt ad (1) (ad 1) := rfl
  have hay3 : zAt ad (883) (ad 883) := rfl
  have hay4 : zAt ad (883 + 1) (ad (883 + 1)) := rfl
  have hay5 : zAt ad (883 + 2) (ad (883 + 2)) := rfl
  have hay6 : zAt ad (883 + 3) (ad (883 + 3)) := rfl
  have hay7 : zAt ad (883 + 4) (ad (883 + 4)) := rfl
  have hay8 : zAt ad (883 + 5) (ad (883 + 5)) := rfl
  have hay9 : zAt ad (883 + 6) (ad (883 + 6)) := rfl
  have hay10 : zAt ad (890) (ad 890) := rfl
  obtain ⟨thcy11, zhcy11, ohcy11, rhcy11, hzhcy11, hthcy11, hwhcy11⟩ := id hw8
  have hTr : ∀ k, k < 900 → -128 ≤ tp k ∧ tp k ≤ 127 := fun k hk => (hT k hk).2.1
  refine z_of (by decide) (Nat.le_of_ble_eq_true rfl) ?_
  intro p e s m below meth c C hr hlk hnm
  refine z_lv (lv' := [(0, .ref (ad 2)), (1, .ref (ad 1)), (2, .int (zI ((n : Int)))), (3, .ref (ad 883)), (4, .ref (ad 890))]) [0, 1, 2, 3, 4] rfl ?_
  refine z_aload_n C 0 dX7_read_0 rfl ?_
  refine z_aload_n C 1 dX7_read_1 rfl ?_
  refine z_put (fs' := [.int (zI (x0)), .int (zI (x1)), .ref (ad 1), .int (zI (x3)), .int (zI (x4)), .int (zI (x5)), .int (zI (x6)), .int (zI (x7)), .int (zI (x8))]) C (lt_K hN (rfl : Nat.blt (2) 952 = true)) hay1 hg2 tyX7 tyX7_ok nmX7 rfl inA_X7 2 (by decide) q_46 rfl rfl rfl rfl (Nat.le_of_ble_eq_true rfl) rfl dX7_read_2 (fun gy12 egy13 => ?_)
  have hgy14 := up_s egy13
  refine z_aload_n C 0 dX7_read_5 rfl ?_
  refine z_iload_n C 2 dX7_read_6 rfl ?_
  refine z_aload_n C 1 dX7_read_7 rfl ?_
  have hgy15 := up_n egy13 hg1 (by decide)
  refine z_alen (z := 900) C (lt_K hN (rfl : Nat.blt (1) 952 = true)) hay2 hgy15 0 rfl rfl dX7_read_8 ?_
  refine z_mmin C q_728 q_473 q_20 q_474 (by omega) (by omega) (by decide) (Nat.le_of_ble_eq_true rfl) (by decide) (by decide) dX7_read_9 ?_
  obtain ⟨xy16, exy17, hxy18⟩ := mm_min ((n : Int)) (900)
  rw [exy17]
  obtain rfl : xy16 = (n : Int) := by omega
  refine z_put (fs' := [.int (zI (x0)), .int (zI (x1)), .ref (ad 1), .int (zI ((n : Int))), .int (zI (x4)), .int (zI (x5)), .int (zI (x6)), .int (zI (x7)), .int (zI (x8))]) C (lt_K hN (rfl : Nat.blt (2) 952 = true)) hay1 hgy14 tyX7 tyX7_ok nmX7 rfl inA_X7 3 (by decide) q_47 rfl rfl rfl rfl (Nat.le_of_ble_eq_true rfl) rfl dX7_read_12 (fun gy19 egy20 => ?_)
  have hgy21 := up_s egy20
  refine z_aload_n C 0 dX7_read_15 rfl ?_
  refine z_iconst (z := 0) C dX7_read_16 rfl ?_
  refine z_put (fs' := [.int (zI (x0)), .int (zI (x1)), .ref (ad 1), .int (zI ((n : Int))), .int (zI (x4)), .int (zI (x5)), .int (zI (0)), .int (zI (x7)), .int (zI (x8))]) C (lt_K hN (rfl : Nat.blt (2) 952 = true)) hay1 hgy21 tyX7 tyX7_ok nmX7 rfl inA_X7 6 (by decide) q_50 rfl rfl rfl rfl (Nat.le_of_ble_eq_true rfl) rfl dX7_read_17 (fun gy22 egy23 => ?_)
  have hgy24 := up_s egy23
  refine z_aload_n C 0 dX7_read_20 rfl ?_
  refine z_iconst (z := 0) C dX7_read_21 rfl ?_
  refine z_put (fs' := [.int (zI (x0)), .int (zI (0)), .ref (ad 1), .int (zI ((n : Int))), .int (zI (x4)), .int (zI (x5)), .int (zI (0)), .int (zI (x7)), .int (zI (x8))]) C (lt_K hN (rfl : Nat.blt (2) 952 = true)) hay1 hgy24 tyX7 tyX7_ok nmX7 rfl inA_X7 1 (by decide) q_45 rfl rfl rfl rfl (Nat.le_of_ble_eq_true rfl) rfl dX7_read_22 (fun gy25 egy26 => ?_)
  have hgy27 := up_s egy26
  refine z_aload_n C 0 dX7_read_25 rfl ?_
  refine z_iconst (z := -1) C dX7_read_26 rfl ?_
  refine z_put (fs' := [.int (zI (-1)), .int (zI (0)), .ref (ad 1), .int (zI ((n : Int))), .int (zI (x4)), .int (zI (x5)), .int (zI (0)), .int (zI (x7)), .int (zI (x8))]) C (lt_K hN (rfl : Nat.blt (2) 952 = true)) hay1 hgy27 tyX7 tyX7_ok nmX7 rfl inA_X7 0 (by decide) q_43 rfl rfl rfl rfl (Nat.le_of_ble_eq_true rfl) rfl dX7_read_27 (fun gy28 egy29 => ?_)
  have hgy30 := up_s egy29
  refine z_aload_n C 0 dX7_read_30 rfl ?_
  refine z_iconst (z := 0) C dX7_read_31 rfl ?_
  refine z_put (fs' := [.int (zI (-1)), .int (zI (0)), .ref (ad 1), .int (zI ((n : Int))), .int (zI (x4)), .int (zI (x5)), .int (zI (0)), .int (zI (x7)), .int (zI (0))]) C (lt_K hN (rfl : Nat.blt (2) 952 = true)) hay1 hgy30 tyX7 tyX7_ok nmX7 rfl inA_X7 8 (by decide) q_52 rfl rfl rfl rfl (Nat.le_of_ble_eq_true rfl) rfl dX7_read_32 (fun gy31 egy32 => ?_)
  have hgy33 := up_s egy32
  refine z_aload_n C 3 dX7_read_35 rfl ?_
  have hgy35 := up_n egy13 hP.1 (by decide)
  have hgy36 := up_n egy20 hgy35 (by decide)
  have hgy37 := up_n egy23 hgy36 (by decide)
  have hgy38 := up_n egy26 hgy37 (by decide)
  have hgy39 := up_n egy29 hgy38 (by decide)
  have hgy40 := up_n egy32 hgy39 (by decide)
  have hgy41 := up_n egy13 hP.2.1 (by omega)
  have hgy42 := up_n egy20 hgy41 (by omega)
  have hgy43 := up_n egy23 hgy42 (by omega)
  have hgy44 := up_n egy26 hgy43 (by omega)
  have hgy45 := up_n egy29 hgy44 (by omega)
  have hgy46 := up_n egy32 hgy45 (by omega)
  have hgy47 := up_n egy13 hP.2.2.1 (by omega)
  have hgy48 := up_n egy20 hgy47 (by omega)
  have hgy49 := up_n egy23 hgy48 (by omega)
  have hgy50 := up_n egy26 hgy49 (by omega)
  have hgy51 := up_n egy29 hgy50 (by omega)
  have hgy52 := up_n egy32 hgy51 (by omega)
  have hgy53 := up_n egy13 hP.2.2.2.1 (by omega)
  have hgy54 := up_n egy20 hgy53 (by omega)
  have hgy55 := up_n egy23 hgy54 (by omega)
  have hgy56 := up_n egy26 hgy55 (by omega)
  have hgy57 := up_n egy29 hgy56 (by omega)
  have hgy58 := up_n egy32 hgy57 (by omega)
  have hgy59 := up_n egy13 hP.2.2.2.2.1 (by omega)
  have hgy60 := up_n egy20 hgy59 (by omega)
  have hgy61 := up_n egy23 hgy60 (by omega)
  have hgy62 := up_n egy26 hgy61 (by omega)
  have hgy63 := up_n egy29 hgy62 (by omega)
  have hgy64 := up_n egy32 hgy63 (by omega)
  have hgy65 := up_n egy13 hP.2.2.2.2.2.1 (by omega)
  have hgy66 := up_n egy20 hgy65 (by omega)
  have hgy67 := up_n egy23 hgy66 (by omega)
  have hgy68 := up_n egy26 hgy67 (by omega)
  have hgy69 := up_n egy29 hgy68 (by omega)
  have hgy70 := up_n egy32 hgy69 (by omega)
  have hgy71 := up_n egy13 hP.2.2.2.2.2.2 (by omega)
  have hgy72 := up_n egy20 hgy71 (by omega)
  have hgy73 := up_n egy23 hgy72 (by omega)
  have hgy74 := up_n egy26 hgy73 (by omega)
  have hgy75 := up_n egy29 hgy74 (by omega)
  have hgy76 := up_n egy32 hgy75 (by omega)
  refine z_cV (As := []) (rest := []) (ci := 7) C (c_xPClear l D A cs tt N ad _ 883 (by omega) _ _ _ _ _ _ _ _ _ ⟨hgy40, hgy46, hgy52, hgy58, hgy64, hgy70, hgy76⟩) (lt_K hN (rfl : Nat.blt (883) 952 = true)) hay3 hgy40 rfl rfl mv_yX5_clear q_729 hd_yX5_clear (by decide) (Nat.le_of_ble_eq_true rfl) (by decide) dX7_read_36 rfl (kV0 fun gvy34 hvy34 => ?_)
  obtain ⟨hpvy34, hfvy34⟩ := hvy34
  refine z_aload C 4 dX7_read_39 rfl ?_
  have hoky78 : okWorld cs ad gvy34 (890) := okWorld.mv (fun j j1 j2 => by rw [hfvy34 _ (by omega)]; rw [egy32, va_up_ne _ _ (by omega)]; rw [egy29, va_up_ne _ _ (by omega)]; rw [egy26, va_up_ne _ _ (by omega)]; rw [egy23, va_up_ne _ _ (by omega)]; rw [egy20, va_up_ne _ _ (by omega)]; rw [egy13, va_up_ne _ _ (by omega)]) hw8
  have hgy79 := up_n egy13 hwhcy11.1 (by decide)
  have hgy80 := up_n egy20 hgy79 (by decide)
  have hgy81 := up_n egy23 hgy80 (by decide)
  have hgy82 := up_n egy26 hgy81 (by decide)
  have hgy83 := up_n egy29 hgy82 (by decide)
  have hgy84 := up_n egy32 hgy83 (by decide)
  have hgy85 := (hfvy34 (890) (by omega)).trans hgy84
  refine z_cV (As := []) (rest := []) (ci := 10) C (c_xWClear l D A cs tt N ad _ 890 (by omega) hoky78) (lt_K hN (rfl : Nat.blt (890) 952 = true)) hay10 hgy85 rfl rfl mv_yX8_clear q_734 hd_yX8_clear (by decide) (Nat.le_of_ble_eq_true rfl) (by decide) dX7_read_41 rfl (kV0 fun gvy77 hvy77 => ?_)
  obtain ⟨⟨L0, hwvy77⟩, hfvy77⟩ := hvy77
  refine z_aload_n C 0 dX7_read_44 rfl ?_
  have hgy86 := (hfvy34 (2) (by omega)).trans hgy33
  have hgy87 := (hfvy77 (2) (by omega)).trans hgy86
  have hgy88 := up_n egy20 hgy15 (by decide)
  have hgy89 := up_n egy23 hgy88 (by decide)
  have hgy90 := up_n egy26 hgy89 (by decide)
  have hgy91 := up_n egy29 hgy90 (by decide)
  have hgy92 := up_n egy32 hgy91 (by decide)
  have hgy93 := (hfvy34 (1) (by omega)).trans hgy92
  have hgy94 := (hfvy77 (1) (by omega)).trans hgy93
  refine z_cV (As := []) (rest := []) (ci := 9) C (c_xPeek l D A cs tt N ad _ (by omega) _ _ _ _ _ _ tp T hT n hn 0 (by omega) hgy87 hgy94) (lt_K hN (rfl : Nat.blt (2) 952 = true)) hay1 hgy87 rfl rfl mv_yX7_peek q_742 hd_yX7_peek (by decide) (Nat.le_of_ble_eq_true rfl) (by decide) dX7_read_45 rfl (kV0 fun gvy95 hvy95 => ?_)
  obtain ⟨hkvy95, hfvy95⟩ := hvy95
  refine z_iconst (z := 0) C dX7_read_48 rfl ?_
  refine z_istore (lv' := [(5, .int (zI (0))), (0, .ref (ad 2)), (1, .ref (ad 1)), (2, .int (zI ((n : Int)))), (3, .ref (ad 883)), (4, .ref (ad 890))]) C dX7_read_49 (by decide) rfl ?_
  have lp : ∀ (n9 : Nat) (i : Int) (f : Nat) (s9 : Int × Int × Int × (Nat → Int) × (Nat → Int) × (Nat → Int) × (Nat → Int) × (Nat → Int) × (Nat → Int) × (Nat → Int) × (Nat → Int) × (Nat → Nat → Int)) (tk : Int) (td : Int) (g1 : Nat → va_E), (901 - i).toNat = n9 → (g1 2 = rdC ad (-1) (0) ((n : Int)) (tk_so T n f) ((f : Int)) (((tk_to T n f : Nat) : Int)) (tk) (td)) → (g1 1 = bA cs 900 tp) → (xSt cs ad g1 s9) → (xTd td (s9.2.2.2.2.2.2.2.2.2.2.1)) → (∀ r9, (∃ k9, ps_run T n k9 s9 f = some r9) → ∃ k9, ps_run T n k9 (0, 0, 0, (fun _ => 0), st, op, ai, fa, mu, tabZ, (fun _ => 0), L0) (tk_at T n 0) = some r9) → (∀ j, j ≠ 2 → (j < 883 ∨ 900 ≤ j) → g1 j = g j) → ((0 ≤ i ∧ i ≤ 901) ∧ i ≤ (f : Int) ∧ f ≤ n) → zV p l e ({ frames := 10, cells := 0, slots := 0, locals := 600 } : Room) s m ([.ref (ad 2), .ref (ad 1), .int (zI (n : Int)), .ref (ad 883), .ref (ad 890)] : List Value).toArray below meth c (MQ below (zPost D A (rI0 N ad fun r g' => (∃ (L0 : Nat → Nat → Int) (k : Nat) (co pl : Int) (s9 : Int × Int × Int × (Nat → Int) × (Nat → Int) × (Nat → Int) × (Nat → Int) × (Nat → Int) × (Nat → Int) × (Nat → Int) × (Nat → Int) × (Nat → Nat → Int)), ps_run T n k (0, 0, 0, (fun _ => 0), st, op, ai, fa, mu, tabZ, (fun _ => 0), L0) (tk_at T n 0) = some ((co, pl), s9) ∧ r = co ∧ (0 ≤ co ∧ co ≤ 5) ∧ (∃ en ty a9 be tk td : Int, g' 2 = rdC ad pl co en ty a9 be tk td) ∧ g' 1 = bA cs 900 tp ∧ xSt cs ad g' s9) ∧ ∀ j, j ≠ 2 → (j < 883 ∨ 900 ≤ j) → g' j = g j)) ([.ref (ad 2), .ref (ad 1), .int (zI (n : Int)), .ref (ad 883), .ref (ad 890)] : List Value).toArray s ({ frames := 10, cells := 0, slots := 0, locals := 600 } : Room).cells ({ frames := 10, cells := 0, slots := 0, locals := 600 } : Room).slots A) D A 6 (N) ad g1 (0) (0) 51 [(5, .int (zI (i))), (0, .ref (ad 2)), (3, .ref (ad 883)), (4, .ref (ad 890))] [] := by
    intro n9
    induction n9 using Nat.strongRecOn with
    | ind n9 ih =>
      intro i f s9 tk td g1 hm9 f1 f2 hX9 hB9 hf9 f4 f5
      have hay96 : zAt ad (2) (ad 2) := rfl
      have hay97 : zAt ad (1) (ad 1) := rfl
      have hay98 : zAt ad (883) (ad 883) := rfl
      have hay99 : zAt ad (890) (ad 890) := rfl
      have hsb := tk_so_b T n f
      have htb := tk_to_b (T := T) (n := n) (f := f) (by omega)
      refine z_iload C 0 dX7_read_51 rfl ?_
      refine z_aload_n C 1 dX7_read_53 rfl ?_
      refine z_get (v := .int (zI ((n : Int)))) C (lt_K hN (rfl : Nat.blt (2) 952 = true)) hay96 f1 rfl inA_X7 3 (by decide) q_47 rfl rfl dX7_read_54 ?_
      refine z_icmp_gt (tgt := 87) C dX7_read_57 (by decide) (by omega) (by omega) (fun hby100 => ?_) (fun hby100 => ?_)
      · refine z_aload_n C 1 dX7_read_87 rfl ?_
        refine z_get (v := .int (zI (0))) C (lt_K hN (rfl : Nat.blt (2) 952 = true)) hay96 f1 rfl inA_X7 1 (by decide) q_45 rfl rfl dX7_read_88 ?_
        exfalso; omega
      · refine z_aload_n C 1 dX7_read_60 rfl ?_
        refine z_get (v := .int (zI (0))) C (lt_K hN (rfl : Nat.blt (2) 952 = true)) hay96 f1 rfl inA_X7 1 (by decide) q_45 rfl rfl dX7_read_61 ?_
        refine z_if_ne (tgt := 87) C dX7_read_64 (by decide) (by omega) (fun h => absurd h (by omega)) (fun _ => ?_)
        refine z_aload_n C 1 dX7_read_67 rfl ?_
        refine z_get (v := .int (zI (tk_so T n f))) C (lt_K hN (rfl : Nat.blt (2) 952 = true)) hay96 f1 rfl inA_X7 4 (by decide) q_48 rfl rfl dX7_read_68 ?_
        refine z_if_eq (tgt := 87) C dX7_read_71 (by decide) (by omega) (fun hby101 => ?_) (fun hby101 => ?_)
        · have hso : (tk_so T n f = 0) := by omega
          refine z_aload_n C 1 dX7_read_87 rfl ?_
          refine z_get (v := .int (zI (0))) C (lt_K hN (rfl : Nat.blt (2) 952 = true)) hay96 f1 rfl inA_X7 1 (by decide) q_45 rfl rfl dX7_read_88 ?_
          obtain ⟨k9, hk9⟩ := hf9 ((0, -1), s9) ⟨1, by simp only [ps_run]; rw [if_pos hso]⟩
          exact z_iret C hr hlk dX7_read_91 (by decide) (by decide) ⟨0, rfl, rfl, rfl, ⟨L0, k9, _, _, s9, hk9, rfl, by omega, ⟨_, _, _, _, _, _, f1⟩, f2, hX9⟩, fun j j1 j2 => by exact f4 j j1 j2⟩
        · have hso : ¬ (tk_so T n f = 0) := by omega
          refine z_aload_n C 1 dX7_read_74 rfl ?_
          refine z_aload_n C 2 dX7_read_75 rfl ?_
          refine z_aload C 3 dX7_read_76 rfl ?_
          have hfn : f < n := by
            by_cases e9 : n ≤ f
            · exact absurd (tk_so_0.mpr e9) hso
            · omega
          refine z_cV (As := [.ref (ad 883), .ref (ad 890)]) (rest := []) (ci := 9) C (c_xClause l D A cs tt N ad _ (by omega) _ _ _ tp T hT n hn f (by omega) f1 f2 (s9.1) (s9.2.1) (s9.2.2.1) (s9.2.2.2.1) (s9.2.2.2.2.1) (s9.2.2.2.2.2.1) (s9.2.2.2.2.2.2.1) (s9.2.2.2.2.2.2.2.1) (s9.2.2.2.2.2.2.2.2.1) (s9.2.2.2.2.2.2.2.2.2.1) (s9.2.2.2.2.2.2.2.2.2.2.1) (s9.2.2.2.2.2.2.2.2.2.2.2) hB9 hX9) (lt_K hN (rfl : Nat.blt (2) 952 = true)) hay96 f1 rfl rfl mv_yX7_readClause q_749 hd_yX7_readClause (by decide) (Nat.le_of_ble_eq_true rfl) (by decide) dX7_read_78 rfl (kV0 fun gvy102 hvy102 => ?_)
          obtain ⟨hvy102, hfvy102⟩ := hvy102
          rcases hvy102 with hvy102 | hvy102
          · obtain ⟨vvy102, hv0vy102, hbvy102, ⟨tkvy102, tdvy102, hkvy102, htvy102⟩, hxvy102⟩ := hvy102
            have hvvy102 : ps_step T n s9 f = .ok vvy102 := hv0vy102
            have hsby103 := tk_so_b T n vvy102.2
            have htby104 := tk_to_b (T := T) (n := n) (f := vvy102.2) (by omega)
            have hf2vy102 : ∀ r9, (∃ k9, ps_run T n k9 vvy102.1 vvy102.2 = some r9) → ∃ k9, ps_run T n k9 (0, 0, 0, (fun _ => 0), st, op, ai, fa, mu, tabZ, (fun _ => 0), L0) (tk_at T n 0) = some r9 := fun r9 ⟨k9, hk9⟩ => hf9 r9 ⟨k9 + 1, by simp only [ps_run]; rw [if_neg hso, hvvy102]; exact hk9⟩
            refine z_iinc (z := i + 1) (lv' := [(5, .int (zI (i + 1))), (0, .ref (ad 2)), (3, .ref (ad 883)), (4, .ref (ad 890))]) (j := 0) C dX7_read_81 rfl rfl (by decide) rfl ?_
            refine z_goto (tgt := 51) C dX7_read_84 (by decide) ?_
            refine z_lv (lv' := [(5, .int (zI (i + 1))), (0, .ref (ad 2)), (3, .ref (ad 883)), (4, .ref (ad 890))]) [0, 1, 2, 3] rfl ?_
            exact ih _ (by omega) (i + 1) (vvy102.2) vvy102.1 (tkvy102) (tdvy102) gvy102 rfl hkvy102 ((hfvy102 1 (by omega) (by omega)).trans f2) hxvy102 htvy102 hf2vy102 (fun j j1 j2 => by rw [hfvy102 _ (by omega) (by omega)]; exact f4 j j1 j2) (by omega)
          · obtain ⟨evy102, hv0vy102, ⟨hcvy102, envy102, tyvy102, a9vy102, bevy102, tkvy102, tdvy102, hAvy102, hTvy102, hkvy102, h1vy102⟩, hxvy102⟩ := hvy102
            have hvvy102 : ps_step T n s9 f = .error evy102 := hv0vy102
            refine z_iinc (z := i + 1) (lv' := [(5, .int (zI (i + 1))), (0, .ref (ad 2)), (3, .ref (ad 883)), (4, .ref (ad 890))]) (j := 0) C dX7_read_81 rfl rfl (by decide) rfl ?_
            refine z_goto (tgt := 51) C dX7_read_84 (by decide) ?_
            refine z_iload C 0 dX7_read_51 rfl ?_
            refine z_aload_n C 1 dX7_read_53 rfl ?_
            refine z_get (v := .int (zI (envy102))) C (lt_K hN (rfl : Nat.blt (2) 952 = true)) hay96 hkvy102 rfl inA_X7 3 (by decide) q_47 rfl rfl dX7_read_54 ?_
            refine z_icmp_gt (tgt := 87) C dX7_read_57 (by decide) (by omega) (by omega) (fun hby105 => ?_) (fun hby105 => ?_)
            · refine z_aload_n C 1 dX7_read_87 rfl ?_
              refine z_get (v := .int (zI (evy102.1))) C (lt_K hN (rfl : Nat.blt (2) 952 = true)) hay96 hkvy102 rfl inA_X7 1 (by decide) q_45 rfl rfl dX7_read_88 ?_
              obtain ⟨k9, hk9⟩ := hf9 ((evy102.1, (evy102.2 : Int)), s9) ⟨1, by simp only [ps_run]; rw [if_neg hso, hvvy102]⟩
              exact z_iret C hr hlk dX7_read_91 (by decide) (by decide) ⟨evy102.1, rfl, rfl, rfl, ⟨L0, k9, _, _, s9, hk9, rfl, by omega, ⟨_, _, _, _, _, _, hkvy102⟩, h1vy102, hxvy102⟩, fun j j1 j2 => by rw [hfvy102 _ (by omega) (by omega)]; exact f4 j j1 j2⟩
            · refine z_aload_n C 1 dX7_read_60 rfl ?_
              refine z_get (v := .int (zI (evy102.1))) C (lt_K hN (rfl : Nat.blt (2) 952 = true)) hay96 hkvy102 rfl inA_X7 1 (by decide) q_45 rfl rfl dX7_read_61 ?_
              refine z_if_ne (tgt := 87) C dX7_read_64 (by decide) (by omega) (fun _ => ?_) (fun h => absurd h (by omega))
              refine z_aload_n C 1 dX7_read_87 rfl ?_
              refine z_get (v := .int (zI (evy102.1))) C (lt_K hN (rfl : Nat.blt (2) 952 = true)) hay96 hkvy102 rfl inA_X7 1 (by decide) q_45 rfl rfl dX7_read_88 ?_
              obtain ⟨k9, hk9⟩ := hf9 ((evy102.1, (evy102.2 : Int)), s9) ⟨1, by simp only [ps_run]; rw [if_neg hso, hvvy102]⟩
              exact z_iret C hr hlk dX7_read_91 (by decide) (by decide) ⟨evy102.1, rfl, rfl, rfl, ⟨L0, k9, _, _, s9, hk9, rfl, by omega, ⟨_, _, _, _, _, _, hkvy102⟩, h1vy102, hxvy102⟩, fun j j1 j2 => by rw [hfvy102 _ (by omega) (by omega)]; exact f4 j j1 j2⟩
  have hgy106 := (hfvy95 (1) (by decide)).trans hgy94
  have hgy107 := (hfvy77 (883) (by omega)).trans hpvy34.1
  have hgy108 := (hfvy95 (883) (by decide)).trans hgy107
  have hgy109 := (hfvy77 (883 + 1) (by omega)).trans hpvy34.2.1
  have hgy110 := (hfvy95 (883 + 1) (by omega)).trans hgy109
  have hgy111 := (hfvy77 (883 + 2) (by omega)).trans hpvy34.2.2.1
  have hgy112 := (hfvy95 (883 + 2) (by omega)).trans hgy111
  have hgy113 := (hfvy77 (883 + 3) (by omega)).trans hpvy34.2.2.2.1
  have hgy114 := (hfvy95 (883 + 3) (by omega)).trans hgy113
  have hgy115 := (hfvy77 (883 + 4) (by omega)).trans hpvy34.2.2.2.2.1
  have hgy116 := (hfvy95 (883 + 4) (by omega)).trans hgy115
  have hgy117 := (hfvy77 (883 + 5) (by omega)).trans hpvy34.2.2.2.2.2.1
  have hgy118 := (hfvy95 (883 + 5) (by omega)).trans hgy117
  have hgy119 := (hfvy77 (883 + 6) (by omega)).trans hpvy34.2.2.2.2.2.2
  have hgy120 := (hfvy95 (883 + 6) (by omega)).trans hgy119
  have hX0 : xSt cs ad gvy95 (0, 0, 0, (fun _ => 0), st, op, ai, fa, mu, tabZ, (fun _ => 0), L0) := ⟨⟨hgy108, hgy110, hgy112, hgy114, hgy116, hgy118, hgy120⟩, (show (0 : Int) ≤ 0 ∧ (0 : Int) ≤ 4 by decide), (show (0 : Int) ≤ 0 ∧ (0 : Int) ≤ 24 by decide), fun k hk => (show (0 : Int) ≤ 0 ∧ (0 : Int) ≤ 12 by decide), fun _ => 0, fun _ _ _ => rfl, rfl, hwvy77.mv (fun _ _ _ => rfl) (fun j a b => by rw [hfvy95 _ (by omega)])⟩
  have haby121 := tk_at_b (T := T) (n := n) (p := 0) (by omega)
  refine z_lv (lv' := [(5, .int (zI (0))), (0, .ref (ad 2)), (3, .ref (ad 883)), (4, .ref (ad 890))]) [0, 1, 4, 5] rfl ?_
  exact lp _ (0) ((tk_at T n 0)) (0, 0, 0, (fun _ => 0), st, op, ai, fa, mu, tabZ, (fun _ => 0), L0) (x7) (0) gvy95 rfl hkvy95 hgy106 hX0 xTd_0 (fun r hr => hr) (fun j j1 j2 => by rw [hfvy95 _ (by omega)]; rw [hfvy77 _ (by omega)]; rw [hfvy34 _ (by omega)]; rw [egy32, va_up_ne _ _ (by omega)]; rw [egy29, va_up_ne _ _ (by omega)]; rw [egy26, va_up_ne _ _ (by omega)]; rw [egy23, va_up_ne _ _ (by omega)]; rw [egy20, va_up_ne _ _ (by omega)]; rw [egy13, va_up_ne _ _ (by omega)]) (by omega)
end
section
-- 71.phys.lean.txt
/-! ===== the reference's rows: a layer at q, a slope at p ===== -/
def ly (r : Nat → Int) (q : Nat) : Prop := (0 ≤ r q ∧ r q ≤ 4) ∧ 1 ≤ r (q + 1) ∧ 0 ≤ r (q + 2) ∧ 1 ≤ r (q + 3) ∧ (-300 ≤ r (q + 4) ∧ r (q + 4) ≤ 0) ∧ 0 ≤ r (q + 6) ∧ r (q + 6) ≤ 20000
def ms (r : Nat → Int) (p : Nat) : Nat → Int
  | 0 => 0
  | n + 1 => ms r p n + (r (p + 2 + 7 * n + 1) + r (p + 2 + 7 * n + 2))
def dp (r : Nat → Int) (p : Nat) : Nat → Int
  | 0 => 0
  | n + 1 => dp r p n + r (p + 2 + 7 * n + 3)
theorem ly.ext {r r' : Nat → Int} {q : Nat} (h : ∀ j, q ≤ j → j < q + 7 → r' j = r j) (hl : ly r q) : ly r' q := by
  unfold ly at *
  rw [h q (by omega) (by omega), h (q + 1) (by omega) (by omega), h (q + 2) (by omega) (by omega), h (q + 3) (by omega) (by omega), h (q + 4) (by omega) (by omega), h (q + 6) (by omega) (by omega)]
  exact hl
theorem ms_ext {r r' : Nat → Int} {p : Nat} : ∀ n : Nat, (∀ l, l < n → r' (p + 2 + 7 * l + 1) = r (p + 2 + 7 * l + 1) ∧ r' (p + 2 + 7 * l + 2) = r (p + 2 + 7 * l + 2)) → ms r' p n = ms r p n := by
  intro n
  induction n with
  | zero => intro _; rfl
  | succ n ih =>
    intro h
    show ms r' p n + _ = ms r p n + _
    rw [ih (fun l hl => h l (by omega)), (h n (by omega)).1, (h n (by omega)).2]
theorem dp_ext {r r' : Nat → Int} {p : Nat} : ∀ n : Nat, (∀ l, l < n → r' (p + 2 + 7 * l + 3) = r (p + 2 + 7 * l + 3)) → dp r' p n = dp r p n := by
  intro n
  induction n with
  | zero => intro _; rfl
  | succ n ih =>
    intro h
    show dp r' p n + _ = dp r p n + _
    rw [ih (fun l hl => h l (by omega)), h n (by omega)]
/-- one layer k changed -/
theorem ms_one {r r' : Nat → Int} {p k q : Nat} (hq : p + 2 + 7 * k = q) : ∀ n : Nat, k < n → (∀ l, l < n → l ≠ k → r' (p + 2 + 7 * l + 1) = r (p + 2 + 7 * l + 1) ∧ r' (p + 2 + 7 * l + 2) = r (p + 2 + 7 * l + 2)) → ms r' p n = ms r p n + (r' (q + 1) + r' (q + 2)) - (r (q + 1) + r (q + 2)) := by
  intro n
  subst hq
  induction n with
  | zero => intro h; omega
  | succ n ih =>
    intro hk h
    show ms r' p n + _ = ms r p n + _ + _ - _
    by_cases e : k = n
    · subst e
      rw [ms_ext k (fun l hl => h l (by omega) (by omega))]
      omega
    · rw [ih (by omega) (fun l hl h2 => h l (by omega) h2), (h n (by omega) (by omega)).1, (h n (by omega) (by omega)).2]
      omega
theorem dp_one {r r' : Nat → Int} {p k q : Nat} (hq : p + 2 + 7 * k = q) : ∀ n : Nat, k < n → (∀ l, l < n → l ≠ k → r' (p + 2 + 7 * l + 3) = r (p + 2 + 7 * l + 3)) → dp r' p n = dp r p n + r' (q + 3) - r (q + 3) := by
  intro n
  subst hq
  induction n with
  | zero => intro h; omega
  | succ n ih =>
    intro hk h
    show dp r' p n + _ = dp r p n + _ + _ - _
    by_cases e : k = n
    · subst e
      rw [dp_ext k (fun l hl => h l (by omega) (by omega))]
      omega
    · rw [ih (by omega) (fun l hl h2 => h l (by omega) h2), h n (by omega) (by omega)]
      omega
theorem ms_pos {r : Nat → Int} {p : Nat} : ∀ n : Nat, (∀ l, l < n → ly r (p + 2 + 7 * l)) → 0 ≤ ms r p n := by
  intro n
  induction n with
  | zero => intro _; exact Int.le_refl 0
  | succ n ih =>
    intro h
    have h1 := ih (fun l hl => h l (by omega))
    obtain ⟨_, h2, h3, _⟩ := h n (by omega)
    show 0 ≤ ms r p n + _
    omega
theorem ms_mono {r : Nat → Int} {p : Nat} {m : Nat} : ∀ n : Nat, m ≤ n → (∀ l, l < n → ly r (p + 2 + 7 * l)) → ms r p m ≤ ms r p n := by
  intro n
  induction n with
  | zero => intro h _; rw [show m = 0 by omega]; exact Int.le_refl _
  | succ n ih =>
    intro hm h
    by_cases e : m = n + 1
    · rw [e]; exact Int.le_refl _
    · have h1 := ih (by omega) (fun l hl => h l (by omega))
      obtain ⟨_, h2, h3, _⟩ := h n (by omega)
      show ms r p m ≤ ms r p n + _
      omega
theorem dp_pos {r : Nat → Int} {p : Nat} : ∀ n : Nat, (∀ l, l < n → ly r (p + 2 + 7 * l)) → 0 ≤ dp r p n := by
  intro n
  induction n with
  | zero => intro _; exact Int.le_refl 0
  | succ n ih =>
    intro h
    have h1 := ih (fun l hl => h l (by omega))
    obtain ⟨_, _, _, h2, _⟩ := h n (by omega)
    show 0 ≤ dp r p n + _
    omega
theorem dp_mono {r : Nat → Int} {p : Nat} {m : Nat} : ∀ n : Nat, m ≤ n → (∀ l, l < n → ly r (p + 2 + 7 * l)) → dp r p m ≤ dp r p n := by
  intro n
  induction n with
  | zero => intro h _; rw [show m = 0 by omega]; exact Int.le_refl _
  | succ n ih =>
    intro hm h
    by_cases e : m = n + 1
    · rw [e]; exact Int.le_refl _
    · have h1 := ih (by omega) (fun l hl => h l (by omega))
      obtain ⟨_, _, _, h2, _⟩ := h n (by omega)
      show dp r p m ≤ dp r p n + _
      omega
/-- a slope: n layers, all right, so much mass and depth at most -/
def okS (r : Nat → Int) (p : Nat) (M E : Int) : Prop := (0 ≤ r p ∧ r p ≤ 12) ∧ (∀ l : Nat, (l : Int) < r p → ly r (p + 2 + 7 * l)) ∧ ms r p (r p).toNat ≤ M ∧ dp r p (r p).toNat ≤ E
theorem okS.mk {r : Nat → Int} {p : Nat} {M E : Int} (n : Nat) (hp : r p = (n : Int)) (hn : n ≤ 12) (h : ∀ l, l < n → ly r (p + 2 + 7 * l)) (hm : ms r p n ≤ M) (hd : dp r p n ≤ E) : okS r p M E := by
  refine ⟨by omega, fun l hl => h l (by omega), ?_, ?_⟩
  · rw [hp]; exact hm
  · rw [hp]; exact hd
/-- what a slope gives: its number of layers n -/
theorem okS.get {r : Nat → Int} {p : Nat} {M E : Int} (h : okS r p M E) : ∃ n : Nat, r p = (n : Int) ∧ n ≤ 12 ∧ (∀ l, l < n → ly r (p + 2 + 7 * l)) ∧ (ms r p n ≤ M ∧ 0 ≤ ms r p n) ∧ (dp r p n ≤ E ∧ 0 ≤ dp r p n) := by
  obtain ⟨h1, h2, h3, h4⟩ := h
  have e : r p = ((r p).toNat : Int) := by omega
  have h5 : ∀ l, l < (r p).toNat → ly r (p + 2 + 7 * l) := fun l hl => h2 l (by omega)
  exact ⟨(r p).toNat, e, by omega, h5, ⟨h3, ms_pos _ h5⟩, h4, dp_pos _ h5⟩
theorem okS.mono {r : Nat → Int} {p : Nat} {M E M2 E2 : Int} (h : okS r p M E) (hM : M ≤ M2) (hE : E ≤ E2) : okS r p M2 E2 := ⟨h.1, h.2.1, by have := h.2.2.1; omega, by have := h.2.2.2; omega⟩
theorem okS.ext {r r' : Nat → Int} {p : Nat} {M E : Int} (he : ∀ j, p ≤ j → j < p + 86 → r' j = r j) (h : okS r p M E) : okS r' p M E := by
  obtain ⟨n, h1, h2, h3, h4, h5⟩ := h.get
  refine okS.mk n (by rw [he p (by omega) (by omega)]; exact h1) h2 (fun l hl => (h3 l hl).ext (fun j j1 j2 => he j (by omega) (by omega))) ?_ ?_
  · rw [ms_ext n (fun l hl => ⟨he _ (by omega) (by omega), he _ (by omega) (by omega)⟩)]; exact h4.1
  · rw [dp_ext n (fun l hl => he _ (by omega) (by omega))]; exact h5.1
theorem okS.zero {r : Nat → Int} {p : Nat} {M E : Int} (h : r p = 0) (hM : 0 ≤ M) (hE : 0 ≤ E) : okS r p M E := okS.mk 0 h (by omega) (fun l hl => absurd hl (by omega)) hM hE
/-- what a layer of a slope gives -/
theorem okS.layer {r : Nat → Int} {p k q : Nat} {M E : Int} (h : okS r p M E) (hk : (k : Int) < r p) (hq : p + 2 + 7 * k = q) : ly r q ∧ r (q + 1) + r (q + 2) ≤ M ∧ r (q + 3) ≤ E := by
  subst hq
  obtain ⟨n, h1, h2, h3, h4, h5⟩ := h.get
  have hk2 : k + 1 ≤ n := by omega
  have a1 := ms_mono (m := k + 1) n hk2 h3
  have a2 := dp_mono (m := k + 1) n hk2 h3
  have a3 := ms_pos (r := r) (p := p) k (fun l hl => h3 l (by omega))
  have a4 := dp_pos (r := r) (p := p) k (fun l hl => h3 l (by omega))
  have e1 : ms r p (k + 1) = ms r p k + (r (p + 2 + 7 * k + 1) + r (p + 2 + 7 * k + 2)) := rfl
  have e2 : dp r p (k + 1) = dp r p k + r (p + 2 + 7 * k + 3) := rfl
  exact ⟨h3 k (by omega), by omega, by omega⟩
/-- one layer changed, by so much heavier and deeper -/
theorem okS.one {r r' : Nat → Int} {p k q : Nat} {M E : Int} (a d : Int) (h : okS r p M E) (hk : (k : Int) < r p) (hq : p + 2 + 7 * k = q) (he : ∀ j, p ≤ j → j < p + 86 → j ≠ p + 1 → j < q ∨ q + 7 ≤ j → r' j = r j) (hl : ly r' q) (hm : r' (q + 1) + r' (q + 2) ≤ r (q + 1) + r (q + 2) + a) (hd : r' (q + 3) ≤ r (q + 3) + d) : okS r' p (M + a) (E + d) := by
  obtain ⟨n, h1, h2, h3, h4, h5⟩ := h.get
  have hk2 : k < n := by omega
  refine okS.mk n (by rw [he p (by omega) (by omega) (by omega) (by omega)]; exact h1) h2 (fun l hl2 => ?_) ?_ ?_
  · by_cases e : l = k
    · subst e; rw [hq]; exact hl
    · exact (h3 l hl2).ext (fun j j1 j2 => he j (by omega) (by omega) (by omega) (by omega))
  · rw [ms_one hq n hk2 (fun l hl2 e => ⟨he _ (by omega) (by omega) (by omega) (by omega), he _ (by omega) (by omega) (by omega) (by omega)⟩)]; omega
  · rw [dp_one hq n hk2 (fun l hl2 e => he _ (by omega) (by omega) (by omega) (by omega))]; omega
/-- the layers k (at q) and k + 1 (at q2) changed, together no heavier, no deeper -/
theorem okS.two {r r' : Nat → Int} {p k q q2 : Nat} {M E : Int} (h : okS r p M E) (hk : (k : Int) + 1 < r p) (hq : p + 2 + 7 * k = q) (hq2 : q + 7 = q2) (he : ∀ j, p ≤ j → j < p + 86 → j ≠ p + 1 → j < q ∨ q + 14 ≤ j → r' j = r j) (hl : ly r' q) (hl2 : ly r' q2) (hm : r' (q + 1) + r' (q + 2) + (r' (q2 + 1) + r' (q2 + 2)) ≤ r (q + 1) + r (q + 2) + (r (q2 + 1) + r (q2 + 2))) (hd : r' (q + 3) + r' (q2 + 3) ≤ r (q + 3) + r (q2 + 3)) : okS r' p M E := by
  obtain ⟨n, h1, h2, h3, h4, h5⟩ := h.get
  have hk2 : k + 1 < n := by omega
  have hm1 := ms_one (r := r) (r' := fun j => if j < q2 then r' j else r j) hq n (by omega) (fun l hl2 e => by
    by_cases e1 : l < k
    · simp only [show p + 2 + 7 * l + 1 < q2 by omega, show p + 2 + 7 * l + 2 < q2 by omega, if_true]
      exact ⟨he _ (by omega) (by omega) (by omega) (by omega), he _ (by omega) (by omega) (by omega) (by omega)⟩
    · simp only [show ¬ (p + 2 + 7 * l + 1 < q2) by omega, show ¬ (p + 2 + 7 * l + 2 < q2) by omega, if_false, and_self])
  have hd1 := dp_one (r := r) (r' := fun j => if j < q2 then r' j else r j) hq n (by omega) (fun l hl2 e => by
    by_cases e1 : l < k
    · simp only [show p + 2 + 7 * l + 3 < q2 by omega, if_true]
      exact he _ (by omega) (by omega) (by omega) (by omega)
    · simp only [show ¬ (p + 2 + 7 * l + 3 < q2) by omega, if_false])
  have hm2 := ms_one (r := fun j => if j < q2 then r' j else r j) (r' := r') (show p + 2 + 7 * (k + 1) = q2 by omega) n (by omega) (fun l hl2 e => by
    by_cases e1 : l < k + 1
    · simp only [show p + 2 + 7 * l + 1 < q2 by omega, show p + 2 + 7 * l + 2 < q2 by omega, if_true, and_self]
    · simp only [show ¬ (p + 2 + 7 * l + 1 < q2) by omega, show ¬ (p + 2 + 7 * l + 2 < q2) by omega, if_false]
      exact ⟨he _ (by omega) (by omega) (by omega) (by omega), he _ (by omega) (by omega) (by omega) (by omega)⟩)
  have hd2 := dp_one (r := fun j => if j < q2 then r' j else r j) (r' := r') (show p + 2 + 7 * (k + 1) = q2 by omega) n (by omega) (fun l hl2 e => by
    by_cases e1 : l < k + 1
    · simp only [show p + 2 + 7 * l + 3 < q2 by omega, if_true]
    · simp only [show ¬ (p + 2 + 7 * l + 3 < q2) by omega, if_false]
      exact he _ (by omega) (by omega) (by omega) (by omega))
  simp only [show q + 1 < q2 by omega, show q + 2 < q2 by omega, show ¬ (q2 + 1 < q2) by omega, show ¬ (q2 + 2 < q2) by omega, if_true, if_false] at hm1 hm2
  simp only [show q + 3 < q2 by omega, show ¬ (q2 + 3 < q2) by omega, if_true, if_false] at hd1 hd2
  refine okS.mk n (by rw [he p (by omega) (by omega) (by omega) (by omega)]; exact h1) h2 (fun l hl3 => ?_) (by omega) (by omega)
  by_cases e : l = k
  · subst e; rw [hq]; exact hl
  · by_cases e2 : l = k + 1
    · subst e2; rw [show p + 2 + 7 * (k + 1) = q2 by omega]; exact hl2
    · exact (h3 l hl3).ext (fun j j1 j2 => he j (by omega) (by omega) (by omega) (by omega))
/-- layers taken from the top -/
theorem okS.cut {r r' : Nat → Int} {p : Nat} {M E : Int} (h : okS r p M E) (he : ∀ j, p + 1 < j → j < p + 86 → r' j = r j) (hm : 0 ≤ r' p ∧ r' p ≤ r p) : okS r' p M E := by
  obtain ⟨n, h1, h2, h3, h4, h5⟩ := h.get
  obtain ⟨m, hm1⟩ : ∃ m : Nat, r' p = (m : Int) := ⟨(r' p).toNat, by omega⟩
  have hmn : m ≤ n := by omega
  refine okS.mk m hm1 (by omega) (fun l hl => (h3 l (by omega)).ext (fun j j1 j2 => he j (by omega) (by omega))) ?_ ?_
  · rw [ms_ext m (fun l hl => ⟨he _ (by omega) (by omega), he _ (by omega) (by omega)⟩)]; have := ms_mono n hmn h3; omega
  · rw [dp_ext m (fun l hl => he _ (by omega) (by omega))]; have := dp_mono n hmn h3; omega
/-- the top layer k + 1 (at q2) melts away into the layer k (at q) -/
theorem okS.melt {r r' : Nat → Int} {p k q q2 : Nat} {M E : Int} (h : okS r p M E) (hk : r p = (k : Int) + 2) (hq : p + 2 + 7 * k = q) (hq2 : q + 7 = q2) (hp : r' p = (k : Int) + 1) (he : ∀ j, p + 1 < j → j < q + 7 → j ≠ q + 2 → r' j = r j) (hw : r (q + 2) ≤ r' (q + 2) ∧ r' (q + 2) ≤ r (q + 2) + (r (q2 + 1) + r (q2 + 2))) : okS r' p M E := by
  obtain ⟨n, h1, h2, h3, h4, h5⟩ := h.get
  have hn : n = k + 2 := by omega
  subst hn
  have hly : ly r' q := by
    have h9 := h3 k (by omega)
    rw [hq] at h9
    unfold ly at *
    rw [he q (by omega) (by omega) (by omega), he (q + 1) (by omega) (by omega) (by omega), he (q + 3) (by omega) (by omega) (by omega), he (q + 4) (by omega) (by omega) (by omega), he (q + 6) (by omega) (by omega) (by omega)]
    omega
  have e1 : ms r p (k + 2) = ms r p (k + 1) + (r (p + 2 + 7 * (k + 1) + 1) + r (p + 2 + 7 * (k + 1) + 2)) := rfl
  have e2 : dp r p (k + 2) = dp r p (k + 1) + r (p + 2 + 7 * (k + 1) + 3) := rfl
  rw [show p + 2 + 7 * (k + 1) + 1 = q2 + 1 by omega, show p + 2 + 7 * (k + 1) + 2 = q2 + 2 by omega] at e1
  have hd9 := (h3 (k + 1) (by omega)).2.2.2.1
  refine okS.mk (k + 1) hp (by omega) (fun l hl => ?_) ?_ ?_
  · by_cases e : l = k
    · subst e; rw [hq]; exact hly
    · exact (h3 l (by omega)).ext (fun j j1 j2 => he j (by omega) (by omega) (by omega))
  · rw [ms_one hq (k + 1) (by omega) (fun l hl e => ⟨he _ (by omega) (by omega) (by omega), he _ (by omega) (by omega) (by omega)⟩), he (q + 1) (by omega) (by omega) (by omega)]; omega
  · rw [dp_ext (k + 1) (fun l hl => he _ (by omega) (by omega) (by omega))]; omega
/-- a new layer n at q on the top -/
theorem okS.push {r r' : Nat → Int} {p n q : Nat} {M E : Int} (a d : Int) (h : okS r p M E) (hn : r p = (n : Int)) (hn2 : n < 12) (hq : p + 2 + 7 * n = q) (hp : r' p = (n : Int) + 1) (he : ∀ j, p + 1 < j → j < q → r' j = r j) (hl : ly r' q) (ha : r' (q + 1) + r' (q + 2) ≤ a) (hd : r' (q + 3) ≤ d) : okS r' p (M + a) (E + d) := by
  obtain ⟨n2, h1, h2, h3, h4, h5⟩ := h.get
  have hn3 : n2 = n := by omega
  subst hn3
  have e1 : ms r' p (n2 + 1) = ms r' p n2 + (r' (p + 2 + 7 * n2 + 1) + r' (p + 2 + 7 * n2 + 2)) := rfl
  have e2 : dp r' p (n2 + 1) = dp r' p n2 + r' (p + 2 + 7 * n2 + 3) := rfl
  rw [hq, ms_ext n2 (fun l hl => ⟨he _ (by omega) (by omega), he _ (by omega) (by omega)⟩)] at e1
  rw [hq, dp_ext n2 (fun l hl => he _ (by omega) (by omega))] at e2
  refine okS.mk (n2 + 1) hp (by omega) (fun l hl3 => ?_) (by omega) (by omega)
  by_cases e : l = n2
  · subst e; rw [hq]; exact hl
  · exact (h3 l (by omega)).ext (fun j j1 j2 => he j (by omega) (by omega))
/-- the shift behind a join: layers 1 .. take what lay one higher -/
theorem ms_shift {r r' : Nat → Int} {p : Nat} : ∀ n : Nat, (∀ l, 1 ≤ l → l < n + 1 → r' (p + 2 + 7 * l + 1) = r (p + 2 + 7 * (l + 1) + 1) ∧ r' (p + 2 + 7 * l + 2) = r (p + 2 + 7 * (l + 1) + 2)) → ms r' p (n + 1) - ms r' p 1 = ms r p (n + 2) - ms r p 2 := by
  intro n
  induction n with
  | zero => intro _; show ms r' p 1 - ms r' p 1 = ms r p 2 - ms r p 2; omega
  | succ n ih =>
    intro h
    have h1 := ih (fun l a b => h l a (by omega))
    have h2 := h (n + 1) (by omega) (by omega)
    have e1 : ms r' p (n + 1 + 1) = ms r' p (n + 1) + (r' (p + 2 + 7 * (n + 1) + 1) + r' (p + 2 + 7 * (n + 1) + 2)) := rfl
    have e2 : ms r p (n + 1 + 2) = ms r p (n + 2) + (r (p + 2 + 7 * (n + 2) + 1) + r (p + 2 + 7 * (n + 2) + 2)) := rfl
    rw [h2.1, h2.2] at e1
    rw [show n + 1 + 1 = n + 2 by omega] at e1
    rw [show n + 1 + 1 = n + 2 by omega]
    omega
theorem dp_shift {r r' : Nat → Int} {p : Nat} : ∀ n : Nat, (∀ l, 1 ≤ l → l < n + 1 → r' (p + 2 + 7 * l + 3) = r (p + 2 + 7 * (l + 1) + 3)) → dp r' p (n + 1) - dp r' p 1 = dp r p (n + 2) - dp r p 2 := by
  intro n
  induction n with
  | zero => intro _; show dp r' p 1 - dp r' p 1 = dp r p 2 - dp r p 2; omega
  | succ n ih =>
    intro h
    have h1 := ih (fun l a b => h l a (by omega))
    have h2 := h (n + 1) (by omega) (by omega)
    have e1 : dp r' p (n + 1 + 1) = dp r' p (n + 1) + r' (p + 2 + 7 * (n + 1) + 3) := rfl
    have e2 : dp r p (n + 1 + 2) = dp r p (n + 2) + r (p + 2 + 7 * (n + 2) + 3) := rfl
    rw [h2] at e1
    rw [show n + 1 + 1 = n + 2 by omega] at e1
    rw [show n + 1 + 1 = n + 2 by omega]
    omega
/-- two lowest layers joined, the others one lower -/
theorem okS.join {r r' : Nat → Int} {p q q2 : Nat} {M E : Int} (h : okS r p M E) (hn : r p = 12) (hq : p + 2 = q) (hq2 : q + 7 = q2) (hp : r' p = 11) (hs : ∀ l, 1 ≤ l → l < 11 → ∀ f, f < 7 → r' (p + 2 + 7 * l + f) = r (p + 2 + 7 * (l + 1) + f)) (hl : ly r' q) (hm : r' (q + 1) + r' (q + 2) = r (q + 1) + r (q + 2) + (r (q2 + 1) + r (q2 + 2))) (hd : r' (q + 3) = r (q + 3) + r (q2 + 3)) : okS r' p M E := by
  subst hq
  subst hq2
  obtain ⟨n, h1, h2, h3, h4, h5⟩ := h.get
  have hn2 : n = 12 := by omega
  subst hn2
  have a1 := ms_shift (r := r) (r' := r') (p := p) 10 (fun l x y => ⟨hs l x (by omega) 1 (by omega), hs l x (by omega) 2 (by omega)⟩)
  have a2 := dp_shift (r := r) (r' := r') (p := p) 10 (fun l x y => hs l x (by omega) 3 (by omega))
  have e1 : ms r' p 1 = 0 + (r' (p + 2 + 7 * 0 + 1) + r' (p + 2 + 7 * 0 + 2)) := rfl
  have e2 : ms r p 2 = 0 + (r (p + 2 + 7 * 0 + 1) + r (p + 2 + 7 * 0 + 2)) + (r (p + 2 + 7 * 1 + 1) + r (p + 2 + 7 * 1 + 2)) := rfl
  have e3 : dp r' p 1 = 0 + r' (p + 2 + 7 * 0 + 3) := rfl
  have e4 : dp r p 2 = 0 + r (p + 2 + 7 * 0 + 3) + r (p + 2 + 7 * 1 + 3) := rfl
  rw [show p + 2 + 7 * 0 + 1 = p + 2 + 1 by omega, show p + 2 + 7 * 0 + 2 = p + 2 + 2 by omega] at e1 e2
  rw [show p + 2 + 7 * 1 + 1 = p + 2 + 7 + 1 by omega, show p + 2 + 7 * 1 + 2 = p + 2 + 7 + 2 by omega] at e2
  rw [show p + 2 + 7 * 0 + 3 = p + 2 + 3 by omega] at e3 e4
  rw [show p + 2 + 7 * 1 + 3 = p + 2 + 7 + 3 by omega] at e4
  have a1b : ms r' p 11 - ms r' p 1 = ms r p 12 - ms r p 2 := a1
  have a2b : dp r' p 11 - dp r' p 1 = dp r p 12 - dp r p 2 := a2
  refine okS.mk 11 hp (by omega) (fun l hl2 => ?_) (by omega) (by omega)
  by_cases e : l = 0
  · subst e; exact hl
  · have h9 := h3 (l + 1) (by omega)
    unfold ly at *
    have s0 := hs l (by omega) (by omega) 0 (by omega)
    rw [Nat.add_zero, Nat.add_zero] at s0
    rw [s0, hs l (by omega) (by omega) 1 (by omega), hs l (by omega) (by omega) 2 (by omega), hs l (by omega) (by omega) 3 (by omega), hs l (by omega) (by omega) 4 (by omega), hs l (by omega) (by omega) 6 (by omega)]
    exact h9
/-! ===== a row of numbers at b: its four slopes, by the time and x more ===== -/
def mB (t : Int) : Int := 2400 + 50 * t
def eB (t : Int) : Int := 12000 + 139000 * t
def okW (r : Nat → Int) (b : Nat) (x : Int) : Prop := (∀ s : Nat, s < 4 → okS r (b + 6 + 86 * s) (mB (r b + x)) (eB (r b + x))) ∧ (0 ≤ r b ∧ r b ≤ 2180) ∧ (0 ≤ r (b + 1) ∧ r (b + 1) ≤ 900 + 4 * (r b + x)) ∧ (0 ≤ r (b + 5) ∧ r (b + 5) ≤ 6)
theorem okW.mono {r : Nat → Int} {b : Nat} {x y : Int} (h : okW r b x) (hxy : x ≤ y) : okW r b y := ⟨fun s hs => (h.1 s hs).mono (by unfold mB; omega) (by unfold eB; omega), h.2.1, by have := h.2.2.1; omega, h.2.2.2⟩
theorem okW.ext {r r' : Nat → Int} {b b' : Nat} {x : Int} (he : ∀ k, k < 350 → r' (b' + k) = r (b + k)) (h : okW r b x) : okW r' b' x := by
  obtain ⟨h1, h2, h3, h4⟩ := h
  have e0 : r' b' = r b := he 0 (by omega)
  refine ⟨fun s hs => ?_, by rw [e0]; exact h2, by rw [he 1 (by omega), e0]; exact h3, by rw [he 5 (by omega)]; exact h4⟩
  rw [e0]
  obtain ⟨n, a1, a2, a3, a4, a5⟩ := (h1 s hs).get
  have hx : ∀ k, k < 86 → r' (b' + 6 + 86 * s + k) = r (b + 6 + 86 * s + k) := fun k hk => by
    rw [show b' + 6 + 86 * s + k = b' + (6 + 86 * s + k) by omega, show b + 6 + 86 * s + k = b + (6 + 86 * s + k) by omega]
    exact he _ (by omega)
  have hy : ∀ l f, l < 12 → f < 7 → r' (b' + 6 + 86 * s + 2 + 7 * l + f) = r (b + 6 + 86 * s + 2 + 7 * l + f) := fun l f hl hf => by
    rw [show b' + 6 + 86 * s + 2 + 7 * l + f = b' + 6 + 86 * s + (2 + 7 * l + f) by omega, show b + 6 + 86 * s + 2 + 7 * l + f = b + 6 + 86 * s + (2 + 7 * l + f) by omega]
    exact hx _ (by omega)
  have hms : ∀ m, m ≤ 12 → ms r' (b' + 6 + 86 * s) m = ms r (b + 6 + 86 * s) m := by
    intro m
    induction m with
    | zero => intro _; rfl
    | succ m ih =>
      intro hm
      show ms r' _ m + _ = ms r _ m + _
      rw [ih (by omega), hy m 1 (by omega) (by omega), hy m 2 (by omega) (by omega)]
  have hdp : ∀ m, m ≤ 12 → dp r' (b' + 6 + 86 * s) m = dp r (b + 6 + 86 * s) m := by
    intro m
    induction m with
    | zero => intro _; rfl
    | succ m ih =>
      intro hm
      show dp r' _ m + _ = dp r _ m + _
      rw [ih (by omega), hy m 3 (by omega) (by omega)]
  refine okS.mk n ((hx 0 (by omega)).trans a1) a2 (fun l hl => ?_) (by rw [hms n a2]; exact a4.1) (by rw [hdp n a2]; exact a5.1)
  have h9 := a3 l hl
  unfold ly at *
  have s0 := hy l 0 (by omega) (by omega)
  rw [Nat.add_zero, Nat.add_zero] at s0
  rw [s0, hy l 1 (by omega) (by omega), hy l 2 (by omega) (by omega), hy l 3 (by omega) (by omega), hy l 4 (by omega) (by omega), hy l 6 (by omega) (by omega)]
  exact h9
theorem ms_at {r : Nat → Int} {p k q : Nat} {l : Int} (hl : l = (k : Int)) (hq : p + 2 + 7 * k = q) : ms r p (l + 1).toNat = ms r p l.toNat + (r (q + 1) + r (q + 2)) := by
  subst hq
  rw [show (l + 1).toNat = k + 1 by omega, show l.toNat = k by omega]
  rfl
/-! ===== products and quotients ===== -/
theorem mulx {a x c h : Int} (ha : 0 ≤ a) (hx : a ≤ x) (hc : 0 ≤ c) (hh : x * c ≤ h) : ∃ y, a * c = y ∧ 0 ≤ y ∧ y ≤ h := ⟨_, rfl, Int.mul_nonneg ha hc, Int.le_trans (Int.mul_le_mul_of_nonneg_right hx hc) hh⟩
theorem mulb {a b A B : Int} (ha : 0 ≤ a ∧ a ≤ A) (hb : 0 ≤ b ∧ b ≤ B) : ∃ x, a * b = x ∧ 0 ≤ x ∧ x ≤ A * B := ⟨_, rfl, Int.mul_nonneg ha.1 hb.1, Int.mul_le_mul ha.2 hb.2 hb.1 (by omega)⟩
theorem muln {a b A B : Int} (ha : -A ≤ a ∧ a ≤ 0) (hb : 0 ≤ b ∧ b ≤ B) : ∃ x, a * b = x ∧ -(A * b) ≤ x ∧ x ≤ 0 := by
  refine ⟨_, rfl, ?_, ?_⟩
  · have h := Int.mul_le_mul_of_nonneg_right ha.1 hb.1
    rw [Int.neg_mul] at h
    exact h
  · have h := Int.mul_nonneg (show 0 ≤ -a by omega) hb.1
    rw [Int.neg_mul] at h
    omega
theorem tdp {a k : Int} (ha : 0 ≤ a) (hk : 1 ≤ k) : ∃ x, a.tdiv k = x ∧ 0 ≤ x ∧ x ≤ a ∧ x * k ≤ a := by
  refine ⟨_, rfl, Int.tdiv_nonneg ha (by omega), Int.tdiv_le_self k ha, ?_⟩
  rw [Int.tdiv_eq_ediv_of_nonneg ha]
  exact Int.ediv_mul_le a (show k ≠ 0 by omega)
theorem tdm {a k : Int} (ha : -(300 * k) ≤ a ∧ a ≤ 0) (hk : 1 ≤ k) : ∃ x, a.tdiv k = x ∧ -300 ≤ x ∧ x ≤ 0 := by
  obtain ⟨b, hb⟩ : ∃ b, a = -b := ⟨-a, by omega⟩
  subst hb
  refine ⟨_, rfl, ?_, ?_⟩
  · rw [Int.neg_tdiv, Int.tdiv_eq_ediv_of_nonneg (by omega)]
    have h := Int.ediv_le_of_le_mul (a := b) (b := 300) (c := k) (by omega) (by omega)
    omega
  · rw [Int.neg_tdiv, Int.tdiv_eq_ediv_of_nonneg (by omega)]
    have h := Int.ediv_nonneg (a := b) (b := k) (by omega) (by omega)
    omega
theorem tdk {a : Int} (k : Nat) (hk : 0 < k) : ∃ x, a.tdiv (k : Int) = x ∧ (0 ≤ a → 0 ≤ x ∧ (k : Int) * x ≤ a ∧ a < (k : Int) * x + (k : Int)) ∧ (a ≤ 0 → x ≤ 0 ∧ a ≤ (k : Int) * x ∧ (k : Int) * x < a + (k : Int)) := by
  have hk1 : (0 : Int) < (k : Int) := by omega
  have pos : ∀ a : Int, 0 ≤ a → 0 ≤ a.tdiv (k : Int) ∧ (k : Int) * a.tdiv (k : Int) ≤ a ∧ a < (k : Int) * a.tdiv (k : Int) + (k : Int) := by
    intro a ha
    rw [Int.tdiv_eq_ediv_of_nonneg ha]
    have h1 := Int.mul_ediv_add_emod a (k : Int)
    have h2 := Int.emod_nonneg a (show (k : Int) ≠ 0 by omega)
    have h3 := Int.emod_lt_of_pos a hk1
    exact ⟨Int.ediv_nonneg ha (by omega), by omega, by omega⟩
  refine ⟨_, rfl, pos a, fun h => ?_⟩
  obtain ⟨b, hb⟩ : ∃ b, a = -b := ⟨-a, by omega⟩
  subst hb
  obtain ⟨p1, p2, p3⟩ := pos b (by omega)
  rw [Int.neg_tdiv]
  rw [Int.mul_neg]
  omega
end
section
-- 72.words.lean.txt
-- words of refq
theorem q_1733 : (Jvm.Cond.methodLink "SnowRecorderModel" (121 : Nat) ({ cls := "SnowRecorderModel", name := "many", desc := "(II)I" } : Jvm.MethodName)) ∈ AW := AW_m8 53 (by decide +kernel) (by decide +kernel)
theorem q_1735 : (Jvm.Cond.instanceMethod ({ cls := "SnowRecorderModel", name := "many", desc := "(II)I" } : Jvm.MethodName)) ∈ AW := AW_m8 55 (by decide +kernel) (by decide +kernel)
theorem q_1736 : (Jvm.Cond.code ({ cls := "SnowRecorderModel", name := "many", desc := "(II)I" } : Jvm.MethodName) prog_12_method_11_code (3 : Nat) (Option.some Jvm.ClassFile.FieldType.int)) ∈ AW := AW_m8 56 (by decide +kernel) (by decide +kernel)
theorem q_1749 : (Jvm.Cond.methodLink "SnowRecorderModel" (117 : Nat) ({ cls := "SnowRecorderModel", name := "of", desc := "(IIII)I" } : Jvm.MethodName)) ∈ AW := AW_m8 69 (by decide +kernel) (by decide +kernel)
theorem q_1751 : (Jvm.Cond.instanceMethod ({ cls := "SnowRecorderModel", name := "of", desc := "(IIII)I" } : Jvm.MethodName)) ∈ AW := AW_m8 71 (by decide +kernel) (by decide +kernel)
theorem q_1752 : (Jvm.Cond.code ({ cls := "SnowRecorderModel", name := "of", desc := "(IIII)I" } : Jvm.MethodName) prog_12_method_14_code (5 : Nat) (Option.some Jvm.ClassFile.FieldType.int)) ∈ AW := AW_m8 72 (by decide +kernel) (by decide +kernel)
theorem q_1753 : (Jvm.Cond.methodLink "SnowRecorderModel" (113 : Nat) ({ cls := "SnowRecorderModel", name := "at", desc := "(III)I" } : Jvm.MethodName)) ∈ AW := AW_m8 73 (by decide +kernel) (by decide +kernel)
theorem q_1754 : (Jvm.Cond.static ({ cls := "SnowRecorderModel", name := "at", desc := "(III)I" } : Jvm.MethodName)) ∈ AW := AW_m8 74 (by decide +kernel) (by decide +kernel)
theorem q_1755 : (Jvm.Cond.code ({ cls := "SnowRecorderModel", name := "at", desc := "(III)I" } : Jvm.MethodName) prog_12_method_10_code (3 : Nat) (Option.some Jvm.ClassFile.FieldType.int)) ∈ AW := AW_m8 75 (by decide +kernel) (by decide +kernel)
theorem q_1760 : (Jvm.Cond.methodLink "SnowRecorderModel" (238 : Nat) ({ cls := "SnowRecorderModel", name := "leastRatio", desc := "(II)I" } : Jvm.MethodName)) ∈ AW := AW_m8 80 (by decide +kernel) (by decide +kernel)
theorem q_1762 : (Jvm.Cond.instanceMethod ({ cls := "SnowRecorderModel", name := "leastRatio", desc := "(II)I" } : Jvm.MethodName)) ∈ AW := AW_m8 82 (by decide +kernel) (by decide +kernel)
theorem q_1763 : (Jvm.Cond.code ({ cls := "SnowRecorderModel", name := "leastRatio", desc := "(II)I" } : Jvm.MethodName) prog_12_method_43_code (3 : Nat) (Option.some Jvm.ClassFile.FieldType.int)) ∈ AW := AW_m8 83 (by decide +kernel) (by decide +kernel)
theorem q_1764 : (Jvm.Cond.methodLink "SnowRecorderModel" (235 : Nat) ({ cls := "SnowRecorderModel", name := "leastRatioBy", desc := "(IIII)I" } : Jvm.MethodName)) ∈ AW := AW_m8 84 (by decide +kernel) (by decide +kernel)
theorem q_1766 : (Jvm.Cond.instanceMethod ({ cls := "SnowRecorderModel", name := "leastRatioBy", desc := "(IIII)I" } : Jvm.MethodName)) ∈ AW := AW_m8 86 (by decide +kernel) (by decide +kernel)
theorem q_1767 : (Jvm.Cond.code ({ cls := "SnowRecorderModel", name := "leastRatioBy", desc := "(IIII)I" } : Jvm.MethodName) prog_12_method_42_code (6 : Nat) (Option.some Jvm.ClassFile.FieldType.int)) ∈ AW := AW_m8 87 (by decide +kernel) (by decide +kernel)
theorem q_1768 : (Jvm.Cond.methodLink "SnowRecorderModel" (232 : Nat) ({ cls := "SnowRecorderModel", name := "weakestBy", desc := "(IIII)I" } : Jvm.MethodName)) ∈ AW := AW_m8 88 (by decide +kernel) (by decide +kernel)
theorem q_1770 : (Jvm.Cond.instanceMethod ({ cls := "SnowRecorderModel", name := "weakestBy", desc := "(IIII)I" } : Jvm.MethodName)) ∈ AW := AW_m8 90 (by decide +kernel) (by decide +kernel)
theorem q_1771 : (Jvm.Cond.code ({ cls := "SnowRecorderModel", name := "weakestBy", desc := "(IIII)I" } : Jvm.MethodName) prog_12_method_40_code (9 : Nat) (Option.some Jvm.ClassFile.FieldType.int)) ∈ AW := AW_m8 91 (by decide +kernel) (by decide +kernel)
theorem q_1772 : (Jvm.Cond.methodLink "SnowRecorderModel" (229 : Nat) ({ cls := "SnowRecorderModel", name := "ratio", desc := "(IIIII)I" } : Jvm.MethodName)) ∈ AW := AW_m8 92 (by decide +kernel) (by decide +kernel)
theorem q_1774 : (Jvm.Cond.instanceMethod ({ cls := "SnowRecorderModel", name := "ratio", desc := "(IIIII)I" } : Jvm.MethodName)) ∈ AW := AW_m8 94 (by decide +kernel) (by decide +kernel)
theorem q_1775 : (Jvm.Cond.code ({ cls := "SnowRecorderModel", name := "ratio", desc := "(IIIII)I" } : Jvm.MethodName) prog_12_method_39_code (7 : Nat) (Option.some Jvm.ClassFile.FieldType.int)) ∈ AW := AW_m8 95 (by decide +kernel) (by decide +kernel)
theorem q_1776 : (Jvm.Cond.methodLink "SnowRecorderModel" (222 : Nat) ({ cls := "SnowRecorderModel", name := "burden", desc := "(IIIII)I" } : Jvm.MethodName)) ∈ AW := AW_m8 96 (by decide +kernel) (by decide +kernel)
theorem q_1778 : (Jvm.Cond.instanceMethod ({ cls := "SnowRecorderModel", name := "burden", desc := "(IIIII)I" } : Jvm.MethodName)) ∈ AW := AW_m8 98 (by decide +kernel) (by decide +kernel)
theorem q_1779 : (Jvm.Cond.code ({ cls := "SnowRecorderModel", name := "burden", desc := "(IIIII)I" } : Jvm.MethodName) prog_12_method_38_code (6 : Nat) (Option.some Jvm.ClassFile.FieldType.int)) ∈ AW := AW_m8 99 (by decide +kernel) (by decide +kernel)
theorem q_1780 : (Jvm.Cond.methodLink "SnowRecorderModel" (180 : Nat) ({ cls := "SnowRecorderModel", name := "above", desc := "(III)I" } : Jvm.MethodName)) ∈ AW := AW_m8 100 (by decide +kernel) (by decide +kernel)
theorem q_1782 : (Jvm.Cond.instanceMethod ({ cls := "SnowRecorderModel", name := "above", desc := "(III)I" } : Jvm.MethodName)) ∈ AW := AW_m8 102 (by decide +kernel) (by decide +kernel)
theorem q_1783 : (Jvm.Cond.code ({ cls := "SnowRecorderModel", name := "above", desc := "(III)I" } : Jvm.MethodName) prog_12_method_17_code (6 : Nat) (Option.some Jvm.ClassFile.FieldType.int)) ∈ AW := AW_m8 103 (by decide +kernel) (by decide +kernel)
theorem q_1784 : (Jvm.Cond.methodLink "SnowRecorderModel" (125 : Nat) ({ cls := "SnowRecorderModel", name := "weight", desc := "(III)I" } : Jvm.MethodName)) ∈ AW := AW_m8 104 (by decide +kernel) (by decide +kernel)
theorem q_1786 : (Jvm.Cond.instanceMethod ({ cls := "SnowRecorderModel", name := "weight", desc := "(III)I" } : Jvm.MethodName)) ∈ AW := AW_m8 106 (by decide +kernel) (by decide +kernel)
theorem q_1787 : (Jvm.Cond.code ({ cls := "SnowRecorderModel", name := "weight", desc := "(III)I" } : Jvm.MethodName) prog_12_method_16_code (4 : Nat) (Option.some Jvm.ClassFile.FieldType.int)) ∈ AW := AW_m8 107 (by decide +kernel) (by decide +kernel)
theorem q_1788 : (Jvm.Cond.methodLink "SnowRecorderModel" (226 : Nat) ({ cls := "SnowRecorderModel", name := "strength", desc := "(III)I" } : Jvm.MethodName)) ∈ AW := AW_m8 108 (by decide +kernel) (by decide +kernel)
theorem q_1790 : (Jvm.Cond.instanceMethod ({ cls := "SnowRecorderModel", name := "strength", desc := "(III)I" } : Jvm.MethodName)) ∈ AW := AW_m8 110 (by decide +kernel) (by decide +kernel)
theorem q_1791 : (Jvm.Cond.code ({ cls := "SnowRecorderModel", name := "strength", desc := "(III)I" } : Jvm.MethodName) prog_12_method_37_code (5 : Nat) (Option.some Jvm.ClassFile.FieldType.int)) ∈ AW := AW_m8 111 (by decide +kernel) (by decide +kernel)
theorem q_1792 : (Jvm.Cond.methodLink "SnowRecorderModel" (143 : Nat) ({ cls := "SnowRecorderModel", name := "lesser", desc := "(II)I" } : Jvm.MethodName)) ∈ AW := AW_m8 112 (by decide +kernel) (by decide +kernel)
theorem q_1793 : (Jvm.Cond.static ({ cls := "SnowRecorderModel", name := "lesser", desc := "(II)I" } : Jvm.MethodName)) ∈ AW := AW_m8 113 (by decide +kernel) (by decide +kernel)
theorem q_1794 : (Jvm.Cond.code ({ cls := "SnowRecorderModel", name := "lesser", desc := "(II)I" } : Jvm.MethodName) prog_12_method_6_code (2 : Nat) (Option.some Jvm.ClassFile.FieldType.int)) ∈ AW := AW_m8 114 (by decide +kernel) (by decide +kernel)
theorem q_1835 : (Jvm.Cond.methodLink "SnowRecorderModel" (189 : Nat) ({ cls := "SnowRecorderModel", name := "grade", desc := "(IIII)I" } : Jvm.MethodName)) ∈ AW := AW_m8 155 (by decide +kernel) (by decide +kernel)
theorem q_1837 : (Jvm.Cond.instanceMethod ({ cls := "SnowRecorderModel", name := "grade", desc := "(IIII)I" } : Jvm.MethodName)) ∈ AW := AW_m8 157 (by decide +kernel) (by decide +kernel)
theorem q_1838 : (Jvm.Cond.code ({ cls := "SnowRecorderModel", name := "grade", desc := "(IIII)I" } : Jvm.MethodName) prog_12_method_32_code (7 : Nat) (Option.some Jvm.ClassFile.FieldType.int)) ∈ AW := AW_m8 158 (by decide +kernel) (by decide +kernel)
theorem q_1839 : (Jvm.Cond.methodLink "SnowRecorderModel" (186 : Nat) ({ cls := "SnowRecorderModel", name := "span", desc := "(I)I" } : Jvm.MethodName)) ∈ AW := AW_m8 159 (by decide +kernel) (by decide +kernel)
theorem q_1840 : (Jvm.Cond.static ({ cls := "SnowRecorderModel", name := "span", desc := "(I)I" } : Jvm.MethodName)) ∈ AW := AW_m8 160 (by decide +kernel) (by decide +kernel)
theorem q_1841 : (Jvm.Cond.code ({ cls := "SnowRecorderModel", name := "span", desc := "(I)I" } : Jvm.MethodName) prog_12_method_8_code (1 : Nat) (Option.some Jvm.ClassFile.FieldType.int)) ∈ AW := AW_m8 161 (by decide +kernel) (by decide +kernel)
theorem s_57 : Cond.selects "SnowRecorderModel" ({ cls := "SnowRecorderModel", name := "many", desc := "(II)I" } : Jvm.MethodName) ({ cls := "SnowRecorderModel", name := "many", desc := "(II)I" } : Jvm.MethodName) ∈ AW := AW_m 57 (by decide +kernel) (by decide +kernel)
theorem s_61 : Cond.selects "SnowRecorderModel" ({ cls := "SnowRecorderModel", name := "of", desc := "(IIII)I" } : Jvm.MethodName) ({ cls := "SnowRecorderModel", name := "of", desc := "(IIII)I" } : Jvm.MethodName) ∈ AW := AW_m 61 (by decide +kernel) (by decide +kernel)
theorem s_63 : Cond.selects "SnowRecorderModel" ({ cls := "SnowRecorderModel", name := "leastRatio", desc := "(II)I" } : Jvm.MethodName) ({ cls := "SnowRecorderModel", name := "leastRatio", desc := "(II)I" } : Jvm.MethodName) ∈ AW := AW_m 63 (by decide +kernel) (by decide +kernel)
theorem s_64 : Cond.selects "SnowRecorderModel" ({ cls := "SnowRecorderModel", name := "leastRatioBy", desc := "(IIII)I" } : Jvm.MethodName) ({ cls := "SnowRecorderModel", name := "leastRatioBy", desc := "(IIII)I" } : Jvm.MethodName) ∈ AW := AW_m 64 (by decide +kernel) (by decide +kernel)
theorem s_65 : Cond.selects "SnowRecorderModel" ({ cls := "SnowRecorderModel", name := "weakestBy", desc := "(IIII)I" } : Jvm.MethodName) ({ cls := "SnowRecorderModel", name := "weakestBy", desc := "(IIII)I" } : Jvm.MethodName) ∈ AW := AW_m 65 (by decide +kernel) (by decide +kernel)
theorem s_66 : Cond.selects "SnowRecorderModel" ({ cls := "SnowRecorderModel", name := "ratio", desc := "(IIIII)I" } : Jvm.MethodName) ({ cls := "SnowRecorderModel", name := "ratio", desc := "(IIIII)I" } : Jvm.MethodName) ∈ AW := AW_m 66 (by decide +kernel) (by decide +kernel)
theorem s_67 : Cond.selects "SnowRecorderModel" ({ cls := "SnowRecorderModel", name := "burden", desc := "(IIIII)I" } : Jvm.MethodName) ({ cls := "SnowRecorderModel", name := "burden", desc := "(IIIII)I" } : Jvm.MethodName) ∈ AW := AW_m 67 (by decide +kernel) (by decide +kernel)
theorem s_68 : Cond.selects "SnowRecorderModel" ({ cls := "SnowRecorderModel", name := "above", desc := "(III)I" } : Jvm.MethodName) ({ cls := "SnowRecorderModel", name := "above", desc := "(III)I" } : Jvm.MethodName) ∈ AW := AW_m 68 (by decide +kernel) (by decide +kernel)
theorem s_69 : Cond.selects "SnowRecorderModel" ({ cls := "SnowRecorderModel", name := "weight", desc := "(III)I" } : Jvm.MethodName) ({ cls := "SnowRecorderModel", name := "weight", desc := "(III)I" } : Jvm.MethodName) ∈ AW := AW_m 69 (by decide +kernel) (by decide +kernel)
theorem s_70 : Cond.selects "SnowRecorderModel" ({ cls := "SnowRecorderModel", name := "strength", desc := "(III)I" } : Jvm.MethodName) ({ cls := "SnowRecorderModel", name := "strength", desc := "(III)I" } : Jvm.MethodName) ∈ AW := AW_m 70 (by decide +kernel) (by decide +kernel)
theorem s_78 : Cond.selects "SnowRecorderModel" ({ cls := "SnowRecorderModel", name := "grade", desc := "(IIII)I" } : Jvm.MethodName) ({ cls := "SnowRecorderModel", name := "grade", desc := "(IIII)I" } : Jvm.MethodName) ∈ AW := AW_m 78 (by decide +kernel) (by decide +kernel)
theorem hd_yX10_at : yX10_at.cls ≠ "java/lang/invoke/MethodHandle" ∧ yX10_at.cls ≠ "java/lang/invoke/VarHandle" ∧ (parseMethodDescriptor yX10_at.desc).map (fun d => d.parameters.length) = some 3 := by decide +kernel
theorem hd_yX10_of : yX10_of.cls ≠ "java/lang/invoke/MethodHandle" ∧ yX10_of.cls ≠ "java/lang/invoke/VarHandle" ∧ (parseMethodDescriptor yX10_of.desc).map (fun d => d.parameters.length) = some 4 := by decide +kernel
theorem hd_yX10_many : yX10_many.cls ≠ "java/lang/invoke/MethodHandle" ∧ yX10_many.cls ≠ "java/lang/invoke/VarHandle" ∧ (parseMethodDescriptor yX10_many.desc).map (fun d => d.parameters.length) = some 2 := by decide +kernel
theorem hd_yX10_weight : yX10_weight.cls ≠ "java/lang/invoke/MethodHandle" ∧ yX10_weight.cls ≠ "java/lang/invoke/VarHandle" ∧ (parseMethodDescriptor yX10_weight.desc).map (fun d => d.parameters.length) = some 3 := by decide +kernel
theorem hd_yX10_above : yX10_above.cls ≠ "java/lang/invoke/MethodHandle" ∧ yX10_above.cls ≠ "java/lang/invoke/VarHandle" ∧ (parseMethodDescriptor yX10_above.desc).map (fun d => d.parameters.length) = some 3 := by decide +kernel
theorem hd_yX10_burden : yX10_burden.cls ≠ "java/lang/invoke/MethodHandle" ∧ yX10_burden.cls ≠ "java/lang/invoke/VarHandle" ∧ (parseMethodDescriptor yX10_burden.desc).map (fun d => d.parameters.length) = some 5 := by decide +kernel
theorem hd_yX10_strength : yX10_strength.cls ≠ "java/lang/invoke/MethodHandle" ∧ yX10_strength.cls ≠ "java/lang/invoke/VarHandle" ∧ (parseMethodDescriptor yX10_strength.desc).map (fun d => d.parameters.length) = some 3 := by decide +kernel
theorem hd_yX10_lesser : yX10_lesser.cls ≠ "java/lang/invoke/MethodHandle" ∧ yX10_lesser.cls ≠ "java/lang/invoke/VarHandle" ∧ (parseMethodDescriptor yX10_lesser.desc).map (fun d => d.parameters.length) = some 2 := by decide +kernel
theorem hd_yX10_ratio : yX10_ratio.cls ≠ "java/lang/invoke/MethodHandle" ∧ yX10_ratio.cls ≠ "java/lang/invoke/VarHandle" ∧ (parseMethodDescriptor yX10_ratio.desc).map (fun d => d.parameters.length) = some 5 := by decide +kernel
theorem hd_yX10_weakestBy : yX10_weakestBy.cls ≠ "java/lang/invoke/MethodHandle" ∧ yX10_weakestBy.cls ≠ "java/lang/invoke/VarHandle" ∧ (parseMethodDescriptor yX10_weakestBy.desc).map (fun d => d.parameters.length) = some 4 := by decide +kernel
theorem hd_yX10_leastRatioBy : yX10_leastRatioBy.cls ≠ "java/lang/invoke/MethodHandle" ∧ yX10_leastRatioBy.cls ≠ "java/lang/invoke/VarHandle" ∧ (parseMethodDescriptor yX10_leastRatioBy.desc).map (fun d => d.parameters.length) = some 4 := by decide +kernel
theorem hd_yX10_leastRatio : yX10_leastRatio.cls ≠ "java/lang/invoke/MethodHandle" ∧ yX10_leastRatio.cls ≠ "java/lang/invoke/VarHandle" ∧ (parseMethodDescriptor yX10_leastRatio.desc).map (fun d => d.parameters.length) = some 2 := by decide +kernel
theorem hd_yX10_span : yX10_span.cls ≠ "java/lang/invoke/MethodHandle" ∧ yX10_span.cls ≠ "java/lang/invoke/VarHandle" ∧ (parseMethodDescriptor yX10_span.desc).map (fun d => d.parameters.length) = some 1 := by decide +kernel
theorem hd_yX10_grade : yX10_grade.cls ≠ "java/lang/invoke/MethodHandle" ∧ yX10_grade.cls ≠ "java/lang/invoke/VarHandle" ∧ (parseMethodDescriptor yX10_grade.desc).map (fun d => d.parameters.length) = some 4 := by decide +kernel
theorem ms_yX10_at : zWs yX10_at cX10_at 3 (some .int) := ⟨q_1754, q_15, q_1755⟩
theorem mv_yX10_of : zWv yX10_of cX10_of 5 (some .int) := ⟨q_1751, s_61, q_15, q_1752⟩
theorem mv_yX10_many : zWv yX10_many cX10_many 3 (some .int) := ⟨q_1735, s_57, q_15, q_1736⟩
theorem mv_yX10_weight : zWv yX10_weight cX10_weight 4 (some .int) := ⟨q_1786, s_69, q_15, q_1787⟩
theorem mv_yX10_above : zWv yX10_above cX10_above 6 (some .int) := ⟨q_1782, s_68, q_15, q_1783⟩
theorem mv_yX10_burden : zWv yX10_burden cX10_burden 6 (some .int) := ⟨q_1778, s_67, q_15, q_1779⟩
theorem mv_yX10_strength : zWv yX10_strength cX10_strength 5 (some .int) := ⟨q_1790, s_70, q_15, q_1791⟩
theorem ms_yX10_lesser : zWs yX10_lesser cX10_lesser 2 (some .int) := ⟨q_1793, q_15, q_1794⟩
theorem mv_yX10_ratio : zWv yX10_ratio cX10_ratio 7 (some .int) := ⟨q_1774, s_66, q_15, q_1775⟩
theorem mv_yX10_weakestBy : zWv yX10_weakestBy cX10_weakestBy 9 (some .int) := ⟨q_1770, s_65, q_15, q_1771⟩
theorem mv_yX10_leastRatioBy : zWv yX10_leastRatioBy cX10_leastRatioBy 6 (some .int) := ⟨q_1766, s_64, q_15, q_1767⟩
theorem mv_yX10_leastRatio : zWv yX10_leastRatio cX10_leastRatio 3 (some .int) := ⟨q_1762, s_63, q_15, q_1763⟩
theorem ms_yX10_span : zWs yX10_span cX10_span 1 (some .int) := ⟨q_1840, q_15, q_1841⟩
theorem mv_yX10_grade : zWv yX10_grade cX10_grade 7 (some .int) := ⟨q_1837, s_78, q_15, q_1838⟩
end
section
-- 73.dec.lean.txt
-- decode rows of refq
theorem dX10_lesser_0 : decode cX10_lesser 0 = .ok (.iload_n 0, 1) := by decide +kernel
theorem dX10_lesser_1 : decode cX10_lesser 1 = .ok (.iload_n 1, 1) := by decide +kernel
theorem dX10_lesser_2 : decode cX10_lesser 2 = .ok (.if_icmp .ge 7, 3) := by decide +kernel
theorem dX10_lesser_9 : decode cX10_lesser 9 = .ok (.iload_n 1, 1) := by decide +kernel
theorem dX10_lesser_10 : decode cX10_lesser 10 = .ok (.ireturn, 1) := by decide +kernel
theorem dX10_lesser_5 : decode cX10_lesser 5 = .ok (.iload_n 0, 1) := by decide +kernel
theorem dX10_lesser_6 : decode cX10_lesser 6 = .ok (.goto 4, 3) := by decide +kernel
theorem dX10_greater_0 : decode cX10_greater 0 = .ok (.iload_n 0, 1) := by decide +kernel
theorem dX10_greater_1 : decode cX10_greater 1 = .ok (.iload_n 1, 1) := by decide +kernel
theorem dX10_greater_2 : decode cX10_greater 2 = .ok (.if_icmp .le 7, 3) := by decide +kernel
theorem dX10_greater_9 : decode cX10_greater 9 = .ok (.iload_n 1, 1) := by decide +kernel
theorem dX10_greater_10 : decode cX10_greater 10 = .ok (.ireturn, 1) := by decide +kernel
theorem dX10_greater_5 : decode cX10_greater 5 = .ok (.iload_n 0, 1) := by decide +kernel
theorem dX10_greater_6 : decode cX10_greater 6 = .ok (.goto 4, 3) := by decide +kernel
theorem dX10_within_0 : decode cX10_within 0 = .ok (.iload_n 0, 1) := by decide +kernel
theorem dX10_within_1 : decode cX10_within 1 = .ok (.iload_n 1, 1) := by decide +kernel
theorem dX10_within_2 : decode cX10_within 2 = .ok (.if_icmp .lt 12, 3) := by decide +kernel
theorem dX10_within_14 : decode cX10_within 14 = .ok (.iconst 0, 1) := by decide +kernel
theorem dX10_within_15 : decode cX10_within 15 = .ok (.ireturn, 1) := by decide +kernel
theorem dX10_within_5 : decode cX10_within 5 = .ok (.iload_n 0, 1) := by decide +kernel
theorem dX10_within_6 : decode cX10_within 6 = .ok (.iload_n 2, 1) := by decide +kernel
theorem dX10_within_7 : decode cX10_within 7 = .ok (.if_icmp .gt 7, 3) := by decide +kernel
theorem dX10_within_10 : decode cX10_within 10 = .ok (.iconst 1, 1) := by decide +kernel
theorem dX10_within_11 : decode cX10_within 11 = .ok (.goto 4, 3) := by decide +kernel
theorem dX10_span_0 : decode cX10_span 0 = .ok (.iload_n 0, 1) := by decide +kernel
theorem dX10_span_1 : decode cX10_span 1 = .ok (.ifCond .ge 8, 3) := by decide +kernel
theorem dX10_span_9 : decode cX10_span 9 = .ok (.iload_n 0, 1) := by decide +kernel
theorem dX10_span_10 : decode cX10_span 10 = .ok (.ireturn, 1) := by decide +kernel
theorem dX10_span_4 : decode cX10_span 4 = .ok (.iload_n 0, 1) := by decide +kernel
theorem dX10_span_5 : decode cX10_span 5 = .ok (.ineg, 1) := by decide +kernel
theorem dX10_span_6 : decode cX10_span 6 = .ok (.goto 4, 3) := by decide +kernel
theorem dX10_isLetter_0 : decode cX10_isLetter 0 = .ok (.iload_n 0, 1) := by decide +kernel
theorem dX10_isLetter_1 : decode cX10_isLetter 1 = .ok (.bipush 97, 2) := by decide +kernel
theorem dX10_isLetter_3 : decode cX10_isLetter 3 = .ok (.if_icmp .lt 13, 3) := by decide +kernel
theorem dX10_isLetter_16 : decode cX10_isLetter 16 = .ok (.iconst 0, 1) := by decide +kernel
theorem dX10_isLetter_17 : decode cX10_isLetter 17 = .ok (.ireturn, 1) := by decide +kernel
theorem dX10_isLetter_6 : decode cX10_isLetter 6 = .ok (.iload_n 0, 1) := by decide +kernel
theorem dX10_isLetter_7 : decode cX10_isLetter 7 = .ok (.bipush 122, 2) := by decide +kernel
theorem dX10_isLetter_9 : decode cX10_isLetter 9 = .ok (.if_icmp .gt 7, 3) := by decide +kernel
theorem dX10_isLetter_12 : decode cX10_isLetter 12 = .ok (.iconst 1, 1) := by decide +kernel
theorem dX10_isLetter_13 : decode cX10_isLetter 13 = .ok (.goto 4, 3) := by decide +kernel
theorem dX10_at_0 : decode cX10_at 0 = .ok (.iload_n 0, 1) := by decide +kernel
theorem dX10_at_1 : decode cX10_at 1 = .ok (.bipush 6, 2) := by decide +kernel
theorem dX10_at_3 : decode cX10_at 3 = .ok (.iadd, 1) := by decide +kernel
theorem dX10_at_4 : decode cX10_at 4 = .ok (.bipush 86, 2) := by decide +kernel
theorem dX10_at_6 : decode cX10_at 6 = .ok (.iload_n 1, 1) := by decide +kernel
theorem dX10_at_7 : decode cX10_at 7 = .ok (.imul, 1) := by decide +kernel
theorem dX10_at_8 : decode cX10_at 8 = .ok (.iadd, 1) := by decide +kernel
theorem dX10_at_9 : decode cX10_at 9 = .ok (.iconst 2, 1) := by decide +kernel
theorem dX10_at_10 : decode cX10_at 10 = .ok (.iadd, 1) := by decide +kernel
theorem dX10_at_11 : decode cX10_at 11 = .ok (.bipush 7, 2) := by decide +kernel
theorem dX10_at_13 : decode cX10_at 13 = .ok (.iload_n 2, 1) := by decide +kernel
theorem dX10_at_14 : decode cX10_at 14 = .ok (.imul, 1) := by decide +kernel
theorem dX10_at_15 : decode cX10_at 15 = .ok (.iadd, 1) := by decide +kernel
theorem dX10_at_16 : decode cX10_at 16 = .ok (.ireturn, 1) := by decide +kernel
theorem dX10_many_0 : decode cX10_many 0 = .ok (.aload_n 0, 1) := by decide +kernel
theorem dX10_many_1 : decode cX10_many 1 = .ok (.getfield 9, 3) := by decide +kernel
theorem dX10_many_4 : decode cX10_many 4 = .ok (.iload_n 1, 1) := by decide +kernel
theorem dX10_many_5 : decode cX10_many 5 = .ok (.bipush 6, 2) := by decide +kernel
theorem dX10_many_7 : decode cX10_many 7 = .ok (.iadd, 1) := by decide +kernel
theorem dX10_many_8 : decode cX10_many 8 = .ok (.bipush 86, 2) := by decide +kernel
theorem dX10_many_10 : decode cX10_many 10 = .ok (.iload_n 2, 1) := by decide +kernel
theorem dX10_many_11 : decode cX10_many 11 = .ok (.imul, 1) := by decide +kernel
theorem dX10_many_12 : decode cX10_many 12 = .ok (.iadd, 1) := by decide +kernel
theorem dX10_many_13 : decode cX10_many 13 = .ok (.iconst 0, 1) := by decide +kernel
theorem dX10_many_14 : decode cX10_many 14 = .ok (.iadd, 1) := by decide +kernel
theorem dX10_many_15 : decode cX10_many 15 = .ok (.iaload, 1) := by decide +kernel
theorem dX10_many_16 : decode cX10_many 16 = .ok (.ireturn, 1) := by decide +kernel
theorem dX10_setsMany_0 : decode cX10_setsMany 0 = .ok (.aload_n 0, 1) := by decide +kernel
theorem dX10_setsMany_1 : decode cX10_setsMany 1 = .ok (.getfield 9, 3) := by decide +kernel
theorem dX10_setsMany_4 : decode cX10_setsMany 4 = .ok (.iload_n 1, 1) := by decide +kernel
theorem dX10_setsMany_5 : decode cX10_setsMany 5 = .ok (.bipush 6, 2) := by decide +kernel
theorem dX10_setsMany_7 : decode cX10_setsMany 7 = .ok (.iadd, 1) := by decide +kernel
theorem dX10_setsMany_8 : decode cX10_setsMany 8 = .ok (.bipush 86, 2) := by decide +kernel
theorem dX10_setsMany_10 : decode cX10_setsMany 10 = .ok (.iload_n 2, 1) := by decide +kernel
theorem dX10_setsMany_11 : decode cX10_setsMany 11 = .ok (.imul, 1) := by decide +kernel
theorem dX10_setsMany_12 : decode cX10_setsMany 12 = .ok (.iadd, 1) := by decide +kernel
theorem dX10_setsMany_13 : decode cX10_setsMany 13 = .ok (.iconst 0, 1) := by decide +kernel
theorem dX10_setsMany_14 : decode cX10_setsMany 14 = .ok (.iadd, 1) := by decide +kernel
theorem dX10_setsMany_15 : decode cX10_setsMany 15 = .ok (.iload_n 3, 1) := by decide +kernel
theorem dX10_setsMany_16 : decode cX10_setsMany 16 = .ok (.iastore, 1) := by decide +kernel
theorem dX10_setsMany_17 : decode cX10_setsMany 17 = .ok (.return_, 1) := by decide +kernel
theorem dX10_runsOff_0 : decode cX10_runsOff 0 = .ok (.aload_n 0, 1) := by decide +kernel
theorem dX10_runsOff_1 : decode cX10_runsOff 1 = .ok (.getfield 9, 3) := by decide +kernel
theorem dX10_runsOff_4 : decode cX10_runsOff 4 = .ok (.iload_n 1, 1) := by decide +kernel
theorem dX10_runsOff_5 : decode cX10_runsOff 5 = .ok (.bipush 6, 2) := by decide +kernel
theorem dX10_runsOff_7 : decode cX10_runsOff 7 = .ok (.iadd, 1) := by decide +kernel
theorem dX10_runsOff_8 : decode cX10_runsOff 8 = .ok (.bipush 86, 2) := by decide +kernel
theorem dX10_runsOff_10 : decode cX10_runsOff 10 = .ok (.iload_n 2, 1) := by decide +kernel
theorem dX10_runsOff_11 : decode cX10_runsOff 11 = .ok (.imul, 1) := by decide +kernel
theorem dX10_runsOff_12 : decode cX10_runsOff 12 = .ok (.iadd, 1) := by decide +kernel
theorem dX10_runsOff_13 : decode cX10_runsOff 13 = .ok (.iconst 1, 1) := by decide +kernel
theorem dX10_runsOff_14 : decode cX10_runsOff 14 = .ok (.iadd, 1) := by decide +kernel
theorem dX10_runsOff_15 : decode cX10_runsOff 15 = .ok (.dup2, 1) := by decide +kernel
theorem dX10_runsOff_16 : decode cX10_runsOff 16 = .ok (.iaload, 1) := by decide +kernel
theorem dX10_runsOff_17 : decode cX10_runsOff 17 = .ok (.iload_n 3, 1) := by decide +kernel
theorem dX10_runsOff_18 : decode cX10_runsOff 18 = .ok (.iadd, 1) := by decide +kernel
theorem dX10_runsOff_19 : decode cX10_runsOff 19 = .ok (.iastore, 1) := by decide +kernel
theorem dX10_runsOff_20 : decode cX10_runsOff 20 = .ok (.return_, 1) := by decide +kernel
theorem dX10_of_0 : decode cX10_of 0 = .ok (.aload_n 0, 1) := by decide +kernel
theorem dX10_of_1 : decode cX10_of 1 = .ok (.getfield 9, 3) := by decide +kernel
theorem dX10_of_4 : decode cX10_of 4 = .ok (.iload_n 1, 1) := by decide +kernel
theorem dX10_of_5 : decode cX10_of 5 = .ok (.iload_n 2, 1) := by decide +kernel
theorem dX10_of_6 : decode cX10_of 6 = .ok (.iload_n 3, 1) := by decide +kernel
theorem dX10_of_7 : decode cX10_of 7 = .ok (.invokestatic 113, 3) := by decide +kernel
theorem dX10_of_10 : decode cX10_of 10 = .ok (.iload 4, 2) := by decide +kernel
theorem dX10_of_12 : decode cX10_of 12 = .ok (.iadd, 1) := by decide +kernel
theorem dX10_of_13 : decode cX10_of 13 = .ok (.iaload, 1) := by decide +kernel
theorem dX10_of_14 : decode cX10_of 14 = .ok (.ireturn, 1) := by decide +kernel
theorem dX10_sets_0 : decode cX10_sets 0 = .ok (.aload_n 0, 1) := by decide +kernel
theorem dX10_sets_1 : decode cX10_sets 1 = .ok (.getfield 9, 3) := by decide +kernel
theorem dX10_sets_4 : decode cX10_sets 4 = .ok (.iload_n 1, 1) := by decide +kernel
theorem dX10_sets_5 : decode cX10_sets 5 = .ok (.iload_n 2, 1) := by decide +kernel
theorem dX10_sets_6 : decode cX10_sets 6 = .ok (.iload_n 3, 1) := by decide +kernel
theorem dX10_sets_7 : decode cX10_sets 7 = .ok (.invokestatic 113, 3) := by decide +kernel
theorem dX10_sets_10 : decode cX10_sets 10 = .ok (.iload 4, 2) := by decide +kernel
theorem dX10_sets_12 : decode cX10_sets 12 = .ok (.iadd, 1) := by decide +kernel
theorem dX10_sets_13 : decode cX10_sets 13 = .ok (.iload 5, 2) := by decide +kernel
theorem dX10_sets_15 : decode cX10_sets 15 = .ok (.iastore, 1) := by decide +kernel
theorem dX10_sets_16 : decode cX10_sets 16 = .ok (.return_, 1) := by decide +kernel
theorem dX10_weight_0 : decode cX10_weight 0 = .ok (.aload_n 0, 1) := by decide +kernel
theorem dX10_weight_1 : decode cX10_weight 1 = .ok (.iload_n 1, 1) := by decide +kernel
theorem dX10_weight_2 : decode cX10_weight 2 = .ok (.iload_n 2, 1) := by decide +kernel
theorem dX10_weight_3 : decode cX10_weight 3 = .ok (.iload_n 3, 1) := by decide +kernel
theorem dX10_weight_4 : decode cX10_weight 4 = .ok (.iconst 1, 1) := by decide +kernel
theorem dX10_weight_5 : decode cX10_weight 5 = .ok (.invokevirtual 117, 3) := by decide +kernel
theorem dX10_weight_8 : decode cX10_weight 8 = .ok (.aload_n 0, 1) := by decide +kernel
theorem dX10_weight_9 : decode cX10_weight 9 = .ok (.iload_n 1, 1) := by decide +kernel
theorem dX10_weight_10 : decode cX10_weight 10 = .ok (.iload_n 2, 1) := by decide +kernel
theorem dX10_weight_11 : decode cX10_weight 11 = .ok (.iload_n 3, 1) := by decide +kernel
theorem dX10_weight_12 : decode cX10_weight 12 = .ok (.iconst 2, 1) := by decide +kernel
theorem dX10_weight_13 : decode cX10_weight 13 = .ok (.invokevirtual 117, 3) := by decide +kernel
theorem dX10_weight_16 : decode cX10_weight 16 = .ok (.iadd, 1) := by decide +kernel
theorem dX10_weight_17 : decode cX10_weight 17 = .ok (.ireturn, 1) := by decide +kernel
theorem dX10_above_8 : decode cX10_above 8 = .ok (.iload 5, 2) := by decide +kernel
theorem dX10_above_10 : decode cX10_above 10 = .ok (.aload_n 0, 1) := by decide +kernel
theorem dX10_above_11 : decode cX10_above 11 = .ok (.iload_n 1, 1) := by decide +kernel
theorem dX10_above_12 : decode cX10_above 12 = .ok (.iload_n 2, 1) := by decide +kernel
theorem dX10_above_13 : decode cX10_above 13 = .ok (.invokevirtual 121, 3) := by decide +kernel
theorem dX10_above_16 : decode cX10_above 16 = .ok (.if_icmp .ge 22, 3) := by decide +kernel
theorem dX10_above_38 : decode cX10_above 38 = .ok (.iload 4, 2) := by decide +kernel
theorem dX10_above_40 : decode cX10_above 40 = .ok (.ireturn, 1) := by decide +kernel
theorem dX10_above_19 : decode cX10_above 19 = .ok (.iload 4, 2) := by decide +kernel
theorem dX10_above_21 : decode cX10_above 21 = .ok (.aload_n 0, 1) := by decide +kernel
theorem dX10_above_22 : decode cX10_above 22 = .ok (.iload_n 1, 1) := by decide +kernel
theorem dX10_above_23 : decode cX10_above 23 = .ok (.iload_n 2, 1) := by decide +kernel
theorem dX10_above_24 : decode cX10_above 24 = .ok (.iload 5, 2) := by decide +kernel
theorem dX10_above_26 : decode cX10_above 26 = .ok (.invokevirtual 125, 3) := by decide +kernel
theorem dX10_above_29 : decode cX10_above 29 = .ok (.iadd, 1) := by decide +kernel
theorem dX10_above_30 : decode cX10_above 30 = .ok (.istore 4, 2) := by decide +kernel
theorem dX10_above_32 : decode cX10_above 32 = .ok (.iinc 5 1, 3) := by decide +kernel
theorem dX10_above_35 : decode cX10_above 35 = .ok (.goto (-27), 3) := by decide +kernel
theorem dX10_above_0 : decode cX10_above 0 = .ok (.iconst 0, 1) := by decide +kernel
theorem dX10_above_1 : decode cX10_above 1 = .ok (.istore 4, 2) := by decide +kernel
theorem dX10_above_3 : decode cX10_above 3 = .ok (.iload_n 3, 1) := by decide +kernel
theorem dX10_above_4 : decode cX10_above 4 = .ok (.iconst 1, 1) := by decide +kernel
theorem dX10_above_5 : decode cX10_above 5 = .ok (.iadd, 1) := by decide +kernel
theorem dX10_above_6 : decode cX10_above 6 = .ok (.istore 5, 2) := by decide +kernel
theorem dX10_sum_6 : decode cX10_sum 6 = .ok (.iload 5, 2) := by decide +kernel
theorem dX10_sum_8 : decode cX10_sum 8 = .ok (.aload_n 0, 1) := by decide +kernel
theorem dX10_sum_9 : decode cX10_sum 9 = .ok (.iload_n 1, 1) := by decide +kernel
theorem dX10_sum_10 : decode cX10_sum 10 = .ok (.iload_n 2, 1) := by decide +kernel
theorem dX10_sum_11 : decode cX10_sum 11 = .ok (.invokevirtual 121, 3) := by decide +kernel
theorem dX10_sum_14 : decode cX10_sum 14 = .ok (.if_icmp .ge 23, 3) := by decide +kernel
theorem dX10_sum_37 : decode cX10_sum 37 = .ok (.iload 4, 2) := by decide +kernel
theorem dX10_sum_39 : decode cX10_sum 39 = .ok (.ireturn, 1) := by decide +kernel
theorem dX10_sum_17 : decode cX10_sum 17 = .ok (.iload 4, 2) := by decide +kernel
theorem dX10_sum_19 : decode cX10_sum 19 = .ok (.aload_n 0, 1) := by decide +kernel
theorem dX10_sum_20 : decode cX10_sum 20 = .ok (.iload_n 1, 1) := by decide +kernel
theorem dX10_sum_21 : decode cX10_sum 21 = .ok (.iload_n 2, 1) := by decide +kernel
theorem dX10_sum_22 : decode cX10_sum 22 = .ok (.iload 5, 2) := by decide +kernel
theorem dX10_sum_24 : decode cX10_sum 24 = .ok (.iload_n 3, 1) := by decide +kernel
theorem dX10_sum_25 : decode cX10_sum 25 = .ok (.invokevirtual 117, 3) := by decide +kernel
theorem dX10_sum_28 : decode cX10_sum 28 = .ok (.iadd, 1) := by decide +kernel
theorem dX10_sum_29 : decode cX10_sum 29 = .ok (.istore 4, 2) := by decide +kernel
theorem dX10_sum_31 : decode cX10_sum 31 = .ok (.iinc 5 1, 3) := by decide +kernel
theorem dX10_sum_34 : decode cX10_sum 34 = .ok (.goto (-28), 3) := by decide +kernel
theorem dX10_sum_0 : decode cX10_sum 0 = .ok (.iconst 0, 1) := by decide +kernel
theorem dX10_sum_1 : decode cX10_sum 1 = .ok (.istore 4, 2) := by decide +kernel
theorem dX10_sum_3 : decode cX10_sum 3 = .ok (.iconst 0, 1) := by decide +kernel
theorem dX10_sum_4 : decode cX10_sum 4 = .ok (.istore 5, 2) := by decide +kernel
theorem dX10_strength_0 : decode cX10_strength 0 = .ok (.aload_n 0, 1) := by decide +kernel
theorem dX10_strength_1 : decode cX10_strength 1 = .ok (.getfield 28, 3) := by decide +kernel
theorem dX10_strength_4 : decode cX10_strength 4 = .ok (.aload_n 0, 1) := by decide +kernel
theorem dX10_strength_5 : decode cX10_strength 5 = .ok (.iload_n 1, 1) := by decide +kernel
theorem dX10_strength_6 : decode cX10_strength 6 = .ok (.iload_n 2, 1) := by decide +kernel
theorem dX10_strength_7 : decode cX10_strength 7 = .ok (.iload_n 3, 1) := by decide +kernel
theorem dX10_strength_8 : decode cX10_strength 8 = .ok (.iconst 0, 1) := by decide +kernel
theorem dX10_strength_9 : decode cX10_strength 9 = .ok (.invokevirtual 117, 3) := by decide +kernel
theorem dX10_strength_12 : decode cX10_strength 12 = .ok (.iaload, 1) := by decide +kernel
theorem dX10_strength_13 : decode cX10_strength 13 = .ok (.aload_n 0, 1) := by decide +kernel
theorem dX10_strength_14 : decode cX10_strength 14 = .ok (.iload_n 1, 1) := by decide +kernel
theorem dX10_strength_15 : decode cX10_strength 15 = .ok (.iload_n 2, 1) := by decide +kernel
theorem dX10_strength_16 : decode cX10_strength 16 = .ok (.iload_n 3, 1) := by decide +kernel
theorem dX10_strength_17 : decode cX10_strength 17 = .ok (.invokevirtual 125, 3) := by decide +kernel
theorem dX10_strength_20 : decode cX10_strength 20 = .ok (.imul, 1) := by decide +kernel
theorem dX10_strength_21 : decode cX10_strength 21 = .ok (.bipush 10, 2) := by decide +kernel
theorem dX10_strength_23 : decode cX10_strength 23 = .ok (.imul, 1) := by decide +kernel
theorem dX10_strength_24 : decode cX10_strength 24 = .ok (.aload_n 0, 1) := by decide +kernel
theorem dX10_strength_25 : decode cX10_strength 25 = .ok (.iload_n 1, 1) := by decide +kernel
theorem dX10_strength_26 : decode cX10_strength 26 = .ok (.iload_n 2, 1) := by decide +kernel
theorem dX10_strength_27 : decode cX10_strength 27 = .ok (.iload_n 3, 1) := by decide +kernel
theorem dX10_strength_28 : decode cX10_strength 28 = .ok (.iconst 3, 1) := by decide +kernel
theorem dX10_strength_29 : decode cX10_strength 29 = .ok (.invokevirtual 117, 3) := by decide +kernel
theorem dX10_strength_32 : decode cX10_strength 32 = .ok (.idiv, 1) := by decide +kernel
theorem dX10_strength_33 : decode cX10_strength 33 = .ok (.istore 4, 2) := by decide +kernel
theorem dX10_strength_35 : decode cX10_strength 35 = .ok (.aload_n 0, 1) := by decide +kernel
theorem dX10_strength_36 : decode cX10_strength 36 = .ok (.iload_n 1, 1) := by decide +kernel
theorem dX10_strength_37 : decode cX10_strength 37 = .ok (.iload_n 2, 1) := by decide +kernel
theorem dX10_strength_38 : decode cX10_strength 38 = .ok (.iload_n 3, 1) := by decide +kernel
theorem dX10_strength_39 : decode cX10_strength 39 = .ok (.iconst 2, 1) := by decide +kernel
theorem dX10_strength_40 : decode cX10_strength 40 = .ok (.invokevirtual 117, 3) := by decide +kernel
theorem dX10_strength_43 : decode cX10_strength 43 = .ok (.bipush 100, 2) := by decide +kernel
theorem dX10_strength_45 : decode cX10_strength 45 = .ok (.imul, 1) := by decide +kernel
theorem dX10_strength_46 : decode cX10_strength 46 = .ok (.iconst 3, 1) := by decide +kernel
theorem dX10_strength_47 : decode cX10_strength 47 = .ok (.aload_n 0, 1) := by decide +kernel
theorem dX10_strength_48 : decode cX10_strength 48 = .ok (.iload_n 1, 1) := by decide +kernel
theorem dX10_strength_49 : decode cX10_strength 49 = .ok (.iload_n 2, 1) := by decide +kernel
theorem dX10_strength_50 : decode cX10_strength 50 = .ok (.iload_n 3, 1) := by decide +kernel
theorem dX10_strength_51 : decode cX10_strength 51 = .ok (.iconst 1, 1) := by decide +kernel
theorem dX10_strength_52 : decode cX10_strength 52 = .ok (.invokevirtual 117, 3) := by decide +kernel
theorem dX10_strength_55 : decode cX10_strength 55 = .ok (.imul, 1) := by decide +kernel
theorem dX10_strength_56 : decode cX10_strength 56 = .ok (.if_icmp .lt 10, 3) := by decide +kernel
theorem dX10_strength_66 : decode cX10_strength 66 = .ok (.iload 4, 2) := by decide +kernel
theorem dX10_strength_68 : decode cX10_strength 68 = .ok (.ireturn, 1) := by decide +kernel
theorem dX10_strength_59 : decode cX10_strength 59 = .ok (.iload 4, 2) := by decide +kernel
theorem dX10_strength_61 : decode cX10_strength 61 = .ok (.iconst 2, 1) := by decide +kernel
theorem dX10_strength_62 : decode cX10_strength 62 = .ok (.idiv, 1) := by decide +kernel
theorem dX10_strength_63 : decode cX10_strength 63 = .ok (.goto 5, 3) := by decide +kernel
theorem dX10_burden_0 : decode cX10_burden 0 = .ok (.aload_n 0, 1) := by decide +kernel
theorem dX10_burden_1 : decode cX10_burden 1 = .ok (.iload_n 1, 1) := by decide +kernel
theorem dX10_burden_2 : decode cX10_burden 2 = .ok (.iload_n 2, 1) := by decide +kernel
theorem dX10_burden_3 : decode cX10_burden 3 = .ok (.iload_n 3, 1) := by decide +kernel
theorem dX10_burden_4 : decode cX10_burden 4 = .ok (.invokevirtual 180, 3) := by decide +kernel
theorem dX10_burden_7 : decode cX10_burden 7 = .ok (.iload 4, 2) := by decide +kernel
theorem dX10_burden_9 : decode cX10_burden 9 = .ok (.iadd, 1) := by decide +kernel
theorem dX10_burden_10 : decode cX10_burden 10 = .ok (.iload 5, 2) := by decide +kernel
theorem dX10_burden_12 : decode cX10_burden 12 = .ok (.imul, 1) := by decide +kernel
theorem dX10_burden_13 : decode cX10_burden 13 = .ok (.bipush 100, 2) := by decide +kernel
theorem dX10_burden_15 : decode cX10_burden 15 = .ok (.idiv, 1) := by decide +kernel
theorem dX10_burden_16 : decode cX10_burden 16 = .ok (.ireturn, 1) := by decide +kernel
theorem dX10_ratio_0 : decode cX10_ratio 0 = .ok (.aload_n 0, 1) := by decide +kernel
theorem dX10_ratio_1 : decode cX10_ratio 1 = .ok (.iload_n 1, 1) := by decide +kernel
theorem dX10_ratio_2 : decode cX10_ratio 2 = .ok (.iload_n 2, 1) := by decide +kernel
theorem dX10_ratio_3 : decode cX10_ratio 3 = .ok (.iload_n 3, 1) := by decide +kernel
theorem dX10_ratio_4 : decode cX10_ratio 4 = .ok (.iload 4, 2) := by decide +kernel
theorem dX10_ratio_6 : decode cX10_ratio 6 = .ok (.iload 5, 2) := by decide +kernel
theorem dX10_ratio_8 : decode cX10_ratio 8 = .ok (.invokevirtual 222, 3) := by decide +kernel
theorem dX10_ratio_11 : decode cX10_ratio 11 = .ok (.istore 6, 2) := by decide +kernel
theorem dX10_ratio_13 : decode cX10_ratio 13 = .ok (.iload 6, 2) := by decide +kernel
theorem dX10_ratio_15 : decode cX10_ratio 15 = .ok (.ifCond .ne 9, 3) := by decide +kernel
theorem dX10_ratio_24 : decode cX10_ratio 24 = .ok (.sipush 9999, 3) := by decide +kernel
theorem dX10_ratio_27 : decode cX10_ratio 27 = .ok (.bipush 100, 2) := by decide +kernel
theorem dX10_ratio_29 : decode cX10_ratio 29 = .ok (.aload_n 0, 1) := by decide +kernel
theorem dX10_ratio_30 : decode cX10_ratio 30 = .ok (.iload_n 1, 1) := by decide +kernel
theorem dX10_ratio_31 : decode cX10_ratio 31 = .ok (.iload_n 2, 1) := by decide +kernel
theorem dX10_ratio_32 : decode cX10_ratio 32 = .ok (.iload_n 3, 1) := by decide +kernel
theorem dX10_ratio_33 : decode cX10_ratio 33 = .ok (.invokevirtual 226, 3) := by decide +kernel
theorem dX10_ratio_36 : decode cX10_ratio 36 = .ok (.imul, 1) := by decide +kernel
theorem dX10_ratio_37 : decode cX10_ratio 37 = .ok (.iload 6, 2) := by decide +kernel
theorem dX10_ratio_39 : decode cX10_ratio 39 = .ok (.idiv, 1) := by decide +kernel
theorem dX10_ratio_40 : decode cX10_ratio 40 = .ok (.invokestatic 143, 3) := by decide +kernel
theorem dX10_ratio_43 : decode cX10_ratio 43 = .ok (.ireturn, 1) := by decide +kernel
theorem dX10_ratio_18 : decode cX10_ratio 18 = .ok (.sipush 9999, 3) := by decide +kernel
theorem dX10_ratio_21 : decode cX10_ratio 21 = .ok (.goto 22, 3) := by decide +kernel
theorem dX10_weakestBy_11 : decode cX10_weakestBy 11 = .ok (.iload 7, 2) := by decide +kernel
theorem dX10_weakestBy_13 : decode cX10_weakestBy 13 = .ok (.aload_n 0, 1) := by decide +kernel
theorem dX10_weakestBy_14 : decode cX10_weakestBy 14 = .ok (.iload_n 1, 1) := by decide +kernel
theorem dX10_weakestBy_15 : decode cX10_weakestBy 15 = .ok (.iload_n 2, 1) := by decide +kernel
theorem dX10_weakestBy_16 : decode cX10_weakestBy 16 = .ok (.invokevirtual 121, 3) := by decide +kernel
theorem dX10_weakestBy_19 : decode cX10_weakestBy 19 = .ok (.if_icmp .ge 40, 3) := by decide +kernel
theorem dX10_weakestBy_59 : decode cX10_weakestBy 59 = .ok (.iload 5, 2) := by decide +kernel
theorem dX10_weakestBy_61 : decode cX10_weakestBy 61 = .ok (.ireturn, 1) := by decide +kernel
theorem dX10_weakestBy_22 : decode cX10_weakestBy 22 = .ok (.aload_n 0, 1) := by decide +kernel
theorem dX10_weakestBy_23 : decode cX10_weakestBy 23 = .ok (.iload_n 1, 1) := by decide +kernel
theorem dX10_weakestBy_24 : decode cX10_weakestBy 24 = .ok (.iload_n 2, 1) := by decide +kernel
theorem dX10_weakestBy_25 : decode cX10_weakestBy 25 = .ok (.iload 7, 2) := by decide +kernel
theorem dX10_weakestBy_27 : decode cX10_weakestBy 27 = .ok (.iload_n 3, 1) := by decide +kernel
theorem dX10_weakestBy_28 : decode cX10_weakestBy 28 = .ok (.iload 4, 2) := by decide +kernel
theorem dX10_weakestBy_30 : decode cX10_weakestBy 30 = .ok (.invokevirtual 229, 3) := by decide +kernel
theorem dX10_weakestBy_33 : decode cX10_weakestBy 33 = .ok (.istore 8, 2) := by decide +kernel
theorem dX10_weakestBy_35 : decode cX10_weakestBy 35 = .ok (.iload 8, 2) := by decide +kernel
theorem dX10_weakestBy_37 : decode cX10_weakestBy 37 = .ok (.iload 6, 2) := by decide +kernel
theorem dX10_weakestBy_39 : decode cX10_weakestBy 39 = .ok (.if_icmp .lt 6, 3) := by decide +kernel
theorem dX10_weakestBy_45 : decode cX10_weakestBy 45 = .ok (.iload 7, 2) := by decide +kernel
theorem dX10_weakestBy_47 : decode cX10_weakestBy 47 = .ok (.istore 5, 2) := by decide +kernel
theorem dX10_weakestBy_49 : decode cX10_weakestBy 49 = .ok (.iload 8, 2) := by decide +kernel
theorem dX10_weakestBy_51 : decode cX10_weakestBy 51 = .ok (.istore 6, 2) := by decide +kernel
theorem dX10_weakestBy_53 : decode cX10_weakestBy 53 = .ok (.iinc 7 1, 3) := by decide +kernel
theorem dX10_weakestBy_56 : decode cX10_weakestBy 56 = .ok (.goto (-45), 3) := by decide +kernel
theorem dX10_weakestBy_42 : decode cX10_weakestBy 42 = .ok (.goto 11, 3) := by decide +kernel
theorem dX10_weakestBy_0 : decode cX10_weakestBy 0 = .ok (.iconst (-1), 1) := by decide +kernel
theorem dX10_weakestBy_1 : decode cX10_weakestBy 1 = .ok (.istore 5, 2) := by decide +kernel
theorem dX10_weakestBy_3 : decode cX10_weakestBy 3 = .ok (.sipush 10000, 3) := by decide +kernel
theorem dX10_weakestBy_6 : decode cX10_weakestBy 6 = .ok (.istore 6, 2) := by decide +kernel
theorem dX10_weakestBy_8 : decode cX10_weakestBy 8 = .ok (.iconst 0, 1) := by decide +kernel
theorem dX10_weakestBy_9 : decode cX10_weakestBy 9 = .ok (.istore 7, 2) := by decide +kernel
theorem dX10_leastRatioBy_0 : decode cX10_leastRatioBy 0 = .ok (.aload_n 0, 1) := by decide +kernel
theorem dX10_leastRatioBy_1 : decode cX10_leastRatioBy 1 = .ok (.iload_n 1, 1) := by decide +kernel
theorem dX10_leastRatioBy_2 : decode cX10_leastRatioBy 2 = .ok (.iload_n 2, 1) := by decide +kernel
theorem dX10_leastRatioBy_3 : decode cX10_leastRatioBy 3 = .ok (.iload_n 3, 1) := by decide +kernel
theorem dX10_leastRatioBy_4 : decode cX10_leastRatioBy 4 = .ok (.iload 4, 2) := by decide +kernel
theorem dX10_leastRatioBy_6 : decode cX10_leastRatioBy 6 = .ok (.invokevirtual 232, 3) := by decide +kernel
theorem dX10_leastRatioBy_9 : decode cX10_leastRatioBy 9 = .ok (.istore 5, 2) := by decide +kernel
theorem dX10_leastRatioBy_11 : decode cX10_leastRatioBy 11 = .ok (.iload 5, 2) := by decide +kernel
theorem dX10_leastRatioBy_13 : decode cX10_leastRatioBy 13 = .ok (.iconst (-1), 1) := by decide +kernel
theorem dX10_leastRatioBy_14 : decode cX10_leastRatioBy 14 = .ok (.if_icmp .ne 9, 3) := by decide +kernel
theorem dX10_leastRatioBy_23 : decode cX10_leastRatioBy 23 = .ok (.aload_n 0, 1) := by decide +kernel
theorem dX10_leastRatioBy_24 : decode cX10_leastRatioBy 24 = .ok (.iload_n 1, 1) := by decide +kernel
theorem dX10_leastRatioBy_25 : decode cX10_leastRatioBy 25 = .ok (.iload_n 2, 1) := by decide +kernel
theorem dX10_leastRatioBy_26 : decode cX10_leastRatioBy 26 = .ok (.iload 5, 2) := by decide +kernel
theorem dX10_leastRatioBy_28 : decode cX10_leastRatioBy 28 = .ok (.iload_n 3, 1) := by decide +kernel
theorem dX10_leastRatioBy_29 : decode cX10_leastRatioBy 29 = .ok (.iload 4, 2) := by decide +kernel
theorem dX10_leastRatioBy_31 : decode cX10_leastRatioBy 31 = .ok (.invokevirtual 229, 3) := by decide +kernel
theorem dX10_leastRatioBy_34 : decode cX10_leastRatioBy 34 = .ok (.ireturn, 1) := by decide +kernel
theorem dX10_leastRatioBy_17 : decode cX10_leastRatioBy 17 = .ok (.sipush 9999, 3) := by decide +kernel
theorem dX10_leastRatioBy_20 : decode cX10_leastRatioBy 20 = .ok (.goto 14, 3) := by decide +kernel
theorem dX10_weakest_0 : decode cX10_weakest 0 = .ok (.aload_n 0, 1) := by decide +kernel
theorem dX10_weakest_1 : decode cX10_weakest 1 = .ok (.iload_n 1, 1) := by decide +kernel
theorem dX10_weakest_2 : decode cX10_weakest 2 = .ok (.iload_n 2, 1) := by decide +kernel
theorem dX10_weakest_3 : decode cX10_weakest 3 = .ok (.iconst 0, 1) := by decide +kernel
theorem dX10_weakest_4 : decode cX10_weakest 4 = .ok (.aload_n 0, 1) := by decide +kernel
theorem dX10_weakest_5 : decode cX10_weakest 5 = .ok (.getfield 13, 3) := by decide +kernel
theorem dX10_weakest_8 : decode cX10_weakest 8 = .ok (.iload_n 2, 1) := by decide +kernel
theorem dX10_weakest_9 : decode cX10_weakest 9 = .ok (.iaload, 1) := by decide +kernel
theorem dX10_weakest_10 : decode cX10_weakest 10 = .ok (.invokevirtual 232, 3) := by decide +kernel
theorem dX10_weakest_13 : decode cX10_weakest 13 = .ok (.ireturn, 1) := by decide +kernel
theorem dX10_leastRatio_0 : decode cX10_leastRatio 0 = .ok (.aload_n 0, 1) := by decide +kernel
theorem dX10_leastRatio_1 : decode cX10_leastRatio 1 = .ok (.iload_n 1, 1) := by decide +kernel
theorem dX10_leastRatio_2 : decode cX10_leastRatio 2 = .ok (.iload_n 2, 1) := by decide +kernel
theorem dX10_leastRatio_3 : decode cX10_leastRatio 3 = .ok (.iconst 0, 1) := by decide +kernel
theorem dX10_leastRatio_4 : decode cX10_leastRatio 4 = .ok (.aload_n 0, 1) := by decide +kernel
theorem dX10_leastRatio_5 : decode cX10_leastRatio 5 = .ok (.getfield 13, 3) := by decide +kernel
theorem dX10_leastRatio_8 : decode cX10_leastRatio 8 = .ok (.iload_n 2, 1) := by decide +kernel
theorem dX10_leastRatio_9 : decode cX10_leastRatio 9 = .ok (.iaload, 1) := by decide +kernel
theorem dX10_leastRatio_10 : decode cX10_leastRatio 10 = .ok (.invokevirtual 235, 3) := by decide +kernel
theorem dX10_leastRatio_13 : decode cX10_leastRatio 13 = .ok (.ireturn, 1) := by decide +kernel
theorem dX10_isUnstable_0 : decode cX10_isUnstable 0 = .ok (.aload_n 0, 1) := by decide +kernel
theorem dX10_isUnstable_1 : decode cX10_isUnstable 1 = .ok (.iload_n 1, 1) := by decide +kernel
theorem dX10_isUnstable_2 : decode cX10_isUnstable 2 = .ok (.iload_n 2, 1) := by decide +kernel
theorem dX10_isUnstable_3 : decode cX10_isUnstable 3 = .ok (.invokevirtual 238, 3) := by decide +kernel
theorem dX10_isUnstable_6 : decode cX10_isUnstable 6 = .ok (.bipush 100, 2) := by decide +kernel
theorem dX10_isUnstable_8 : decode cX10_isUnstable 8 = .ok (.if_icmp .ge 7, 3) := by decide +kernel
theorem dX10_isUnstable_15 : decode cX10_isUnstable 15 = .ok (.iconst 0, 1) := by decide +kernel
theorem dX10_isUnstable_16 : decode cX10_isUnstable 16 = .ok (.ireturn, 1) := by decide +kernel
theorem dX10_isUnstable_11 : decode cX10_isUnstable 11 = .ok (.iconst 1, 1) := by decide +kernel
theorem dX10_isUnstable_12 : decode cX10_isUnstable 12 = .ok (.goto 4, 3) := by decide +kernel
theorem dX10_grade_0 : decode cX10_grade 0 = .ok (.iload_n 3, 1) := by decide +kernel
theorem dX10_grade_1 : decode cX10_grade 1 = .ok (.aload_n 0, 1) := by decide +kernel
theorem dX10_grade_2 : decode cX10_grade 2 = .ok (.iload_n 1, 1) := by decide +kernel
theorem dX10_grade_3 : decode cX10_grade 3 = .ok (.iload_n 2, 1) := by decide +kernel
theorem dX10_grade_4 : decode cX10_grade 4 = .ok (.invokevirtual 121, 3) := by decide +kernel
theorem dX10_grade_7 : decode cX10_grade 7 = .ok (.iconst 1, 1) := by decide +kernel
theorem dX10_grade_8 : decode cX10_grade 8 = .ok (.isub, 1) := by decide +kernel
theorem dX10_grade_9 : decode cX10_grade 9 = .ok (.if_icmp .ne 12, 3) := by decide +kernel
theorem dX10_grade_21 : decode cX10_grade 21 = .ok (.aload_n 0, 1) := by decide +kernel
theorem dX10_grade_22 : decode cX10_grade 22 = .ok (.iload_n 1, 1) := by decide +kernel
theorem dX10_grade_23 : decode cX10_grade 23 = .ok (.iload_n 2, 1) := by decide +kernel
theorem dX10_grade_24 : decode cX10_grade 24 = .ok (.iload_n 3, 1) := by decide +kernel
theorem dX10_grade_25 : decode cX10_grade 25 = .ok (.iconst 1, 1) := by decide +kernel
theorem dX10_grade_26 : decode cX10_grade 26 = .ok (.iadd, 1) := by decide +kernel
theorem dX10_grade_27 : decode cX10_grade 27 = .ok (.iconst 4, 1) := by decide +kernel
theorem dX10_grade_28 : decode cX10_grade 28 = .ok (.invokevirtual 117, 3) := by decide +kernel
theorem dX10_grade_31 : decode cX10_grade 31 = .ok (.istore 5, 2) := by decide +kernel
theorem dX10_grade_33 : decode cX10_grade 33 = .ok (.iload_n 3, 1) := by decide +kernel
theorem dX10_grade_34 : decode cX10_grade 34 = .ok (.ifCond .ne 7, 3) := by decide +kernel
theorem dX10_grade_41 : decode cX10_grade 41 = .ok (.aload_n 0, 1) := by decide +kernel
theorem dX10_grade_42 : decode cX10_grade 42 = .ok (.iload_n 1, 1) := by decide +kernel
theorem dX10_grade_43 : decode cX10_grade 43 = .ok (.iload_n 2, 1) := by decide +kernel
theorem dX10_grade_44 : decode cX10_grade 44 = .ok (.iload_n 3, 1) := by decide +kernel
theorem dX10_grade_45 : decode cX10_grade 45 = .ok (.iconst 1, 1) := by decide +kernel
theorem dX10_grade_46 : decode cX10_grade 46 = .ok (.isub, 1) := by decide +kernel
theorem dX10_grade_47 : decode cX10_grade 47 = .ok (.iconst 4, 1) := by decide +kernel
theorem dX10_grade_48 : decode cX10_grade 48 = .ok (.invokevirtual 117, 3) := by decide +kernel
theorem dX10_grade_51 : decode cX10_grade 51 = .ok (.istore 6, 2) := by decide +kernel
theorem dX10_grade_53 : decode cX10_grade 53 = .ok (.iload 5, 2) := by decide +kernel
theorem dX10_grade_55 : decode cX10_grade 55 = .ok (.iload 6, 2) := by decide +kernel
theorem dX10_grade_57 : decode cX10_grade 57 = .ok (.isub, 1) := by decide +kernel
theorem dX10_grade_58 : decode cX10_grade 58 = .ok (.invokestatic 186, 3) := by decide +kernel
theorem dX10_grade_61 : decode cX10_grade 61 = .ok (.bipush 10, 2) := by decide +kernel
theorem dX10_grade_63 : decode cX10_grade 63 = .ok (.imul, 1) := by decide +kernel
theorem dX10_grade_64 : decode cX10_grade 64 = .ok (.aload_n 0, 1) := by decide +kernel
theorem dX10_grade_65 : decode cX10_grade 65 = .ok (.iload_n 1, 1) := by decide +kernel
theorem dX10_grade_66 : decode cX10_grade 66 = .ok (.iload_n 2, 1) := by decide +kernel
theorem dX10_grade_67 : decode cX10_grade 67 = .ok (.iload_n 3, 1) := by decide +kernel
theorem dX10_grade_68 : decode cX10_grade 68 = .ok (.iconst 3, 1) := by decide +kernel
theorem dX10_grade_69 : decode cX10_grade 69 = .ok (.invokevirtual 117, 3) := by decide +kernel
theorem dX10_grade_72 : decode cX10_grade 72 = .ok (.idiv, 1) := by decide +kernel
theorem dX10_grade_73 : decode cX10_grade 73 = .ok (.ireturn, 1) := by decide +kernel
theorem dX10_grade_37 : decode cX10_grade 37 = .ok (.iconst 0, 1) := by decide +kernel
theorem dX10_grade_38 : decode cX10_grade 38 = .ok (.goto 13, 3) := by decide +kernel
theorem dX10_grade_12 : decode cX10_grade 12 = .ok (.iload 4, 2) := by decide +kernel
theorem dX10_grade_14 : decode cX10_grade 14 = .ok (.iconst 0, 1) := by decide +kernel
theorem dX10_grade_15 : decode cX10_grade 15 = .ok (.invokestatic 143, 3) := by decide +kernel
theorem dX10_grade_18 : decode cX10_grade 18 = .ok (.goto 13, 3) := by decide +kernel
theorem dX10_kindThen_0 : decode cX10_kindThen 0 = .ok (.aload_n 0, 1) := by decide +kernel
theorem dX10_kindThen_1 : decode cX10_kindThen 1 = .ok (.iload_n 1, 1) := by decide +kernel
theorem dX10_kindThen_2 : decode cX10_kindThen 2 = .ok (.iload_n 2, 1) := by decide +kernel
theorem dX10_kindThen_3 : decode cX10_kindThen 3 = .ok (.iload_n 3, 1) := by decide +kernel
theorem dX10_kindThen_4 : decode cX10_kindThen 4 = .ok (.iconst 0, 1) := by decide +kernel
theorem dX10_kindThen_5 : decode cX10_kindThen 5 = .ok (.invokevirtual 117, 3) := by decide +kernel
theorem dX10_kindThen_8 : decode cX10_kindThen 8 = .ok (.istore 5, 2) := by decide +kernel
theorem dX10_kindThen_10 : decode cX10_kindThen 10 = .ok (.iload 5, 2) := by decide +kernel
theorem dX10_kindThen_12 : decode cX10_kindThen 12 = .ok (.iconst 3, 1) := by decide +kernel
theorem dX10_kindThen_13 : decode cX10_kindThen 13 = .ok (.if_icmp .ne 6, 3) := by decide +kernel
theorem dX10_kindThen_19 : decode cX10_kindThen 19 = .ok (.aload_n 0, 1) := by decide +kernel
theorem dX10_kindThen_20 : decode cX10_kindThen 20 = .ok (.iload_n 1, 1) := by decide +kernel
theorem dX10_kindThen_21 : decode cX10_kindThen 21 = .ok (.iload_n 2, 1) := by decide +kernel
theorem dX10_kindThen_22 : decode cX10_kindThen 22 = .ok (.iload_n 3, 1) := by decide +kernel
theorem dX10_kindThen_23 : decode cX10_kindThen 23 = .ok (.iconst 2, 1) := by decide +kernel
theorem dX10_kindThen_24 : decode cX10_kindThen 24 = .ok (.invokevirtual 117, 3) := by decide +kernel
theorem dX10_kindThen_27 : decode cX10_kindThen 27 = .ok (.ifCond .le 5, 3) := by decide +kernel
theorem dX10_kindThen_32 : decode cX10_kindThen 32 = .ok (.iload 5, 2) := by decide +kernel
theorem dX10_kindThen_34 : decode cX10_kindThen 34 = .ok (.iconst 4, 1) := by decide +kernel
theorem dX10_kindThen_35 : decode cX10_kindThen 35 = .ok (.if_icmp .ne 6, 3) := by decide +kernel
theorem dX10_kindThen_41 : decode cX10_kindThen 41 = .ok (.aload_n 0, 1) := by decide +kernel
theorem dX10_kindThen_42 : decode cX10_kindThen 42 = .ok (.iload_n 1, 1) := by decide +kernel
theorem dX10_kindThen_43 : decode cX10_kindThen 43 = .ok (.iload_n 2, 1) := by decide +kernel
theorem dX10_kindThen_44 : decode cX10_kindThen 44 = .ok (.iload_n 3, 1) := by decide +kernel
theorem dX10_kindThen_45 : decode cX10_kindThen 45 = .ok (.iload 4, 2) := by decide +kernel
theorem dX10_kindThen_47 : decode cX10_kindThen 47 = .ok (.invokevirtual 189, 3) := by decide +kernel
theorem dX10_kindThen_50 : decode cX10_kindThen 50 = .ok (.bipush 20, 2) := by decide +kernel
theorem dX10_kindThen_52 : decode cX10_kindThen 52 = .ok (.if_icmp .lt 5, 3) := by decide +kernel
theorem dX10_kindThen_57 : decode cX10_kindThen 57 = .ok (.aload_n 0, 1) := by decide +kernel
theorem dX10_kindThen_58 : decode cX10_kindThen 58 = .ok (.iload_n 1, 1) := by decide +kernel
theorem dX10_kindThen_59 : decode cX10_kindThen 59 = .ok (.iload_n 2, 1) := by decide +kernel
theorem dX10_kindThen_60 : decode cX10_kindThen 60 = .ok (.iload_n 3, 1) := by decide +kernel
theorem dX10_kindThen_61 : decode cX10_kindThen 61 = .ok (.iconst 5, 1) := by decide +kernel
theorem dX10_kindThen_62 : decode cX10_kindThen 62 = .ok (.invokevirtual 117, 3) := by decide +kernel
theorem dX10_kindThen_65 : decode cX10_kindThen 65 = .ok (.bipush 24, 2) := by decide +kernel
theorem dX10_kindThen_67 : decode cX10_kindThen 67 = .ok (.if_icmp .lt 7, 3) := by decide +kernel
theorem dX10_kindThen_74 : decode cX10_kindThen 74 = .ok (.iload 5, 2) := by decide +kernel
theorem dX10_kindThen_76 : decode cX10_kindThen 76 = .ok (.ireturn, 1) := by decide +kernel
theorem dX10_kindThen_70 : decode cX10_kindThen 70 = .ok (.iconst 1, 1) := by decide +kernel
theorem dX10_kindThen_71 : decode cX10_kindThen 71 = .ok (.goto 5, 3) := by decide +kernel
theorem dX10_kindThen_55 : decode cX10_kindThen 55 = .ok (.iconst 2, 1) := by decide +kernel
theorem dX10_kindThen_56 : decode cX10_kindThen 56 = .ok (.ireturn, 1) := by decide +kernel
theorem dX10_kindThen_38 : decode cX10_kindThen 38 = .ok (.iload 5, 2) := by decide +kernel
theorem dX10_kindThen_40 : decode cX10_kindThen 40 = .ok (.ireturn, 1) := by decide +kernel
theorem dX10_kindThen_30 : decode cX10_kindThen 30 = .ok (.iconst 1, 1) := by decide +kernel
theorem dX10_kindThen_31 : decode cX10_kindThen 31 = .ok (.ireturn, 1) := by decide +kernel
theorem dX10_kindThen_16 : decode cX10_kindThen 16 = .ok (.iload 5, 2) := by decide +kernel
theorem dX10_kindThen_18 : decode cX10_kindThen 18 = .ok (.ireturn, 1) := by decide +kernel
end
section
-- 74.refq.lean.txt
theorem fv {F : Nat → Int} {f : Nat} {z : Int} (h : F f = z) : some (Value.int (zI (F f))) = some (Value.int (zI z)) := by rw [h]
theorem fn {F : Nat → Int} {f k : Nat} {z v : Int} (h : F f = z) (hn : f ≠ k) : uZ F k v f = z := (uZ_n F v hn).trans h
theorem tmd {a k : Int} (ha : 0 ≤ a) (hk : 1 ≤ k) : ∃ x, a.tmod k = x ∧ 0 ≤ x ∧ x < k := by
  refine ⟨_, rfl, ?_⟩
  rw [Int.tmod_eq_emod_of_nonneg ha]
  exact ⟨Int.emod_nonneg a (by omega), Int.emod_lt_of_pos a (by omega)⟩

set_option maxRecDepth 100000 in
set_option maxHeartbeats 4000000 in
theorem c_X10_lesser (l : Launch) (D : va_G) (A : Nat → Prop) (cs : Nat → ClassId) (tt : Nat) (N : Nat) (ad : Nat → Nat) (g : Nat → va_E) (z : Int) (hz : -2147483648 ≤ z ∧ z ≤ 2147483647) (z1 : Int) (hz1 : -2147483648 ≤ z1 ∧ z1 ≤ 2147483647) : zM l yX10_lesser cX10_lesser 2 (some .int) ({ frames := 1, cells := 0, slots := 0, locals := 60 } : Room) D A cs tt N ad g [.int (zI (z)), .int (zI (z1))] (rI0 N ad fun r g' => ((r = z ∧ z < z1) ∨ (r = z1 ∧ z1 ≤ z)) ∧ g = g') := by
  refine z_of (by decide) (Nat.le_of_ble_eq_true rfl) ?_
  intro pZ eZ sZ mZ below meth cZ C hr hlk hnm
  refine z_lv (lv' := [(0, .int (zI (z))), (1, .int (zI (z1)))]) [0, 1] rfl ?_
  refine z_iload_n C 0 dX10_lesser_0 rfl ?_
  refine z_iload_n C 1 dX10_lesser_1 rfl ?_
  refine z_icmp_ge (tgt := 9) C dX10_lesser_2 (by decide) (by omega) (by omega) (fun hby1 => ?_) (fun hby1 => ?_)
  · refine z_iload_n C 1 dX10_lesser_9 rfl ?_
    exact z_iret C hr hlk dX10_lesser_10 (by decide) (by decide) ⟨z1, rfl, rfl, rfl, by omega, rfl⟩
  · refine z_iload_n C 0 dX10_lesser_5 rfl ?_
    refine z_goto (tgt := 10) C dX10_lesser_6 (by decide) ?_
    exact z_iret C hr hlk dX10_lesser_10 (by decide) (by decide) ⟨z, rfl, rfl, rfl, by omega, rfl⟩

set_option maxRecDepth 100000 in
set_option maxHeartbeats 4000000 in
theorem c_X10_greater (l : Launch) (D : va_G) (A : Nat → Prop) (cs : Nat → ClassId) (tt : Nat) (N : Nat) (ad : Nat → Nat) (g : Nat → va_E) (z : Int) (hz : -2147483648 ≤ z ∧ z ≤ 2147483647) (z1 : Int) (hz1 : -2147483648 ≤ z1 ∧ z1 ≤ 2147483647) : zM l yX10_greater cX10_greater 2 (some .int) ({ frames := 1, cells := 0, slots := 0, locals := 60 } : Room) D A cs tt N ad g [.int (zI (z)), .int (zI (z1))] (rI0 N ad fun r g' => ((r = z ∧ z1 < z) ∨ (r = z1 ∧ z ≤ z1)) ∧ g = g') := by
  refine z_of (by decide) (Nat.le_of_ble_eq_true rfl) ?_
  intro pZ eZ sZ mZ below meth cZ C hr hlk hnm
  refine z_lv (lv' := [(0, .int (zI (z))), (1, .int (zI (z1)))]) [0, 1] rfl ?_
  refine z_iload_n C 0 dX10_greater_0 rfl ?_
  refine z_iload_n C 1 dX10_greater_1 rfl ?_
  refine z_icmp_le (tgt := 9) C dX10_greater_2 (by decide) (by omega) (by omega) (fun hby1 => ?_) (fun hby1 => ?_)
  · refine z_iload_n C 1 dX10_greater_9 rfl ?_
    exact z_iret C hr hlk dX10_greater_10 (by decide) (by decide) ⟨z1, rfl, rfl, rfl, by omega, rfl⟩
  · refine z_iload_n C 0 dX10_greater_5 rfl ?_
    refine z_goto (tgt := 10) C dX10_greater_6 (by decide) ?_
    exact z_iret C hr hlk dX10_greater_10 (by decide) (by decide) ⟨z, rfl, rfl, rfl, by omega, rfl⟩

set_option maxRecDepth 100000 in
set_option maxHeartbeats 4000000 in
theorem c_X10_within (l : Launch) (D : va_G) (A : Nat → Prop) (cs : Nat → ClassId) (tt : Nat) (N : Nat) (ad : Nat → Nat) (g : Nat → va_E) (z : Int) (hz : -2147483648 ≤ z ∧ z ≤ 2147483647) (z1 : Int) (hz1 : -2147483648 ≤ z1 ∧ z1 ≤ 2147483647) (z2 : Int) (hz2 : -2147483648 ≤ z2 ∧ z2 ≤ 2147483647) : zM l yX10_within cX10_within 3 (some .boolean) ({ frames := 1, cells := 0, slots := 0, locals := 60 } : Room) D A cs tt N ad g [.int (zI (z)), .int (zI (z1)), .int (zI (z2))] (rI0 N ad fun r g' => ((r = 1 ∧ z1 ≤ z ∧ z ≤ z2) ∨ (r = 0 ∧ (z < z1 ∨ z2 < z))) ∧ g = g') := by
  refine z_of (by decide) (Nat.le_of_ble_eq_true rfl) ?_
  intro pZ eZ sZ mZ below meth cZ C hr hlk hnm
  refine z_lv (lv' := [(0, .int (zI (z))), (1, .int (zI (z1))), (2, .int (zI (z2)))]) [0, 1, 2] rfl ?_
  refine z_iload_n C 0 dX10_within_0 rfl ?_
  refine z_iload_n C 1 dX10_within_1 rfl ?_
  refine z_icmp_lt (tgt := 14) C dX10_within_2 (by decide) (by omega) (by omega) (fun hby1 => ?_) (fun hby1 => ?_)
  · refine z_iconst (z := 0) C dX10_within_14 rfl ?_
    exact z_zret C hr hlk dX10_within_15 (by decide) (by decide) (by decide) ⟨0, rfl, rfl, rfl, by omega, rfl⟩
  · refine z_iload_n C 0 dX10_within_5 rfl ?_
    refine z_iload_n C 2 dX10_within_6 rfl ?_
    refine z_icmp_gt (tgt := 14) C dX10_within_7 (by decide) (by omega) (by omega) (fun hby2 => ?_) (fun hby2 => ?_)
    · refine z_iconst (z := 0) C dX10_within_14 rfl ?_
      exact z_zret C hr hlk dX10_within_15 (by decide) (by decide) (by decide) ⟨0, rfl, rfl, rfl, by omega, rfl⟩
    · refine z_iconst (z := 1) C dX10_within_10 rfl ?_
      refine z_goto (tgt := 15) C dX10_within_11 (by decide) ?_
      exact z_zret C hr hlk dX10_within_15 (by decide) (by decide) (by decide) ⟨1, rfl, rfl, rfl, by omega, rfl⟩

set_option maxRecDepth 100000 in
set_option maxHeartbeats 4000000 in
theorem c_X10_span (l : Launch) (D : va_G) (A : Nat → Prop) (cs : Nat → ClassId) (tt : Nat) (N : Nat) (ad : Nat → Nat) (g : Nat → va_E) (z : Int) (hz : -2147483648 ≤ z ∧ z ≤ 2147483647) : zM l yX10_span cX10_span 1 (some .int) ({ frames := 1, cells := 0, slots := 0, locals := 60 } : Room) D A cs tt N ad g [.int (zI (z))] (rI0 N ad fun r g' => (-2147483648 ≤ r ∧ r ≤ 2147483647) ∧ g = g') := by
  refine z_of (by decide) (Nat.le_of_ble_eq_true rfl) ?_
  intro pZ eZ sZ mZ below meth cZ C hr hlk hnm
  refine z_lv (lv' := [(0, .int (zI (z)))]) [0] rfl ?_
  refine z_iload_n C 0 dX10_span_0 rfl ?_
  refine z_if_ge (tgt := 9) C dX10_span_1 (by decide) (by omega) (fun hby1 => ?_) (fun hby1 => ?_)
  · refine z_iload_n C 0 dX10_span_9 rfl ?_
    exact z_iret C hr hlk dX10_span_10 (by decide) (by decide) ⟨z, rfl, rfl, rfl, by omega, rfl⟩
  · refine z_iload_n C 0 dX10_span_4 rfl ?_
    refine z_ineg C dX10_span_5 ?_
    refine z_goto (tgt := 10) C dX10_span_6 (by decide) ?_
    obtain ⟨xy2, exy3, hxy4⟩ := zI_of (zI (-(z)))
    rw [exy3]
    exact z_iret C hr hlk dX10_span_10 (by decide) (by decide) ⟨xy2, rfl, rfl, rfl, by omega, rfl⟩

set_option maxRecDepth 100000 in
set_option maxHeartbeats 4000000 in
theorem c_X10_isLetter (l : Launch) (D : va_G) (A : Nat → Prop) (cs : Nat → ClassId) (tt : Nat) (N : Nat) (ad : Nat → Nat) (g : Nat → va_E) (z : Int) (hz : -2147483648 ≤ z ∧ z ≤ 2147483647) : zM l yX10_isLetter cX10_isLetter 1 (some .boolean) ({ frames := 1, cells := 0, slots := 0, locals := 60 } : Room) D A cs tt N ad g [.int (zI (z))] (rI0 N ad fun r g' => ((r = 1 ∧ 97 ≤ z ∧ z ≤ 122) ∨ (r = 0 ∧ (z < 97 ∨ 122 < z))) ∧ g = g') := by
  refine z_of (by decide) (Nat.le_of_ble_eq_true rfl) ?_
  intro pZ eZ sZ mZ below meth cZ C hr hlk hnm
  refine z_lv (lv' := [(0, .int (zI (z)))]) [0] rfl ?_
  refine z_iload_n C 0 dX10_isLetter_0 rfl ?_
  refine z_bipush (z := 97) C dX10_isLetter_1 (by decide) ?_
  refine z_icmp_lt (tgt := 16) C dX10_isLetter_3 (by decide) (by omega) (by omega) (fun hby1 => ?_) (fun hby1 => ?_)
  · refine z_iconst (z := 0) C dX10_isLetter_16 rfl ?_
    exact z_zret C hr hlk dX10_isLetter_17 (by decide) (by decide) (by decide) ⟨0, rfl, rfl, rfl, by omega, rfl⟩
  · refine z_iload_n C 0 dX10_isLetter_6 rfl ?_
    refine z_bipush (z := 122) C dX10_isLetter_7 (by decide) ?_
    refine z_icmp_gt (tgt := 16) C dX10_isLetter_9 (by decide) (by omega) (by omega) (fun hby2 => ?_) (fun hby2 => ?_)
    · refine z_iconst (z := 0) C dX10_isLetter_16 rfl ?_
      exact z_zret C hr hlk dX10_isLetter_17 (by decide) (by decide) (by decide) ⟨0, rfl, rfl, rfl, by omega, rfl⟩
    · refine z_iconst (z := 1) C dX10_isLetter_12 rfl ?_
      refine z_goto (tgt := 17) C dX10_isLetter_13 (by decide) ?_
      exact z_zret C hr hlk dX10_isLetter_17 (by decide) (by decide) (by decide) ⟨1, rfl, rfl, rfl, by omega, rfl⟩

set_option maxRecDepth 100000 in
set_option maxHeartbeats 4000000 in
theorem c_X10_at (l : Launch) (D : va_G) (A : Nat → Prop) (cs : Nat → ClassId) (tt : Nat) (N : Nat) (ad : Nat → Nat) (g : Nat → va_E) (z : Int) (hz : 0 ≤ z ∧ z ≤ 29000) (z1 : Int) (hz1 : 0 ≤ z1 ∧ z1 ≤ 3) (z2 : Int) (hz2 : 0 ≤ z2 ∧ z2 ≤ 12) : zM l yX10_at cX10_at 3 (some .int) ({ frames := 1, cells := 0, slots := 0, locals := 60 } : Room) D A cs tt N ad g [.int (zI (z)), .int (zI (z1)), .int (zI (z2))] (rI0 N ad fun r g' => r = z + 6 + 86 * z1 + 2 + 7 * z2 ∧ g = g') := by
  refine z_of (by decide) (Nat.le_of_ble_eq_true rfl) ?_
  intro pZ eZ sZ mZ below meth cZ C hr hlk hnm
  refine z_lv (lv' := [(0, .int (zI (z))), (1, .int (zI (z1))), (2, .int (zI (z2)))]) [0, 1, 2] rfl ?_
  refine z_iload_n C 0 dX10_at_0 rfl ?_
  refine z_bipush (z := 6) C dX10_at_1 (by decide) ?_
  refine z_iadd C dX10_at_3 ?_
  refine z_bipush (z := 86) C dX10_at_4 (by decide) ?_
  refine z_iload_n C 1 dX10_at_6 rfl ?_
  refine z_imul C dX10_at_7 ?_
  refine z_iadd C dX10_at_8 ?_
  refine z_iconst (z := 2) C dX10_at_9 rfl ?_
  refine z_iadd C dX10_at_10 ?_
  refine z_bipush (z := 7) C dX10_at_11 (by decide) ?_
  refine z_iload_n C 2 dX10_at_13 rfl ?_
  refine z_imul C dX10_at_14 ?_
  refine z_iadd C dX10_at_15 ?_
  exact z_iret C hr hlk dX10_at_16 (by decide) (by decide) ⟨(((z + 6) + (86 * z1)) + 2) + (7 * z2), rfl, rfl, rfl, by omega, rfl⟩

set_option maxRecDepth 100000 in
set_option maxHeartbeats 4000000 in
theorem c_X10_many (l : Launch) (D : va_G) (A : Nat → Prop) (cs : Nat → ClassId) (tt : Nat) (N : Nat) (ad : Nat → Nat) (g : Nat → va_E) (i : Nat) (hN : i + 30 ≤ N) (F : Nat → Int) (hg : g i = mC ad i F) (r : Nat → Int) (ha1 : g (i + 1) = iA cs 29200 r) (b s p : Nat) (hp : b + 6 + 86 * s = p) (hb : b + 350 ≤ 29200) (hs : s < 4) : zM l yX10_many cX10_many 3 (some .int) ({ frames := 1, cells := 0, slots := 0, locals := 60 } : Room) D A cs tt N ad g [.ref (ad i), .int (zI ((b : Int))), .int (zI ((s : Int)))] (rI0 N ad fun z g' => z = r p ∧ g = g') := by
  have hay1 : zAt ad (i) (ad i) := rfl
  have hay2 : zAt ad (i + 1) (ad (i + 1)) := rfl
  refine z_of (by decide) (Nat.le_of_ble_eq_true rfl) ?_
  intro pZ eZ sZ mZ below meth cZ C hr hlk hnm
  refine z_lv (lv' := [(0, .ref (ad i)), (1, .int (zI ((b : Int)))), (2, .int (zI ((s : Int))))]) [0, 1, 2] rfl ?_
  refine z_aload_n C 0 dX10_many_0 rfl ?_
  refine z_get (v := .ref (ad (i + 1))) C (lt_A0 hN rfl) hay1 hg rfl inA_X10 0 (by decide) q_1459 rfl rfl dX10_many_1 ?_
  refine z_iload_n C 1 dX10_many_4 rfl ?_
  refine z_bipush (z := 6) C dX10_many_5 (by decide) ?_
  refine z_iadd C dX10_many_7 ?_
  refine z_bipush (z := 86) C dX10_many_8 (by decide) ?_
  refine z_iload_n C 2 dX10_many_10 rfl ?_
  refine z_imul C dX10_many_11 ?_
  refine z_iadd C dX10_many_12 ?_
  refine z_iconst (z := 0) C dX10_many_13 rfl ?_
  refine z_iadd C dX10_many_14 ?_
  refine z_iald C (lt_A (c := 1) hN rfl) hay2 ha1 (p) (by omega) (by omega) (by decide) dX10_many_15 ?_
  exact z_iret C hr hlk dX10_many_16 (by decide) (by decide) ⟨_, rfl, rfl, rfl, rfl, rfl⟩

set_option maxRecDepth 100000 in
set_option maxHeartbeats 4000000 in
theorem c_X10_setsMany (l : Launch) (D : va_G) (A : Nat → Prop) (cs : Nat → ClassId) (tt : Nat) (N : Nat) (ad : Nat → Nat) (g : Nat → va_E) (i : Nat) (hN : i + 30 ≤ N) (F : Nat → Int) (hg : g i = mC ad i F) (r : Nat → Int) (ha1 : g (i + 1) = iA cs 29200 r) (b s p : Nat) (hp : b + 6 + 86 * s = p) (hb : b + 350 ≤ 29200) (hs : s < 4) (z : Int) : zM l yX10_setsMany cX10_setsMany 4 none ({ frames := 1, cells := 0, slots := 0, locals := 60 } : Room) D A cs tt N ad g [.ref (ad i), .int (zI ((b : Int))), .int (zI ((s : Int))), .int (zI (z))] (rV0 N ad fun g' => g' (i + 1) = iA cs 29200 (uZ r p z) ∧ ∀ j, j ≠ i + 1 → g' j = g j) := by
  have hay1 : zAt ad (i) (ad i) := rfl
  have hay2 : zAt ad (i + 1) (ad (i + 1)) := rfl
  refine z_of (by decide) (Nat.le_of_ble_eq_true rfl) ?_
  intro pZ eZ sZ mZ below meth cZ C hr hlk hnm
  refine z_lv (lv' := [(0, .ref (ad i)), (1, .int (zI ((b : Int)))), (2, .int (zI ((s : Int)))), (3, .int (zI (z)))]) [0, 1, 2, 3] rfl ?_
  refine z_aload_n C 0 dX10_setsMany_0 rfl ?_
  refine z_get (v := .ref (ad (i + 1))) C (lt_A0 hN rfl) hay1 hg rfl inA_X10 0 (by decide) q_1459 rfl rfl dX10_setsMany_1 ?_
  refine z_iload_n C 1 dX10_setsMany_4 rfl ?_
  refine z_bipush (z := 6) C dX10_setsMany_5 (by decide) ?_
  refine z_iadd C dX10_setsMany_7 ?_
  refine z_bipush (z := 86) C dX10_setsMany_8 (by decide) ?_
  refine z_iload_n C 2 dX10_setsMany_10 rfl ?_
  refine z_imul C dX10_setsMany_11 ?_
  refine z_iadd C dX10_setsMany_12 ?_
  refine z_iconst (z := 0) C dX10_setsMany_13 rfl ?_
  refine z_iadd C dX10_setsMany_14 ?_
  refine z_iload_n C 3 dX10_setsMany_15 rfl ?_
  refine z_iast C (lt_A (c := 1) hN rfl) hay2 ha1 (p) (by omega) (by omega) (by decide) dX10_setsMany_16 (fun gy3 egy4 => ?_)
  have hgy5 := up_s egy4
  exact z_vret C hr hlk dX10_setsMany_17 (by decide) (by decide) ⟨rfl, rfl, rfl, hgy5, fun j j1 => by rw [egy4, va_up_ne _ _ (by omega)]⟩

set_option maxRecDepth 100000 in
set_option maxHeartbeats 4000000 in
theorem c_X10_runsOff (l : Launch) (D : va_G) (A : Nat → Prop) (cs : Nat → ClassId) (tt : Nat) (N : Nat) (ad : Nat → Nat) (g : Nat → va_E) (i : Nat) (hN : i + 30 ≤ N) (F : Nat → Int) (hg : g i = mC ad i F) (r : Nat → Int) (ha1 : g (i + 1) = iA cs 29200 r) (b s p : Nat) (hp : b + 6 + 86 * s = p) (hb : b + 350 ≤ 29200) (hs : s < 4) (z : Int) : zM l yX10_runsOff cX10_runsOff 4 none ({ frames := 1, cells := 0, slots := 0, locals := 60 } : Room) D A cs tt N ad g [.ref (ad i), .int (zI ((b : Int))), .int (zI ((s : Int))), .int (zI (z))] (rV0 N ad fun g' => g' (i + 1) = iA cs 29200 (uZ r (p + 1) (r (p + 1) + z)) ∧ ∀ j, j ≠ i + 1 → g' j = g j) := by
  have hay1 : zAt ad (i) (ad i) := rfl
  have hay2 : zAt ad (i + 1) (ad (i + 1)) := rfl
  refine z_of (by decide) (Nat.le_of_ble_eq_true rfl) ?_
  intro pZ eZ sZ mZ below meth cZ C hr hlk hnm
  refine z_lv (lv' := [(0, .ref (ad i)), (1, .int (zI ((b : Int)))), (2, .int (zI ((s : Int)))), (3, .int (zI (z)))]) [0, 1, 2, 3] rfl ?_
  refine z_aload_n C 0 dX10_runsOff_0 rfl ?_
  refine z_get (v := .ref (ad (i + 1))) C (lt_A0 hN rfl) hay1 hg rfl inA_X10 0 (by decide) q_1459 rfl rfl dX10_runsOff_1 ?_
  refine z_iload_n C 1 dX10_runsOff_4 rfl ?_
  refine z_bipush (z := 6) C dX10_runsOff_5 (by decide) ?_
  refine z_iadd C dX10_runsOff_7 ?_
  refine z_bipush (z := 86) C dX10_runsOff_8 (by decide) ?_
  refine z_iload_n C 2 dX10_runsOff_10 rfl ?_
  refine z_imul C dX10_runsOff_11 ?_
  refine z_iadd C dX10_runsOff_12 ?_
  refine z_iconst (z := 1) C dX10_runsOff_13 rfl ?_
  refine z_iadd C dX10_runsOff_14 ?_
  refine z_dup2 C dX10_runsOff_15 rfl rfl ?_
  refine z_iald C (lt_A (c := 1) hN rfl) hay2 ha1 (p + 1) (by omega) (by omega) (by decide) dX10_runsOff_16 ?_
  refine z_iload_n C 3 dX10_runsOff_17 rfl ?_
  refine z_iadd C dX10_runsOff_18 ?_
  refine z_iast C (lt_A (c := 1) hN rfl) hay2 ha1 (p + 1) (by omega) (by omega) (by decide) dX10_runsOff_19 (fun gy3 egy4 => ?_)
  have hgy5 := up_s egy4
  exact z_vret C hr hlk dX10_runsOff_20 (by decide) (by decide) ⟨rfl, rfl, rfl, hgy5, fun j j1 => by rw [egy4, va_up_ne _ _ (by omega)]⟩

set_option maxRecDepth 100000 in
set_option maxHeartbeats 4000000 in
theorem c_X10_of (l : Launch) (D : va_G) (A : Nat → Prop) (cs : Nat → ClassId) (tt : Nat) (N : Nat) (ad : Nat → Nat) (g : Nat → va_E) (i : Nat) (hN : i + 30 ≤ N) (F : Nat → Int) (hg : g i = mC ad i F) (r : Nat → Int) (ha1 : g (i + 1) = iA cs 29200 r) (b s p : Nat) (hp : b + 6 + 86 * s = p) (hb : b + 350 ≤ 29200) (hs : s < 4) (zl zf : Int) (j : Nat) (hj : (j : Int) = (p : Int) + 2 + 7 * zl + zf) (hzl : 0 ≤ zl ∧ zl ≤ 11) (hzf : 0 ≤ zf ∧ zf ≤ 6) : zM l yX10_of cX10_of 5 (some .int) ({ frames := 2, cells := 0, slots := 0, locals := 120 } : Room) D A cs tt N ad g [.ref (ad i), .int (zI ((b : Int))), .int (zI ((s : Int))), .int (zI (zl)), .int (zI (zf))] (rI0 N ad fun z g' => z = r j ∧ g = g') := by
  have hay1 : zAt ad (i) (ad i) := rfl
  have hay2 : zAt ad (i + 1) (ad (i + 1)) := rfl
  refine z_of (by decide) (Nat.le_of_ble_eq_true rfl) ?_
  intro pZ eZ sZ mZ below meth cZ C hr hlk hnm
  refine z_lv (lv' := [(0, .ref (ad i)), (1, .int (zI ((b : Int)))), (2, .int (zI ((s : Int)))), (3, .int (zI (zl))), (4, .int (zI (zf)))]) [0, 1, 2, 3, 4] rfl ?_
  refine z_aload_n C 0 dX10_of_0 rfl ?_
  refine z_get (v := .ref (ad (i + 1))) C (lt_A0 hN rfl) hay1 hg rfl inA_X10 0 (by decide) q_1459 rfl rfl dX10_of_1 ?_
  refine z_iload_n C 1 dX10_of_4 rfl ?_
  refine z_iload_n C 2 dX10_of_5 rfl ?_
  refine z_iload_n C 3 dX10_of_6 rfl ?_
  obtain ⟨ky3, hky3⟩ : ∃ k9 : Nat, (zl) = (k9 : Int) := ⟨((zl) : Int).toNat, by omega⟩
  obtain ⟨qy4, hqy4⟩ : ∃ q9 : Nat, p + 2 + 7 * ky3 = q9 := ⟨_, rfl⟩
  refine z_cS (As := [.int (zI ((b : Int))), .int (zI ((s : Int))), .int (zI (zl))]) (rest := [.ref (ad (i + 1))]) C (c_X10_at l D A cs tt N ad _ ((b : Int)) (by omega) ((s : Int)) (by omega) (zl) (by omega)) ms_yX10_at q_1753 hd_yX10_at (by decide) (Nat.le_of_ble_eq_true rfl) (by decide) dX10_of_7 rfl (kI0 fun vy5 gvy5 hvy5 => ?_)
  obtain ⟨hvy5, rfl⟩ := hvy5
  rw [show vy5 = (qy4 : Int) by omega]
  refine z_iload C 4 dX10_of_10 rfl ?_
  refine z_iadd C dX10_of_12 ?_
  refine z_iald C (lt_A (c := 1) hN rfl) hay2 ha1 (j) (by omega) (by omega) (by decide) dX10_of_13 ?_
  exact z_iret C hr hlk dX10_of_14 (by decide) (by decide) ⟨_, rfl, rfl, rfl, rfl, rfl⟩

set_option maxRecDepth 100000 in
set_option maxHeartbeats 4000000 in
theorem c_X10_sets (l : Launch) (D : va_G) (A : Nat → Prop) (cs : Nat → ClassId) (tt : Nat) (N : Nat) (ad : Nat → Nat) (g : Nat → va_E) (i : Nat) (hN : i + 30 ≤ N) (F : Nat → Int) (hg : g i = mC ad i F) (r : Nat → Int) (ha1 : g (i + 1) = iA cs 29200 r) (b s p : Nat) (hp : b + 6 + 86 * s = p) (hb : b + 350 ≤ 29200) (hs : s < 4) (zl zf : Int) (j : Nat) (hj : (j : Int) = (p : Int) + 2 + 7 * zl + zf) (hzl : 0 ≤ zl ∧ zl ≤ 11) (hzf : 0 ≤ zf ∧ zf ≤ 6) (z : Int) : zM l yX10_sets cX10_sets 6 none ({ frames := 2, cells := 0, slots := 0, locals := 120 } : Room) D A cs tt N ad g [.ref (ad i), .int (zI ((b : Int))), .int (zI ((s : Int))), .int (zI (zl)), .int (zI (zf)), .int (zI (z))] (rV0 N ad fun g' => g' (i + 1) = iA cs 29200 (uZ r j z) ∧ ∀ j, j ≠ i + 1 → g' j = g j) := by
  have hay1 : zAt ad (i) (ad i) := rfl
  have hay2 : zAt ad (i + 1) (ad (i + 1)) := rfl
  refine z_of (by decide) (Nat.le_of_ble_eq_true rfl) ?_
  intro pZ eZ sZ mZ below meth cZ C hr hlk hnm
  refine z_lv (lv' := [(0, .ref (ad i)), (1, .int (zI ((b : Int)))), (2, .int (zI ((s : Int)))), (3, .int (zI (zl))), (4, .int (zI (zf))), (5, .int (zI (z)))]) [0, 1, 2, 3, 4, 5] rfl ?_
  refine z_aload_n C 0 dX10_sets_0 rfl ?_
  refine z_get (v := .ref (ad (i + 1))) C (lt_A0 hN rfl) hay1 hg rfl inA_X10 0 (by decide) q_1459 rfl rfl dX10_sets_1 ?_
  refine z_iload_n C 1 dX10_sets_4 rfl ?_
  refine z_iload_n C 2 dX10_sets_5 rfl ?_
  refine z_iload_n C 3 dX10_sets_6 rfl ?_
  obtain ⟨ky3, hky3⟩ : ∃ k9 : Nat, (zl) = (k9 : Int) := ⟨((zl) : Int).toNat, by omega⟩
  obtain ⟨qy4, hqy4⟩ : ∃ q9 : Nat, p + 2 + 7 * ky3 = q9 := ⟨_, rfl⟩
  refine z_cS (As := [.int (zI ((b : Int))), .int (zI ((s : Int))), .int (zI (zl))]) (rest := [.ref (ad (i + 1))]) C (c_X10_at l D A cs tt N ad _ ((b : Int)) (by omega) ((s : Int)) (by omega) (zl) (by omega)) ms_yX10_at q_1753 hd_yX10_at (by decide) (Nat.le_of_ble_eq_true rfl) (by decide) dX10_sets_7 rfl (kI0 fun vy5 gvy5 hvy5 => ?_)
  obtain ⟨hvy5, rfl⟩ := hvy5
  rw [show vy5 = (qy4 : Int) by omega]
  refine z_iload C 4 dX10_sets_10 rfl ?_
  refine z_iadd C dX10_sets_12 ?_
  refine z_iload C 5 dX10_sets_13 rfl ?_
  refine z_iast C (lt_A (c := 1) hN rfl) hay2 ha1 (j) (by omega) (by omega) (by decide) dX10_sets_15 (fun gy6 egy7 => ?_)
  have hgy8 := up_s egy7
  exact z_vret C hr hlk dX10_sets_16 (by decide) (by decide) ⟨rfl, rfl, rfl, hgy8, fun j j1 => by rw [egy7, va_up_ne _ _ (by omega)]⟩

def qS (r : Nat → Int) (p : Nat) : Prop := (0 ≤ r p ∧ r p ≤ 12) ∧ ∀ l : Nat, (l : Int) < r p → (0 ≤ r (p + 2 + 7 * l) ∧ r (p + 2 + 7 * l) ≤ 4) ∧ 1 ≤ r (p + 2 + 7 * l + 3) ∧ r (p + 2 + 7 * l + 3) ≤ 400000000
theorem qS.layer {r : Nat → Int} {p k q : Nat} (h : qS r p) (hk : (k : Int) < r p) (hq : p + 2 + 7 * k = q) : (0 ≤ r q ∧ r q ≤ 4) ∧ 1 ≤ r (q + 3) ∧ r (q + 3) ≤ 400000000 := by
  subst hq
  exact h.2 k hk
theorem okS.q {r : Nat → Int} {p : Nat} {M E : Int} (h : okS r p M E) (hE : E ≤ 400000000) : qS r p := ⟨h.1, fun l hl => by
  obtain ⟨a, b, c⟩ := h.layer hl rfl
  exact ⟨a.1, a.2.2.2.1, by omega⟩⟩

set_option maxRecDepth 100000 in
set_option maxHeartbeats 4000000 in
theorem c_X10_weightA (l : Launch) (D : va_G) (A : Nat → Prop) (cs : Nat → ClassId) (tt : Nat) (N : Nat) (ad : Nat → Nat) (g : Nat → va_E) (i : Nat) (hN : i + 30 ≤ N) (F : Nat → Int) (hg : g i = mC ad i F) (r : Nat → Int) (ha1 : g (i + 1) = iA cs 29200 r) (b s p : Nat) (hp : b + 6 + 86 * s = p) (hb : b + 350 ≤ 29200) (hs : s < 4) (zl : Int) (hzl : 0 ≤ zl ∧ zl ≤ 11) : zM l yX10_weight cX10_weight 4 (some .int) ({ frames := 3, cells := 0, slots := 0, locals := 180 } : Room) D A cs tt N ad g [.ref (ad i), .int (zI ((b : Int))), .int (zI ((s : Int))), .int (zI (zl))] (rI0 N ad fun r g' => (-2147483648 ≤ r ∧ r ≤ 2147483647) ∧ g = g') := by
  have hay1 : zAt ad (i) (ad i) := rfl
  have hay2 : zAt ad (i + 1) (ad (i + 1)) := rfl
  refine z_of (by decide) (Nat.le_of_ble_eq_true rfl) ?_
  intro pZ eZ sZ mZ below meth cZ C hr hlk hnm
  refine z_lv (lv' := [(0, .ref (ad i)), (1, .int (zI ((b : Int)))), (2, .int (zI ((s : Int)))), (3, .int (zI (zl)))]) [0, 1, 2, 3] rfl ?_
  refine z_aload_n C 0 dX10_weight_0 rfl ?_
  refine z_iload_n C 1 dX10_weight_1 rfl ?_
  refine z_iload_n C 2 dX10_weight_2 rfl ?_
  refine z_iload_n C 3 dX10_weight_3 rfl ?_
  refine z_iconst (z := 1) C dX10_weight_4 rfl ?_
  obtain ⟨ky3, hky3⟩ : ∃ k9 : Nat, (zl) = (k9 : Int) := ⟨((zl) : Int).toNat, by omega⟩
  obtain ⟨qy4, hqy4⟩ : ∃ q9 : Nat, p + 2 + 7 * ky3 = q9 := ⟨_, rfl⟩
  refine z_cV (As := [.int (zI ((b : Int))), .int (zI ((s : Int))), .int (zI (zl)), .int (zI (1))]) (rest := []) (ci := 12) C (c_X10_of l D A cs tt N ad _ i hN _ hg _ ha1 b s p hp (by omega) (by omega) (zl) (1) (qy4 + 1) (by omega) (by omega) (by omega)) (lt_A0 hN rfl) hay1 hg rfl rfl mv_yX10_of q_1749 hd_yX10_of (by decide) (Nat.le_of_ble_eq_true rfl) (by decide) dX10_weight_5 rfl (kI0 fun vy5 gvy5 hvy5 => ?_)
  obtain ⟨rfl, rfl⟩ := hvy5
  refine z_aload_n C 0 dX10_weight_8 rfl ?_
  refine z_iload_n C 1 dX10_weight_9 rfl ?_
  refine z_iload_n C 2 dX10_weight_10 rfl ?_
  refine z_iload_n C 3 dX10_weight_11 rfl ?_
  refine z_iconst (z := 2) C dX10_weight_12 rfl ?_
  refine z_cV (As := [.int (zI ((b : Int))), .int (zI ((s : Int))), .int (zI (zl)), .int (zI (2))]) (rest := [.int (zI (r (qy4 + 1)))]) (ci := 12) C (c_X10_of l D A cs tt N ad _ i hN _ hg _ ha1 b s p hp (by omega) (by omega) (zl) (2) (qy4 + 2) (by omega) (by omega) (by omega)) (lt_A0 hN rfl) hay1 hg rfl rfl mv_yX10_of q_1749 hd_yX10_of (by decide) (Nat.le_of_ble_eq_true rfl) (by decide) dX10_weight_13 rfl (kI0 fun vy6 gvy6 hvy6 => ?_)
  obtain ⟨rfl, rfl⟩ := hvy6
  refine z_iadd C dX10_weight_16 ?_
  obtain ⟨xy7, exy8, hxy9⟩ := zI_of (zI ((r (qy4 + 1)) + (r (qy4 + 2))))
  rw [exy8]
  exact z_iret C hr hlk dX10_weight_17 (by decide) (by decide) ⟨xy7, rfl, rfl, rfl, by omega, rfl⟩

set_option maxRecDepth 100000 in
set_option maxHeartbeats 4000000 in
theorem c_X10_aboveA (l : Launch) (D : va_G) (A : Nat → Prop) (cs : Nat → ClassId) (tt : Nat) (N : Nat) (ad : Nat → Nat) (g : Nat → va_E) (i : Nat) (hN : i + 30 ≤ N) (F : Nat → Int) (hg : g i = mC ad i F) (r : Nat → Int) (ha1 : g (i + 1) = iA cs 29200 r) (b s p : Nat) (hp : b + 6 + 86 * s = p) (hb : b + 350 ≤ 29200) (hs : s < 4) (hq : qS r p) (zl : Int) (hzl : -1 ≤ zl ∧ zl ≤ 12) : zM l yX10_above cX10_above 6 (some .int) ({ frames := 4, cells := 0, slots := 0, locals := 240 } : Room) D A cs tt N ad g [.ref (ad i), .int (zI ((b : Int))), .int (zI ((s : Int))), .int (zI (zl))] (rI0 N ad fun r g' => (-2147483648 ≤ r ∧ r ≤ 2147483647) ∧ g = g') := by
  have hay1 : zAt ad (i) (ad i) := rfl
  have hay2 : zAt ad (i + 1) (ad (i + 1)) := rfl
  have hmk := hq.1
  refine z_of (by decide) (Nat.le_of_ble_eq_true rfl) ?_
  intro pZ eZ sZ mZ below meth cZ C hr hlk hnm
  refine z_lv (lv' := [(0, .ref (ad i)), (1, .int (zI ((b : Int)))), (2, .int (zI ((s : Int)))), (3, .int (zI (zl)))]) [0, 1, 2, 3] rfl ?_
  have lp : ∀ (n9 : Nat) (al : Int) (ll : Int) (g1 : Nat → va_E), (13 - ll).toNat = n9 → (g1 = g) → (-2147483648 ≤ al ∧ al ≤ 2147483647) → (0 ≤ ll ∧ ll ≤ 13) → zV pZ l eZ ({ frames := 4, cells := 0, slots := 0, locals := 240 } : Room) sZ mZ ([.ref (ad i), .int (zI ((b : Int))), .int (zI ((s : Int))), .int (zI (zl))] : List Value).toArray below meth cZ (MQ below (zPost D A (rI0 N ad fun r g' => (-2147483648 ≤ r ∧ r ≤ 2147483647) ∧ g = g')) ([.ref (ad i), .int (zI ((b : Int))), .int (zI ((s : Int))), .int (zI (zl))] : List Value).toArray sZ ({ frames := 4, cells := 0, slots := 0, locals := 240 } : Room).cells ({ frames := 4, cells := 0, slots := 0, locals := 240 } : Room).slots A) D A 6 (N) ad g1 (0) (0) 8 [(0, .ref (ad i)), (1, .int (zI ((b : Int)))), (2, .int (zI ((s : Int)))), (4, .int (zI (al))), (5, .int (zI (ll)))] [] := by
    intro n9
    induction n9 using Nat.strongRecOn with
    | ind n9 ih =>
      intro al ll g1 hm9 hg1 hv0 hv1
      subst hg1
      refine z_iload C 4 dX10_above_8 rfl ?_
      refine z_aload_n C 0 dX10_above_10 rfl ?_
      refine z_iload_n C 1 dX10_above_11 rfl ?_
      refine z_iload_n C 2 dX10_above_12 rfl ?_
      refine z_cV (As := [.int (zI ((b : Int))), .int (zI ((s : Int)))]) (rest := [.int (zI (ll))]) (ci := 12) C (c_X10_many l D A cs tt N ad _ i hN _ hg _ ha1 b s p hp (by omega) (by omega)) (lt_A0 hN rfl) hay1 hg rfl rfl mv_yX10_many q_1733 hd_yX10_many (by decide) (Nat.le_of_ble_eq_true rfl) (by decide) dX10_above_13 rfl (kI0 fun vy3 gvy3 hvy3 => ?_)
      obtain ⟨rfl, rfl⟩ := hvy3
      refine z_icmp_ge (tgt := 38) C dX10_above_16 (by decide) (by omega) (by omega) (fun hby4 => ?_) (fun hby4 => ?_)
      · refine z_iload C 3 dX10_above_38 rfl ?_
        exact z_iret C hr hlk dX10_above_40 (by decide) (by decide) ⟨al, rfl, rfl, rfl, by omega, rfl⟩
      · refine z_iload C 3 dX10_above_19 rfl ?_
        refine z_aload_n C 0 dX10_above_21 rfl ?_
        refine z_iload_n C 1 dX10_above_22 rfl ?_
        refine z_iload_n C 2 dX10_above_23 rfl ?_
        refine z_iload C 4 dX10_above_24 rfl ?_
        refine z_cV (As := [.int (zI ((b : Int))), .int (zI ((s : Int))), .int (zI (ll))]) (rest := [.int (zI (al))]) (ci := 12) C (c_X10_weightA l D A cs tt N ad _ i hN _ hg _ ha1 b s p hp (by omega) (by omega)  (ll) (by omega)) (lt_A0 hN rfl) hay1 hg rfl rfl mv_yX10_weight q_1784 hd_yX10_weight (by decide) (Nat.le_of_ble_eq_true rfl) (by decide) dX10_above_26 rfl (kI0 fun vy5 gvy5 hvy5 => ?_)
        obtain ⟨hvy5, rfl⟩ := hvy5
        refine z_iadd C dX10_above_29 ?_
        refine z_istore (lv' := [(4, .int (zI (al + vy5))), (0, .ref (ad i)), (1, .int (zI ((b : Int)))), (2, .int (zI ((s : Int)))), (5, .int (zI (ll)))]) C dX10_above_30 (by decide) rfl ?_
        refine z_iinc (z := ll + 1) (lv' := [(5, .int (zI (ll + 1))), (4, .int (zI (al + vy5))), (0, .ref (ad i)), (1, .int (zI ((b : Int)))), (2, .int (zI ((s : Int))))]) (j := 4) C dX10_above_32 rfl rfl (by decide) rfl ?_
        refine z_goto (tgt := 8) C dX10_above_35 (by decide) ?_
        obtain ⟨xy6, exy7, hxy8⟩ := zI_of (zI (al + vy5))
        rw [exy7]
        refine z_lv (lv' := [(0, .ref (ad i)), (1, .int (zI ((b : Int)))), (2, .int (zI ((s : Int)))), (4, .int (zI (xy6))), (5, .int (zI (ll + 1)))]) [2, 3, 4, 1, 0] rfl ?_
        exact ih _ (by omega) (xy6) (ll + 1) _ rfl rfl (by omega) (by omega)
  refine z_iconst (z := 0) C dX10_above_0 rfl ?_
  refine z_istore (lv' := [(4, .int (zI (0))), (0, .ref (ad i)), (1, .int (zI ((b : Int)))), (2, .int (zI ((s : Int)))), (3, .int (zI (zl)))]) C dX10_above_1 (by decide) rfl ?_
  refine z_iload_n C 4 dX10_above_3 rfl ?_
  refine z_iconst (z := 1) C dX10_above_4 rfl ?_
  refine z_iadd C dX10_above_5 ?_
  refine z_istore (lv' := [(5, .int (zI (zl + 1))), (4, .int (zI (0))), (0, .ref (ad i)), (1, .int (zI ((b : Int)))), (2, .int (zI ((s : Int)))), (3, .int (zI (zl)))]) C dX10_above_6 (by decide) rfl ?_
  refine z_lv (lv' := [(0, .ref (ad i)), (1, .int (zI ((b : Int)))), (2, .int (zI ((s : Int)))), (4, .int (zI (0))), (5, .int (zI (zl + 1)))]) [2, 3, 4, 1, 0] rfl ?_
  exact lp _ (0) (zl + 1) _ rfl rfl (by omega) (by omega)

set_option maxRecDepth 100000 in
set_option maxHeartbeats 4000000 in
theorem c_X10_sumA (l : Launch) (D : va_G) (A : Nat → Prop) (cs : Nat → ClassId) (tt : Nat) (N : Nat) (ad : Nat → Nat) (g : Nat → va_E) (i : Nat) (hN : i + 30 ≤ N) (F : Nat → Int) (hg : g i = mC ad i F) (r : Nat → Int) (ha1 : g (i + 1) = iA cs 29200 r) (b s p : Nat) (hp : b + 6 + 86 * s = p) (hb : b + 350 ≤ 29200) (hs : s < 4) (hq : qS r p) (ff : Nat) (hff : ff ≤ 6) : zM l yX10_sum cX10_sum 6 (some .int) ({ frames := 4, cells := 0, slots := 0, locals := 240 } : Room) D A cs tt N ad g [.ref (ad i), .int (zI ((b : Int))), .int (zI ((s : Int))), .int (zI ((ff : Int)))] (rI0 N ad fun r g' => (-2147483648 ≤ r ∧ r ≤ 2147483647) ∧ g = g') := by
  have hay1 : zAt ad (i) (ad i) := rfl
  have hay2 : zAt ad (i + 1) (ad (i + 1)) := rfl
  have hmk := hq.1
  refine z_of (by decide) (Nat.le_of_ble_eq_true rfl) ?_
  intro pZ eZ sZ mZ below meth cZ C hr hlk hnm
  refine z_lv (lv' := [(0, .ref (ad i)), (1, .int (zI ((b : Int)))), (2, .int (zI ((s : Int)))), (3, .int (zI ((ff : Int))))]) [0, 1, 2, 3] rfl ?_
  have lp : ∀ (n9 : Nat) (al : Int) (ll : Int) (g1 : Nat → va_E), (13 - ll).toNat = n9 → (g1 = g) → (-2147483648 ≤ al ∧ al ≤ 2147483647) → (0 ≤ ll ∧ ll ≤ 12) → zV pZ l eZ ({ frames := 4, cells := 0, slots := 0, locals := 240 } : Room) sZ mZ ([.ref (ad i), .int (zI ((b : Int))), .int (zI ((s : Int))), .int (zI ((ff : Int)))] : List Value).toArray below meth cZ (MQ below (zPost D A (rI0 N ad fun r g' => (-2147483648 ≤ r ∧ r ≤ 2147483647) ∧ g = g')) ([.ref (ad i), .int (zI ((b : Int))), .int (zI ((s : Int))), .int (zI ((ff : Int)))] : List Value).toArray sZ ({ frames := 4, cells := 0, slots := 0, locals := 240 } : Room).cells ({ frames := 4, cells := 0, slots := 0, locals := 240 } : Room).slots A) D A 6 (N) ad g1 (0) (0) 6 [(0, .ref (ad i)), (1, .int (zI ((b : Int)))), (2, .int (zI ((s : Int)))), (3, .int (zI ((ff : Int)))), (4, .int (zI (al))), (5, .int (zI (ll)))] [] := by
    intro n9
    induction n9 using Nat.strongRecOn with
    | ind n9 ih =>
      intro al ll g1 hm9 hg1 hv0 hv1
      subst hg1
      refine z_iload C 5 dX10_sum_6 rfl ?_
      refine z_aload_n C 0 dX10_sum_8 rfl ?_
      refine z_iload_n C 1 dX10_sum_9 rfl ?_
      refine z_iload_n C 2 dX10_sum_10 rfl ?_
      refine z_cV (As := [.int (zI ((b : Int))), .int (zI ((s : Int)))]) (rest := [.int (zI (ll))]) (ci := 12) C (c_X10_many l D A cs tt N ad _ i hN _ hg _ ha1 b s p hp (by omega) (by omega)) (lt_A0 hN rfl) hay1 hg rfl rfl mv_yX10_many q_1733 hd_yX10_many (by decide) (Nat.le_of_ble_eq_true rfl) (by decide) dX10_sum_11 rfl (kI0 fun vy3 gvy3 hvy3 => ?_)
      obtain ⟨rfl, rfl⟩ := hvy3
      refine z_icmp_ge (tgt := 37) C dX10_sum_14 (by decide) (by omega) (by omega) (fun hby4 => ?_) (fun hby4 => ?_)
      · refine z_iload C 4 dX10_sum_37 rfl ?_
        exact z_iret C hr hlk dX10_sum_39 (by decide) (by decide) ⟨al, rfl, rfl, rfl, by omega, rfl⟩
      · refine z_iload C 4 dX10_sum_17 rfl ?_
        refine z_aload_n C 0 dX10_sum_19 rfl ?_
        refine z_iload_n C 1 dX10_sum_20 rfl ?_
        refine z_iload_n C 2 dX10_sum_21 rfl ?_
        refine z_iload C 5 dX10_sum_22 rfl ?_
        refine z_iload_n C 3 dX10_sum_24 rfl ?_
        obtain ⟨ky5, hky5⟩ : ∃ k9 : Nat, (ll) = (k9 : Int) := ⟨((ll) : Int).toNat, by omega⟩
        obtain ⟨qy6, hqy6⟩ : ∃ q9 : Nat, p + 2 + 7 * ky5 = q9 := ⟨_, rfl⟩
        refine z_cV (As := [.int (zI ((b : Int))), .int (zI ((s : Int))), .int (zI (ll)), .int (zI ((ff : Int)))]) (rest := [.int (zI (al))]) (ci := 12) C (c_X10_of l D A cs tt N ad _ i hN _ hg _ ha1 b s p hp (by omega) (by omega) (ll) ((ff : Int)) (qy6 + ff) (by omega) (by omega) (by omega)) (lt_A0 hN rfl) hay1 hg rfl rfl mv_yX10_of q_1749 hd_yX10_of (by decide) (Nat.le_of_ble_eq_true rfl) (by decide) dX10_sum_25 rfl (kI0 fun vy7 gvy7 hvy7 => ?_)
        obtain ⟨rfl, rfl⟩ := hvy7
        refine z_iadd C dX10_sum_28 ?_
        refine z_istore (lv' := [(4, .int (zI (al + (r (qy6 + ff))))), (0, .ref (ad i)), (1, .int (zI ((b : Int)))), (2, .int (zI ((s : Int)))), (3, .int (zI ((ff : Int)))), (5, .int (zI (ll)))]) C dX10_sum_29 (by decide) rfl ?_
        refine z_iinc (z := ll + 1) (lv' := [(5, .int (zI (ll + 1))), (4, .int (zI (al + (r (qy6 + ff))))), (0, .ref (ad i)), (1, .int (zI ((b : Int)))), (2, .int (zI ((s : Int)))), (3, .int (zI ((ff : Int))))]) (j := 5) C dX10_sum_31 rfl rfl (by decide) rfl ?_
        refine z_goto (tgt := 6) C dX10_sum_34 (by decide) ?_
        obtain ⟨xy8, exy9, hxy10⟩ := zI_of (zI (al + (r (qy6 + ff))))
        rw [exy9]
        refine z_lv (lv' := [(0, .ref (ad i)), (1, .int (zI ((b : Int)))), (2, .int (zI ((s : Int)))), (3, .int (zI ((ff : Int)))), (4, .int (zI (xy8))), (5, .int (zI (ll + 1)))]) [2, 3, 4, 5, 1, 0] rfl ?_
        exact ih _ (by omega) (xy8) (ll + 1) _ rfl rfl (by omega) (by omega)
  refine z_iconst (z := 0) C dX10_sum_0 rfl ?_
  refine z_istore (lv' := [(4, .int (zI (0))), (0, .ref (ad i)), (1, .int (zI ((b : Int)))), (2, .int (zI ((s : Int)))), (3, .int (zI ((ff : Int))))]) C dX10_sum_1 (by decide) rfl ?_
  refine z_iconst (z := 0) C dX10_sum_3 rfl ?_
  refine z_istore (lv' := [(5, .int (zI (0))), (4, .int (zI (0))), (0, .ref (ad i)), (1, .int (zI ((b : Int)))), (2, .int (zI ((s : Int)))), (3, .int (zI ((ff : Int))))]) C dX10_sum_4 (by decide) rfl ?_
  refine z_lv (lv' := [(0, .ref (ad i)), (1, .int (zI ((b : Int)))), (2, .int (zI ((s : Int)))), (3, .int (zI ((ff : Int)))), (4, .int (zI (0))), (5, .int (zI (0)))]) [2, 3, 4, 5, 1, 0] rfl ?_
  exact lp _ (0) (0) _ rfl rfl (by omega) (by omega)

set_option maxRecDepth 100000 in
set_option maxHeartbeats 4000000 in
theorem c_X10_strength (l : Launch) (D : va_G) (A : Nat → Prop) (cs : Nat → ClassId) (tt : Nat) (N : Nat) (ad : Nat → Nat) (g : Nat → va_E) (i : Nat) (hN : i + 30 ≤ N) (F : Nat → Int) (hg : g i = mC ad i F) (r : Nat → Int) (ha1 : g (i + 1) = iA cs 29200 r) (tb : Nat → Int) (ha7 : g (i + 7) = iA cs 15 tb) (b s p : Nat) (hp : b + 6 + 86 * s = p) (hb : b + 350 ≤ 29200) (hs : s < 4) (hq : qS r p) (zl : Int) (hzl : 0 ≤ zl ∧ zl < r p) : zM l yX10_strength cX10_strength 5 (some .int) ({ frames := 4, cells := 0, slots := 0, locals := 240 } : Room) D A cs tt N ad g [.ref (ad i), .int (zI ((b : Int))), .int (zI ((s : Int))), .int (zI (zl))] (rI0 N ad fun r g' => (-2147483648 ≤ r ∧ r ≤ 2147483647) ∧ g = g') := by
  have hay1 : zAt ad (i) (ad i) := rfl
  have hay2 : zAt ad (i + 1) (ad (i + 1)) := rfl
  have hay3 : zAt ad (i + 7) (ad (i + 7)) := rfl
  have hmk := hq.1
  obtain ⟨ky4, hky4⟩ : ∃ k9 : Nat, (zl) = (k9 : Int) := ⟨((zl) : Int).toNat, by omega⟩
  obtain ⟨qy5, hqy5⟩ : ∃ q9 : Nat, p + 2 + 7 * ky4 = q9 := ⟨_, rfl⟩
  obtain ⟨hKzy6, hDzy6, hEzy6⟩ := qS.layer hq (k := ky4) (by omega) hqy5
  refine z_of (by decide) (Nat.le_of_ble_eq_true rfl) ?_
  intro pZ eZ sZ mZ below meth cZ C hr hlk hnm
  refine z_lv (lv' := [(0, .ref (ad i)), (1, .int (zI ((b : Int)))), (2, .int (zI ((s : Int)))), (3, .int (zI (zl)))]) [0, 1, 2, 3] rfl ?_
  refine z_aload_n C 0 dX10_strength_0 rfl ?_
  refine z_get (v := .ref (ad (i + 7))) C (lt_A0 hN rfl) hay1 hg rfl inA_X10 6 (by decide) q_1465 rfl rfl dX10_strength_1 ?_
  refine z_aload_n C 0 dX10_strength_4 rfl ?_
  refine z_iload_n C 1 dX10_strength_5 rfl ?_
  refine z_iload_n C 2 dX10_strength_6 rfl ?_
  refine z_iload_n C 3 dX10_strength_7 rfl ?_
  refine z_iconst (z := 0) C dX10_strength_8 rfl ?_
  refine z_cV (As := [.int (zI ((b : Int))), .int (zI ((s : Int))), .int (zI (zl)), .int (zI (0))]) (rest := [.ref (ad (i + 7))]) (ci := 12) C (c_X10_of l D A cs tt N ad _ i hN _ hg _ ha1 b s p hp (by omega) (by omega) (zl) (0) (qy5) (by omega) (by omega) (by omega)) (lt_A0 hN rfl) hay1 hg rfl rfl mv_yX10_of q_1749 hd_yX10_of (by decide) (Nat.le_of_ble_eq_true rfl) (by decide) dX10_strength_9 rfl (kI0 fun vy7 gvy7 hvy7 => ?_)
  obtain ⟨rfl, rfl⟩ := hvy7
  refine z_iald C (lt_A (c := 7) hN rfl) hay3 ha7 ((r (qy5)).toNat) (by omega) (by omega) (by decide) dX10_strength_12 ?_
  refine z_aload_n C 0 dX10_strength_13 rfl ?_
  refine z_iload_n C 1 dX10_strength_14 rfl ?_
  refine z_iload_n C 2 dX10_strength_15 rfl ?_
  refine z_iload_n C 3 dX10_strength_16 rfl ?_
  refine z_cV (As := [.int (zI ((b : Int))), .int (zI ((s : Int))), .int (zI (zl))]) (rest := [.int (zI (tb ((r (qy5)).toNat)))]) (ci := 12) C (c_X10_weightA l D A cs tt N ad _ i hN _ hg _ ha1 b s p hp (by omega) (by omega)  (zl) (by omega)) (lt_A0 hN rfl) hay1 hg rfl rfl mv_yX10_weight q_1784 hd_yX10_weight (by decide) (Nat.le_of_ble_eq_true rfl) (by decide) dX10_strength_17 rfl (kI0 fun vy8 gvy8 hvy8 => ?_)
  obtain ⟨hvy8, rfl⟩ := hvy8
  refine z_imul C dX10_strength_20 ?_
  refine z_bipush (z := 10) C dX10_strength_21 (by decide) ?_
  refine z_imul C dX10_strength_23 ?_
  refine z_aload_n C 0 dX10_strength_24 rfl ?_
  refine z_iload_n C 1 dX10_strength_25 rfl ?_
  refine z_iload_n C 2 dX10_strength_26 rfl ?_
  refine z_iload_n C 3 dX10_strength_27 rfl ?_
  refine z_iconst (z := 3) C dX10_strength_28 rfl ?_
  refine z_cV (As := [.int (zI ((b : Int))), .int (zI ((s : Int))), .int (zI (zl)), .int (zI (3))]) (rest := [.int (zI (((tb ((r (qy5)).toNat)) * vy8) * 10))]) (ci := 12) C (c_X10_of l D A cs tt N ad _ i hN _ hg _ ha1 b s p hp (by omega) (by omega) (zl) (3) (qy5 + 3) (by omega) (by omega) (by omega)) (lt_A0 hN rfl) hay1 hg rfl rfl mv_yX10_of q_1749 hd_yX10_of (by decide) (Nat.le_of_ble_eq_true rfl) (by decide) dX10_strength_29 rfl (kI0 fun vy9 gvy9 hvy9 => ?_)
  obtain ⟨rfl, rfl⟩ := hvy9
  obtain ⟨xy10, exy11, hxy12⟩ := zI_of (zI (((tb ((r (qy5)).toNat)) * vy8) * 10))
  rw [exy11]
  refine z_idiv C dX10_strength_32 (by omega) (by omega) (by omega) ?_
  refine z_istore (lv' := [(4, .int (zI (xy10.tdiv (r (qy5 + 3))))), (0, .ref (ad i)), (1, .int (zI ((b : Int)))), (2, .int (zI ((s : Int)))), (3, .int (zI (zl)))]) C dX10_strength_33 (by decide) rfl ?_
  refine z_aload_n C 1 dX10_strength_35 rfl ?_
  refine z_iload_n C 2 dX10_strength_36 rfl ?_
  refine z_iload_n C 3 dX10_strength_37 rfl ?_
  refine z_iload_n C 4 dX10_strength_38 rfl ?_
  refine z_iconst (z := 2) C dX10_strength_39 rfl ?_
  refine z_cV (As := [.int (zI ((b : Int))), .int (zI ((s : Int))), .int (zI (zl)), .int (zI (2))]) (rest := []) (ci := 12) C (c_X10_of l D A cs tt N ad _ i hN _ hg _ ha1 b s p hp (by omega) (by omega) (zl) (2) (qy5 + 2) (by omega) (by omega) (by omega)) (lt_A0 hN rfl) hay1 hg rfl rfl mv_yX10_of q_1749 hd_yX10_of (by decide) (Nat.le_of_ble_eq_true rfl) (by decide) dX10_strength_40 rfl (kI0 fun vy13 gvy13 hvy13 => ?_)
  obtain ⟨rfl, rfl⟩ := hvy13
  refine z_bipush (z := 100) C dX10_strength_43 (by decide) ?_
  refine z_imul C dX10_strength_45 ?_
  refine z_iconst (z := 3) C dX10_strength_46 rfl ?_
  refine z_aload_n C 1 dX10_strength_47 rfl ?_
  refine z_iload_n C 2 dX10_strength_48 rfl ?_
  refine z_iload_n C 3 dX10_strength_49 rfl ?_
  refine z_iload_n C 4 dX10_strength_50 rfl ?_
  refine z_iconst (z := 1) C dX10_strength_51 rfl ?_
  refine z_cV (As := [.int (zI ((b : Int))), .int (zI ((s : Int))), .int (zI (zl)), .int (zI (1))]) (rest := [.int (zI (3)), .int (zI ((r (qy5 + 2)) * 100))]) (ci := 12) C (c_X10_of l D A cs tt N ad _ i hN _ hg _ ha1 b s p hp (by omega) (by omega) (zl) (1) (qy5 + 1) (by omega) (by omega) (by omega)) (lt_A0 hN rfl) hay1 hg rfl rfl mv_yX10_of q_1749 hd_yX10_of (by decide) (Nat.le_of_ble_eq_true rfl) (by decide) dX10_strength_52 rfl (kI0 fun vy14 gvy14 hvy14 => ?_)
  obtain ⟨rfl, rfl⟩ := hvy14
  refine z_imul C dX10_strength_55 ?_
  obtain ⟨xy15, exy16, hxy17⟩ := zI_of (zI (3 * (r (qy5 + 1))))
  rw [exy16]
  obtain ⟨xy18, exy19, hxy20⟩ := zI_of (zI ((r (qy5 + 2)) * 100))
  rw [exy19]
  refine z_icmp_lt (tgt := 66) C dX10_strength_56 (by decide) (by omega) (by omega) (fun hby21 => ?_) (fun hby21 => ?_)
  · refine z_iload C 0 dX10_strength_66 rfl ?_
    obtain ⟨xy22, exy23, hxy24⟩ := zI_of (zI (xy10.tdiv (r (qy5 + 3))))
    rw [exy23]
    exact z_iret C hr hlk dX10_strength_68 (by decide) (by decide) ⟨xy22, rfl, rfl, rfl, by omega, rfl⟩
  · refine z_iload C 0 dX10_strength_59 rfl ?_
    refine z_iconst (z := 2) C dX10_strength_61 rfl ?_
    obtain ⟨xy25, exy26, hxy27⟩ := zI_of (zI (xy10.tdiv (r (qy5 + 3))))
    rw [exy26]
    refine z_idiv C dX10_strength_62 (by omega) (by omega) (by omega) ?_
    obtain ⟨xy28, exy28, hxy28⟩ : ∃ x9, (xy25).tdiv 2 = x9 ∧ (0 ≤ xy25 → 0 ≤ x9 ∧ 2 * x9 ≤ xy25 ∧ xy25 < 2 * x9 + 2) ∧ (xy25 ≤ 0 → x9 ≤ 0 ∧ xy25 ≤ 2 * x9 ∧ 2 * x9 < xy25 + 2) := tdk 2 (by decide)
    rw [exy28]
    refine z_goto (tgt := 68) C dX10_strength_63 (by decide) ?_
    exact z_iret C hr hlk dX10_strength_68 (by decide) (by decide) ⟨xy28, rfl, rfl, rfl, by omega, rfl⟩

theorem mulz {a b : Int} : ∃ x, zI (a * b) = zI x ∧ (-2147483648 ≤ x ∧ x ≤ 2147483647) ∧ (b = 0 → x = 0) := by
  by_cases h : b = 0
  · subst h
    exact ⟨0, by rw [Int.mul_zero], by omega, fun _ => rfl⟩
  · obtain ⟨x, h1, h2⟩ := zI_of (zI (a * b))
    exact ⟨x, h1, h2, fun e => absurd e h⟩

set_option maxRecDepth 100000 in
set_option maxHeartbeats 4000000 in
theorem c_X10_burden (l : Launch) (D : va_G) (A : Nat → Prop) (cs : Nat → ClassId) (tt : Nat) (N : Nat) (ad : Nat → Nat) (g : Nat → va_E) (i : Nat) (hN : i + 30 ≤ N) (F : Nat → Int) (hg : g i = mC ad i F) (r : Nat → Int) (ha1 : g (i + 1) = iA cs 29200 r) (b s p : Nat) (hp : b + 6 + 86 * s = p) (hb : b + 350 ≤ 29200) (hs : s < 4) (hq : qS r p) (zl : Int) (hzl : -1 ≤ zl ∧ zl ≤ 12) (z1 : Int) (hz1 : -2147483648 ≤ z1 ∧ z1 ≤ 2147483647) (z2 : Int) (hz2 : -2147483648 ≤ z2 ∧ z2 ≤ 2147483647) : zM l yX10_burden cX10_burden 6 (some .int) ({ frames := 5, cells := 0, slots := 0, locals := 300 } : Room) D A cs tt N ad g [.ref (ad i), .int (zI ((b : Int))), .int (zI ((s : Int))), .int (zI (zl)), .int (zI (z1)), .int (zI (z2))] (rI0 N ad fun r g' => (-2147483648 ≤ r ∧ r ≤ 2147483647) ∧ (z2 = 0 → r = 0) ∧ g = g') := by
  have hay1 : zAt ad (i) (ad i) := rfl
  have hay2 : zAt ad (i + 1) (ad (i + 1)) := rfl
  have hmk := hq.1
  refine z_of (by decide) (Nat.le_of_ble_eq_true rfl) ?_
  intro pZ eZ sZ mZ below meth cZ C hr hlk hnm
  refine z_lv (lv' := [(0, .ref (ad i)), (1, .int (zI ((b : Int)))), (2, .int (zI ((s : Int)))), (3, .int (zI (zl))), (4, .int (zI (z1))), (5, .int (zI (z2)))]) [0, 1, 2, 3, 4, 5] rfl ?_
  refine z_aload_n C 0 dX10_burden_0 rfl ?_
  refine z_iload_n C 1 dX10_burden_1 rfl ?_
  refine z_iload_n C 2 dX10_burden_2 rfl ?_
  refine z_iload_n C 3 dX10_burden_3 rfl ?_
  refine z_cV (As := [.int (zI ((b : Int))), .int (zI ((s : Int))), .int (zI (zl))]) (rest := []) (ci := 12) C (c_X10_aboveA l D A cs tt N ad _ i hN _ hg _ ha1 b s p hp (by omega) (by omega) hq (zl) (by omega)) (lt_A0 hN rfl) hay1 hg rfl rfl mv_yX10_above q_1780 hd_yX10_above (by decide) (Nat.le_of_ble_eq_true rfl) (by decide) dX10_burden_4 rfl (kI0 fun vy3 gvy3 hvy3 => ?_)
  obtain ⟨hvy3, rfl⟩ := hvy3
  refine z_iload C 4 dX10_burden_7 rfl ?_
  refine z_iadd C dX10_burden_9 ?_
  refine z_iload C 5 dX10_burden_10 rfl ?_
  refine z_imul C dX10_burden_12 ?_
  obtain ⟨xy4, exy4, hxy4⟩ := mulz (a := (vy3 + z1)) (b := z2)
  rw [exy4]
  refine z_bipush (z := 100) C dX10_burden_13 (by decide) ?_
  refine z_idiv C dX10_burden_15 (by omega) (by omega) (by omega) ?_
  obtain ⟨xy5, exy5, hxy5⟩ : ∃ x9, (xy4).tdiv 100 = x9 ∧ (0 ≤ xy4 → 0 ≤ x9 ∧ 100 * x9 ≤ xy4 ∧ xy4 < 100 * x9 + 100) ∧ (xy4 ≤ 0 → x9 ≤ 0 ∧ xy4 ≤ 100 * x9 ∧ 100 * x9 < xy4 + 100) := tdk 100 (by decide)
  rw [exy5]
  exact z_iret C hr hlk dX10_burden_16 (by decide) (by decide) ⟨xy5, rfl, rfl, rfl, by omega, by omega, rfl⟩

set_option maxRecDepth 100000 in
set_option maxHeartbeats 4000000 in
theorem c_X10_ratio (l : Launch) (D : va_G) (A : Nat → Prop) (cs : Nat → ClassId) (tt : Nat) (N : Nat) (ad : Nat → Nat) (g : Nat → va_E) (i : Nat) (hN : i + 30 ≤ N) (F : Nat → Int) (hg : g i = mC ad i F) (r : Nat → Int) (ha1 : g (i + 1) = iA cs 29200 r) (tb : Nat → Int) (ha7 : g (i + 7) = iA cs 15 tb) (b s p : Nat) (hp : b + 6 + 86 * s = p) (hb : b + 350 ≤ 29200) (hs : s < 4) (hq : qS r p) (zl : Int) (hzl : 0 ≤ zl ∧ zl < r p) (z1 : Int) (hz1 : -2147483648 ≤ z1 ∧ z1 ≤ 2147483647) (z2 : Int) (hz2 : -2147483648 ≤ z2 ∧ z2 ≤ 2147483647) : zM l yX10_ratio cX10_ratio 7 (some .int) ({ frames := 6, cells := 0, slots := 0, locals := 360 } : Room) D A cs tt N ad g [.ref (ad i), .int (zI ((b : Int))), .int (zI ((s : Int))), .int (zI (zl)), .int (zI (z1)), .int (zI (z2))] (rI0 N ad fun r g' => (-2147483648 ≤ r ∧ r ≤ 9999) ∧ (z2 = 0 → r = 9999) ∧ g = g') := by
  have hay1 : zAt ad (i) (ad i) := rfl
  have hay2 : zAt ad (i + 1) (ad (i + 1)) := rfl
  have hay3 : zAt ad (i + 7) (ad (i + 7)) := rfl
  have hmk := hq.1
  obtain ⟨ky4, hky4⟩ : ∃ k9 : Nat, (zl) = (k9 : Int) := ⟨((zl) : Int).toNat, by omega⟩
  obtain ⟨qy5, hqy5⟩ : ∃ q9 : Nat, p + 2 + 7 * ky4 = q9 := ⟨_, rfl⟩
  obtain ⟨hKzy6, hDzy6, hEzy6⟩ := qS.layer hq (k := ky4) (by omega) hqy5
  refine z_of (by decide) (Nat.le_of_ble_eq_true rfl) ?_
  intro pZ eZ sZ mZ below meth cZ C hr hlk hnm
  refine z_lv (lv' := [(0, .ref (ad i)), (1, .int (zI ((b : Int)))), (2, .int (zI ((s : Int)))), (3, .int (zI (zl))), (4, .int (zI (z1))), (5, .int (zI (z2)))]) [0, 1, 2, 3, 4, 5] rfl ?_
  refine z_aload_n C 0 dX10_ratio_0 rfl ?_
  refine z_iload_n C 1 dX10_ratio_1 rfl ?_
  refine z_iload_n C 2 dX10_ratio_2 rfl ?_
  refine z_iload_n C 3 dX10_ratio_3 rfl ?_
  refine z_iload C 4 dX10_ratio_4 rfl ?_
  refine z_iload C 5 dX10_ratio_6 rfl ?_
  refine z_cV (As := [.int (zI ((b : Int))), .int (zI ((s : Int))), .int (zI (zl)), .int (zI (z1)), .int (zI (z2))]) (rest := []) (ci := 12) C (c_X10_burden l D A cs tt N ad _ i hN _ hg _ ha1 b s p hp (by omega) (by omega) hq (zl) (by omega) (z1) (by omega) (z2) (by omega)) (lt_A0 hN rfl) hay1 hg rfl rfl mv_yX10_burden q_1776 hd_yX10_burden (by decide) (Nat.le_of_ble_eq_true rfl) (by decide) dX10_ratio_8 rfl (kI0 fun vy7 gvy7 hvy7 => ?_)
  obtain ⟨hvy7, hzvy7, rfl⟩ := hvy7
  refine z_istore (lv' := [(6, .int (zI (vy7))), (0, .ref (ad i)), (1, .int (zI ((b : Int)))), (2, .int (zI ((s : Int)))), (3, .int (zI (zl))), (4, .int (zI (z1))), (5, .int (zI (z2)))]) C dX10_ratio_11 (by decide) rfl ?_
  refine z_iload C 0 dX10_ratio_13 rfl ?_
  refine z_if_ne (tgt := 24) C dX10_ratio_15 (by decide) (by omega) (fun hby8 => ?_) (fun hby8 => ?_)
  · refine z_sipush (z := 9999) C dX10_ratio_24 (by decide) ?_
    refine z_bipush (z := 100) C dX10_ratio_27 (by decide) ?_
    refine z_aload_n C 1 dX10_ratio_29 rfl ?_
    refine z_iload_n C 2 dX10_ratio_30 rfl ?_
    refine z_iload_n C 3 dX10_ratio_31 rfl ?_
    refine z_iload_n C 4 dX10_ratio_32 rfl ?_
    refine z_cV (As := [.int (zI ((b : Int))), .int (zI ((s : Int))), .int (zI (zl))]) (rest := [.int (zI (100)), .int (zI (9999))]) (ci := 12) C (c_X10_strength l D A cs tt N ad _ i hN _ hg _ ha1 _ ha7 b s p hp (by omega) (by omega) hq (zl) (by omega)) (lt_A0 hN rfl) hay1 hg rfl rfl mv_yX10_strength q_1788 hd_yX10_strength (by decide) (Nat.le_of_ble_eq_true rfl) (by decide) dX10_ratio_33 rfl (kI0 fun vy9 gvy9 hvy9 => ?_)
    obtain ⟨hvy9, rfl⟩ := hvy9
    refine z_imul C dX10_ratio_36 ?_
    refine z_iload C 0 dX10_ratio_37 rfl ?_
    obtain ⟨xy10, exy11, hxy12⟩ := zI_of (zI (100 * vy9))
    rw [exy11]
    refine z_idiv C dX10_ratio_39 (by omega) (by omega) (by omega) ?_
    obtain ⟨xy13, exy14, hxy15⟩ := zI_of (zI (xy10.tdiv vy7))
    rw [exy14]
    refine z_cS (As := [.int (zI (9999)), .int (zI (xy13))]) (rest := []) C (c_X10_lesser l D A cs tt N ad _ (9999) (by omega) (xy13) (by omega)) ms_yX10_lesser q_1792 hd_yX10_lesser (by decide) (Nat.le_of_ble_eq_true rfl) (by decide) dX10_ratio_40 rfl (kI0 fun vy16 gvy16 hvy16 => ?_)
    obtain ⟨hvy16, rfl⟩ := hvy16
    exact z_iret C hr hlk dX10_ratio_43 (by decide) (by decide) ⟨vy16, rfl, rfl, rfl, by omega, by omega, rfl⟩
  · refine z_sipush (z := 9999) C dX10_ratio_18 (by decide) ?_
    refine z_goto (tgt := 43) C dX10_ratio_21 (by decide) ?_
    exact z_iret C hr hlk dX10_ratio_43 (by decide) (by decide) ⟨9999, rfl, rfl, rfl, by omega, by omega, rfl⟩

set_option maxRecDepth 100000 in
set_option maxHeartbeats 4000000 in
theorem c_X10_weakestBy (l : Launch) (D : va_G) (A : Nat → Prop) (cs : Nat → ClassId) (tt : Nat) (N : Nat) (ad : Nat → Nat) (g : Nat → va_E) (i : Nat) (hN : i + 30 ≤ N) (F : Nat → Int) (hg : g i = mC ad i F) (r : Nat → Int) (ha1 : g (i + 1) = iA cs 29200 r) (tb : Nat → Int) (ha7 : g (i + 7) = iA cs 15 tb) (b s p : Nat) (hp : b + 6 + 86 * s = p) (hb : b + 350 ≤ 29200) (hs : s < 4) (hq : qS r p) (z1 : Int) (hz1 : -2147483648 ≤ z1 ∧ z1 ≤ 2147483647) (z2 : Int) (hz2 : -2147483648 ≤ z2 ∧ z2 ≤ 2147483647) : zM l yX10_weakestBy cX10_weakestBy 9 (some .int) ({ frames := 7, cells := 0, slots := 0, locals := 420 } : Room) D A cs tt N ad g [.ref (ad i), .int (zI ((b : Int))), .int (zI ((s : Int))), .int (zI (z1)), .int (zI (z2))] (rI0 N ad fun z g' => (-1 ≤ z ∧ z < r p) ∧ g = g') := by
  have hay1 : zAt ad (i) (ad i) := rfl
  have hay2 : zAt ad (i + 1) (ad (i + 1)) := rfl
  have hay3 : zAt ad (i + 7) (ad (i + 7)) := rfl
  have hmk := hq.1
  refine z_of (by decide) (Nat.le_of_ble_eq_true rfl) ?_
  intro pZ eZ sZ mZ below meth cZ C hr hlk hnm
  refine z_lv (lv' := [(0, .ref (ad i)), (1, .int (zI ((b : Int)))), (2, .int (zI ((s : Int)))), (3, .int (zI (z1))), (4, .int (zI (z2)))]) [0, 1, 2, 3, 4] rfl ?_
  have lp : ∀ (n9 : Nat) (wh : Int) (le : Int) (ll : Int) (g1 : Nat → va_E), (13 - ll).toNat = n9 → (g1 = g) → (-1 ≤ wh ∧ wh < r p) → (-2147483648 ≤ le ∧ le ≤ 2147483647) → (0 ≤ ll ∧ ll ≤ 12) → zV pZ l eZ ({ frames := 7, cells := 0, slots := 0, locals := 420 } : Room) sZ mZ ([.ref (ad i), .int (zI ((b : Int))), .int (zI ((s : Int))), .int (zI (z1)), .int (zI (z2))] : List Value).toArray below meth cZ (MQ below (zPost D A (rI0 N ad fun z g' => (-1 ≤ z ∧ z < r p) ∧ g = g')) ([.ref (ad i), .int (zI ((b : Int))), .int (zI ((s : Int))), .int (zI (z1)), .int (zI (z2))] : List Value).toArray sZ ({ frames := 7, cells := 0, slots := 0, locals := 420 } : Room).cells ({ frames := 7, cells := 0, slots := 0, locals := 420 } : Room).slots A) D A 9 (N) ad g1 (0) (0) 11 [(0, .ref (ad i)), (1, .int (zI ((b : Int)))), (2, .int (zI ((s : Int)))), (3, .int (zI (z1))), (4, .int (zI (z2))), (5, .int (zI (wh))), (6, .int (zI (le))), (7, .int (zI (ll)))] [] := by
    intro n9
    induction n9 using Nat.strongRecOn with
    | ind n9 ih =>
      intro wh le ll g1 hm9 hg1 hv0 hv1 hv2
      subst hg1
      refine z_iload C 7 dX10_weakestBy_11 rfl ?_
      refine z_aload_n C 0 dX10_weakestBy_13 rfl ?_
      refine z_iload_n C 1 dX10_weakestBy_14 rfl ?_
      refine z_iload_n C 2 dX10_weakestBy_15 rfl ?_
      refine z_cV (As := [.int (zI ((b : Int))), .int (zI ((s : Int)))]) (rest := [.int (zI (ll))]) (ci := 12) C (c_X10_many l D A cs tt N ad _ i hN _ hg _ ha1 b s p hp (by omega) (by omega)) (lt_A0 hN rfl) hay1 hg rfl rfl mv_yX10_many q_1733 hd_yX10_many (by decide) (Nat.le_of_ble_eq_true rfl) (by decide) dX10_weakestBy_16 rfl (kI0 fun vy4 gvy4 hvy4 => ?_)
      obtain ⟨rfl, rfl⟩ := hvy4
      refine z_icmp_ge (tgt := 59) C dX10_weakestBy_19 (by decide) (by omega) (by omega) (fun hby5 => ?_) (fun hby5 => ?_)
      · refine z_iload C 5 dX10_weakestBy_59 rfl ?_
        exact z_iret C hr hlk dX10_weakestBy_61 (by decide) (by decide) ⟨wh, rfl, rfl, rfl, by omega, rfl⟩
      · refine z_aload_n C 0 dX10_weakestBy_22 rfl ?_
        refine z_iload_n C 1 dX10_weakestBy_23 rfl ?_
        refine z_iload_n C 2 dX10_weakestBy_24 rfl ?_
        refine z_iload C 7 dX10_weakestBy_25 rfl ?_
        refine z_iload_n C 3 dX10_weakestBy_27 rfl ?_
        refine z_iload C 4 dX10_weakestBy_28 rfl ?_
        refine z_cV (As := [.int (zI ((b : Int))), .int (zI ((s : Int))), .int (zI (ll)), .int (zI (z1)), .int (zI (z2))]) (rest := []) (ci := 12) C (c_X10_ratio l D A cs tt N ad _ i hN _ hg _ ha1 _ ha7 b s p hp (by omega) (by omega) hq (ll) (by omega) (z1) (by omega) (z2) (by omega)) (lt_A0 hN rfl) hay1 hg rfl rfl mv_yX10_ratio q_1772 hd_yX10_ratio (by decide) (Nat.le_of_ble_eq_true rfl) (by decide) dX10_weakestBy_30 rfl (kI0 fun vy6 gvy6 hvy6 => ?_)
        obtain ⟨hvy6, hzvy6, rfl⟩ := hvy6
        refine z_istore (lv' := [(8, .int (zI (vy6))), (0, .ref (ad i)), (1, .int (zI ((b : Int)))), (2, .int (zI ((s : Int)))), (3, .int (zI (z1))), (4, .int (zI (z2))), (5, .int (zI (wh))), (6, .int (zI (le))), (7, .int (zI (ll)))]) C dX10_weakestBy_33 (by decide) rfl ?_
        refine z_iload C 0 dX10_weakestBy_35 rfl ?_
        refine z_iload C 7 dX10_weakestBy_37 rfl ?_
        refine z_icmp_lt (tgt := 45) C dX10_weakestBy_39 (by decide) (by omega) (by omega) (fun hby7 => ?_) (fun hby7 => ?_)
        · refine z_iload C 8 dX10_weakestBy_45 rfl ?_
          refine z_istore (lv' := [(5, .int (zI (ll))), (8, .int (zI (vy6))), (0, .ref (ad i)), (1, .int (zI ((b : Int)))), (2, .int (zI ((s : Int)))), (3, .int (zI (z1))), (4, .int (zI (z2))), (6, .int (zI (le))), (7, .int (zI (ll)))]) C dX10_weakestBy_47 (by decide) rfl ?_
          refine z_iload C 1 dX10_weakestBy_49 rfl ?_
          refine z_istore (lv' := [(6, .int (zI (vy6))), (5, .int (zI (ll))), (8, .int (zI (vy6))), (0, .ref (ad i)), (1, .int (zI ((b : Int)))), (2, .int (zI ((s : Int)))), (3, .int (zI (z1))), (4, .int (zI (z2))), (7, .int (zI (ll)))]) C dX10_weakestBy_51 (by decide) rfl ?_
          refine z_iinc (z := ll + 1) (lv' := [(7, .int (zI (ll + 1))), (6, .int (zI (vy6))), (5, .int (zI (ll))), (8, .int (zI (vy6))), (0, .ref (ad i)), (1, .int (zI ((b : Int)))), (2, .int (zI ((s : Int)))), (3, .int (zI (z1))), (4, .int (zI (z2)))]) (j := 8) C dX10_weakestBy_53 rfl rfl (by decide) rfl ?_
          refine z_goto (tgt := 11) C dX10_weakestBy_56 (by decide) ?_
          refine z_lv (lv' := [(0, .ref (ad i)), (1, .int (zI ((b : Int)))), (2, .int (zI ((s : Int)))), (3, .int (zI (z1))), (4, .int (zI (z2))), (5, .int (zI (ll))), (6, .int (zI (vy6))), (7, .int (zI (ll + 1)))]) [4, 5, 6, 7, 8, 2, 1, 0] rfl ?_
          exact ih _ (by omega) (ll) (vy6) (ll + 1) _ rfl rfl (by omega) (by omega) (by omega)
        · refine z_goto (tgt := 53) C dX10_weakestBy_42 (by decide) ?_
          refine z_iinc (z := ll + 1) (lv' := [(7, .int (zI (ll + 1))), (8, .int (zI (vy6))), (0, .ref (ad i)), (1, .int (zI ((b : Int)))), (2, .int (zI ((s : Int)))), (3, .int (zI (z1))), (4, .int (zI (z2))), (5, .int (zI (wh))), (6, .int (zI (le)))]) (j := 8) C dX10_weakestBy_53 rfl rfl (by decide) rfl ?_
          refine z_goto (tgt := 11) C dX10_weakestBy_56 (by decide) ?_
          refine z_lv (lv' := [(0, .ref (ad i)), (1, .int (zI ((b : Int)))), (2, .int (zI ((s : Int)))), (3, .int (zI (z1))), (4, .int (zI (z2))), (5, .int (zI (wh))), (6, .int (zI (le))), (7, .int (zI (ll + 1)))]) [2, 3, 4, 5, 6, 7, 8, 0] rfl ?_
          exact ih _ (by omega) (wh) (le) (ll + 1) _ rfl rfl (by omega) (by omega) (by omega)
  refine z_iconst (z := -1) C dX10_weakestBy_0 rfl ?_
  refine z_istore (lv' := [(5, .int (zI (-1))), (0, .ref (ad i)), (1, .int (zI ((b : Int)))), (2, .int (zI ((s : Int)))), (3, .int (zI (z1))), (4, .int (zI (z2)))]) C dX10_weakestBy_1 (by decide) rfl ?_
  refine z_sipush (z := 10000) C dX10_weakestBy_3 (by decide) ?_
  refine z_istore (lv' := [(6, .int (zI (10000))), (5, .int (zI (-1))), (0, .ref (ad i)), (1, .int (zI ((b : Int)))), (2, .int (zI ((s : Int)))), (3, .int (zI (z1))), (4, .int (zI (z2)))]) C dX10_weakestBy_6 (by decide) rfl ?_
  refine z_iconst (z := 0) C dX10_weakestBy_8 rfl ?_
  refine z_istore (lv' := [(7, .int (zI (0))), (6, .int (zI (10000))), (5, .int (zI (-1))), (0, .ref (ad i)), (1, .int (zI ((b : Int)))), (2, .int (zI ((s : Int)))), (3, .int (zI (z1))), (4, .int (zI (z2)))]) C dX10_weakestBy_9 (by decide) rfl ?_
  refine z_lv (lv' := [(0, .ref (ad i)), (1, .int (zI ((b : Int)))), (2, .int (zI ((s : Int)))), (3, .int (zI (z1))), (4, .int (zI (z2))), (5, .int (zI (-1))), (6, .int (zI (10000))), (7, .int (zI (0)))]) [3, 4, 5, 6, 7, 2, 1, 0] rfl ?_
  exact lp _ (-1) (10000) (0) _ rfl rfl (by omega) (by omega) (by omega)

set_option maxRecDepth 100000 in
set_option maxHeartbeats 4000000 in
theorem c_X10_leastRatioBy (l : Launch) (D : va_G) (A : Nat → Prop) (cs : Nat → ClassId) (tt : Nat) (N : Nat) (ad : Nat → Nat) (g : Nat → va_E) (i : Nat) (hN : i + 30 ≤ N) (F : Nat → Int) (hg : g i = mC ad i F) (r : Nat → Int) (ha1 : g (i + 1) = iA cs 29200 r) (tb : Nat → Int) (ha7 : g (i + 7) = iA cs 15 tb) (b s p : Nat) (hp : b + 6 + 86 * s = p) (hb : b + 350 ≤ 29200) (hs : s < 4) (hq : qS r p) (z1 : Int) (hz1 : -2147483648 ≤ z1 ∧ z1 ≤ 2147483647) (z2 : Int) (hz2 : -2147483648 ≤ z2 ∧ z2 ≤ 2147483647) : zM l yX10_leastRatioBy cX10_leastRatioBy 6 (some .int) ({ frames := 8, cells := 0, slots := 0, locals := 480 } : Room) D A cs tt N ad g [.ref (ad i), .int (zI ((b : Int))), .int (zI ((s : Int))), .int (zI (z1)), .int (zI (z2))] (rI0 N ad fun r g' => (-2147483648 ≤ r ∧ r ≤ 9999) ∧ (z2 = 0 → r = 9999) ∧ g = g') := by
  have hay1 : zAt ad (i) (ad i) := rfl
  have hay2 : zAt ad (i + 1) (ad (i + 1)) := rfl
  have hay3 : zAt ad (i + 7) (ad (i + 7)) := rfl
  have hmk := hq.1
  refine z_of (by decide) (Nat.le_of_ble_eq_true rfl) ?_
  intro pZ eZ sZ mZ below meth cZ C hr hlk hnm
  refine z_lv (lv' := [(0, .ref (ad i)), (1, .int (zI ((b : Int)))), (2, .int (zI ((s : Int)))), (3, .int (zI (z1))), (4, .int (zI (z2)))]) [0, 1, 2, 3, 4] rfl ?_
  refine z_aload_n C 0 dX10_leastRatioBy_0 rfl ?_
  refine z_iload_n C 1 dX10_leastRatioBy_1 rfl ?_
  refine z_iload_n C 2 dX10_leastRatioBy_2 rfl ?_
  refine z_iload_n C 3 dX10_leastRatioBy_3 rfl ?_
  refine z_iload C 4 dX10_leastRatioBy_4 rfl ?_
  refine z_cV (As := [.int (zI ((b : Int))), .int (zI ((s : Int))), .int (zI (z1)), .int (zI (z2))]) (rest := []) (ci := 12) C (c_X10_weakestBy l D A cs tt N ad _ i hN _ hg _ ha1 _ ha7 b s p hp (by omega) (by omega) hq (z1) (by omega) (z2) (by omega)) (lt_A0 hN rfl) hay1 hg rfl rfl mv_yX10_weakestBy q_1768 hd_yX10_weakestBy (by decide) (Nat.le_of_ble_eq_true rfl) (by decide) dX10_leastRatioBy_6 rfl (kI0 fun vy4 gvy4 hvy4 => ?_)
  obtain ⟨hvy4, rfl⟩ := hvy4
  refine z_istore (lv' := [(5, .int (zI (vy4))), (0, .ref (ad i)), (1, .int (zI ((b : Int)))), (2, .int (zI ((s : Int)))), (3, .int (zI (z1))), (4, .int (zI (z2)))]) C dX10_leastRatioBy_9 (by decide) rfl ?_
  refine z_iload C 0 dX10_leastRatioBy_11 rfl ?_
  refine z_iconst (z := -1) C dX10_leastRatioBy_13 rfl ?_
  refine z_icmp_ne (tgt := 23) C dX10_leastRatioBy_14 (by decide) (by omega) (by omega) (fun hby5 => ?_) (fun hby5 => ?_)
  · refine z_aload_n C 1 dX10_leastRatioBy_23 rfl ?_
    refine z_iload_n C 2 dX10_leastRatioBy_24 rfl ?_
    refine z_iload_n C 3 dX10_leastRatioBy_25 rfl ?_
    refine z_iload C 0 dX10_leastRatioBy_26 rfl ?_
    refine z_iload_n C 4 dX10_leastRatioBy_28 rfl ?_
    refine z_iload C 5 dX10_leastRatioBy_29 rfl ?_
    refine z_cV (As := [.int (zI ((b : Int))), .int (zI ((s : Int))), .int (zI (vy4)), .int (zI (z1)), .int (zI (z2))]) (rest := []) (ci := 12) C (c_X10_ratio l D A cs tt N ad _ i hN _ hg _ ha1 _ ha7 b s p hp (by omega) (by omega) hq (vy4) (by omega) (z1) (by omega) (z2) (by omega)) (lt_A0 hN rfl) hay1 hg rfl rfl mv_yX10_ratio q_1772 hd_yX10_ratio (by decide) (Nat.le_of_ble_eq_true rfl) (by decide) dX10_leastRatioBy_31 rfl (kI0 fun vy6 gvy6 hvy6 => ?_)
    obtain ⟨hvy6, hzvy6, rfl⟩ := hvy6
    exact z_iret C hr hlk dX10_leastRatioBy_34 (by decide) (by decide) ⟨vy6, rfl, rfl, rfl, by omega, by omega, rfl⟩
  · refine z_sipush (z := 9999) C dX10_leastRatioBy_17 (by decide) ?_
    refine z_goto (tgt := 34) C dX10_leastRatioBy_20 (by decide) ?_
    exact z_iret C hr hlk dX10_leastRatioBy_34 (by decide) (by decide) ⟨9999, rfl, rfl, rfl, by omega, by omega, rfl⟩

set_option maxRecDepth 100000 in
set_option maxHeartbeats 4000000 in
theorem c_X10_weakest (l : Launch) (D : va_G) (A : Nat → Prop) (cs : Nat → ClassId) (tt : Nat) (N : Nat) (ad : Nat → Nat) (g : Nat → va_E) (i : Nat) (hN : i + 30 ≤ N) (F : Nat → Int) (hg : g i = mC ad i F) (r : Nat → Int) (ha1 : g (i + 1) = iA cs 29200 r) (st : Nat → Int) (ha2 : g (i + 2) = iA cs 4 st) (tb : Nat → Int) (ha7 : g (i + 7) = iA cs 15 tb) (b s p : Nat) (hp : b + 6 + 86 * s = p) (hb : b + 350 ≤ 29200) (hs : s < 4) (hq : qS r p) : zM l yX10_weakest cX10_weakest 3 (some .int) ({ frames := 8, cells := 0, slots := 0, locals := 480 } : Room) D A cs tt N ad g [.ref (ad i), .int (zI ((b : Int))), .int (zI ((s : Int)))] (rI0 N ad fun z g' => (-1 ≤ z ∧ z < r p) ∧ g = g') := by
  have hay1 : zAt ad (i) (ad i) := rfl
  have hay2 : zAt ad (i + 1) (ad (i + 1)) := rfl
  have hay3 : zAt ad (i + 2) (ad (i + 2)) := rfl
  have hay4 : zAt ad (i + 7) (ad (i + 7)) := rfl
  have hmk := hq.1
  refine z_of (by decide) (Nat.le_of_ble_eq_true rfl) ?_
  intro pZ eZ sZ mZ below meth cZ C hr hlk hnm
  refine z_lv (lv' := [(0, .ref (ad i)), (1, .int (zI ((b : Int)))), (2, .int (zI ((s : Int))))]) [0, 1, 2] rfl ?_
  refine z_aload_n C 0 dX10_weakest_0 rfl ?_
  refine z_iload_n C 1 dX10_weakest_1 rfl ?_
  refine z_iload_n C 2 dX10_weakest_2 rfl ?_
  refine z_iconst (z := 0) C dX10_weakest_3 rfl ?_
  refine z_aload_n C 0 dX10_weakest_4 rfl ?_
  refine z_get (v := .ref (ad (i + 2))) C (lt_A0 hN rfl) hay1 hg rfl inA_X10 1 (by decide) q_1460 rfl rfl dX10_weakest_5 ?_
  refine z_iload_n C 2 dX10_weakest_8 rfl ?_
  refine z_iald C (lt_A (c := 2) hN rfl) hay3 ha2 (s) (by omega) (by omega) (by decide) dX10_weakest_9 ?_
  obtain ⟨xy5, exy6, hxy7⟩ := zI_of (zI (st (s)))
  rw [exy6]
  refine z_cV (As := [.int (zI ((b : Int))), .int (zI ((s : Int))), .int (zI (0)), .int (zI (xy5))]) (rest := []) (ci := 12) C (c_X10_weakestBy l D A cs tt N ad _ i hN _ hg _ ha1 _ ha7 b s p hp (by omega) (by omega) hq (0) (by omega) (xy5) (by omega)) (lt_A0 hN rfl) hay1 hg rfl rfl mv_yX10_weakestBy q_1768 hd_yX10_weakestBy (by decide) (Nat.le_of_ble_eq_true rfl) (by decide) dX10_weakest_10 rfl (kI0 fun vy8 gvy8 hvy8 => ?_)
  obtain ⟨hvy8, rfl⟩ := hvy8
  exact z_iret C hr hlk dX10_weakest_13 (by decide) (by decide) ⟨vy8, rfl, rfl, rfl, by omega, rfl⟩

set_option maxRecDepth 100000 in
set_option maxHeartbeats 4000000 in
theorem c_X10_leastRatio (l : Launch) (D : va_G) (A : Nat → Prop) (cs : Nat → ClassId) (tt : Nat) (N : Nat) (ad : Nat → Nat) (g : Nat → va_E) (i : Nat) (hN : i + 30 ≤ N) (F : Nat → Int) (hg : g i = mC ad i F) (r : Nat → Int) (ha1 : g (i + 1) = iA cs 29200 r) (st : Nat → Int) (ha2 : g (i + 2) = iA cs 4 st) (tb : Nat → Int) (ha7 : g (i + 7) = iA cs 15 tb) (b s p : Nat) (hp : b + 6 + 86 * s = p) (hb : b + 350 ≤ 29200) (hs : s < 4) (hq : qS r p) : zM l yX10_leastRatio cX10_leastRatio 3 (some .int) ({ frames := 9, cells := 0, slots := 0, locals := 540 } : Room) D A cs tt N ad g [.ref (ad i), .int (zI ((b : Int))), .int (zI ((s : Int)))] (rI0 N ad fun r g' => (-2147483648 ≤ r ∧ r ≤ 2147483647) ∧ g = g') := by
  have hay1 : zAt ad (i) (ad i) := rfl
  have hay2 : zAt ad (i + 1) (ad (i + 1)) := rfl
  have hay3 : zAt ad (i + 2) (ad (i + 2)) := rfl
  have hay4 : zAt ad (i + 7) (ad (i + 7)) := rfl
  have hmk := hq.1
  refine z_of (by decide) (Nat.le_of_ble_eq_true rfl) ?_
  intro pZ eZ sZ mZ below meth cZ C hr hlk hnm
  refine z_lv (lv' := [(0, .ref (ad i)), (1, .int (zI ((b : Int)))), (2, .int (zI ((s : Int))))]) [0, 1, 2] rfl ?_
  refine z_aload_n C 0 dX10_leastRatio_0 rfl ?_
  refine z_iload_n C 1 dX10_leastRatio_1 rfl ?_
  refine z_iload_n C 2 dX10_leastRatio_2 rfl ?_
  refine z_iconst (z := 0) C dX10_leastRatio_3 rfl ?_
  refine z_aload_n C 0 dX10_leastRatio_4 rfl ?_
  refine z_get (v := .ref (ad (i + 2))) C (lt_A0 hN rfl) hay1 hg rfl inA_X10 1 (by decide) q_1460 rfl rfl dX10_leastRatio_5 ?_
  refine z_iload_n C 2 dX10_leastRatio_8 rfl ?_
  refine z_iald C (lt_A (c := 2) hN rfl) hay3 ha2 (s) (by omega) (by omega) (by decide) dX10_leastRatio_9 ?_
  obtain ⟨xy5, exy6, hxy7⟩ := zI_of (zI (st (s)))
  rw [exy6]
  refine z_cV (As := [.int (zI ((b : Int))), .int (zI ((s : Int))), .int (zI (0)), .int (zI (xy5))]) (rest := []) (ci := 12) C (c_X10_leastRatioBy l D A cs tt N ad _ i hN _ hg _ ha1 _ ha7 b s p hp (by omega) (by omega) hq (0) (by omega) (xy5) (by omega)) (lt_A0 hN rfl) hay1 hg rfl rfl mv_yX10_leastRatioBy q_1764 hd_yX10_leastRatioBy (by decide) (Nat.le_of_ble_eq_true rfl) (by decide) dX10_leastRatio_10 rfl (kI0 fun vy8 gvy8 hvy8 => ?_)
  obtain ⟨hvy8, hzvy8, rfl⟩ := hvy8
  exact z_iret C hr hlk dX10_leastRatio_13 (by decide) (by decide) ⟨vy8, rfl, rfl, rfl, by omega, rfl⟩

set_option maxRecDepth 100000 in
set_option maxHeartbeats 4000000 in
theorem c_X10_isUnstable (l : Launch) (D : va_G) (A : Nat → Prop) (cs : Nat → ClassId) (tt : Nat) (N : Nat) (ad : Nat → Nat) (g : Nat → va_E) (i : Nat) (hN : i + 30 ≤ N) (F : Nat → Int) (hg : g i = mC ad i F) (r : Nat → Int) (ha1 : g (i + 1) = iA cs 29200 r) (st : Nat → Int) (ha2 : g (i + 2) = iA cs 4 st) (tb : Nat → Int) (ha7 : g (i + 7) = iA cs 15 tb) (b s p : Nat) (hp : b + 6 + 86 * s = p) (hb : b + 350 ≤ 29200) (hs : s < 4) (hq : qS r p) : zM l yX10_isUnstable cX10_isUnstable 3 (some .boolean) ({ frames := 10, cells := 0, slots := 0, locals := 600 } : Room) D A cs tt N ad g [.ref (ad i), .int (zI ((b : Int))), .int (zI ((s : Int)))] (rI0 N ad fun r g' => (0 ≤ r ∧ r ≤ 1) ∧ g = g') := by
  have hay1 : zAt ad (i) (ad i) := rfl
  have hay2 : zAt ad (i + 1) (ad (i + 1)) := rfl
  have hay3 : zAt ad (i + 2) (ad (i + 2)) := rfl
  have hay4 : zAt ad (i + 7) (ad (i + 7)) := rfl
  have hmk := hq.1
  refine z_of (by decide) (Nat.le_of_ble_eq_true rfl) ?_
  intro pZ eZ sZ mZ below meth cZ C hr hlk hnm
  refine z_lv (lv' := [(0, .ref (ad i)), (1, .int (zI ((b : Int)))), (2, .int (zI ((s : Int))))]) [0, 1, 2] rfl ?_
  refine z_aload_n C 0 dX10_isUnstable_0 rfl ?_
  refine z_iload_n C 1 dX10_isUnstable_1 rfl ?_
  refine z_iload_n C 2 dX10_isUnstable_2 rfl ?_
  refine z_cV (As := [.int (zI ((b : Int))), .int (zI ((s : Int)))]) (rest := []) (ci := 12) C (c_X10_leastRatio l D A cs tt N ad _ i hN _ hg _ ha1 _ ha2 _ ha7 b s p hp (by omega) (by omega) hq) (lt_A0 hN rfl) hay1 hg rfl rfl mv_yX10_leastRatio q_1760 hd_yX10_leastRatio (by decide) (Nat.le_of_ble_eq_true rfl) (by decide) dX10_isUnstable_3 rfl (kI0 fun vy5 gvy5 hvy5 => ?_)
  obtain ⟨hvy5, rfl⟩ := hvy5
  refine z_bipush (z := 100) C dX10_isUnstable_6 (by decide) ?_
  refine z_icmp_ge (tgt := 15) C dX10_isUnstable_8 (by decide) (by omega) (by omega) (fun hby6 => ?_) (fun hby6 => ?_)
  · refine z_iconst (z := 0) C dX10_isUnstable_15 rfl ?_
    exact z_zret C hr hlk dX10_isUnstable_16 (by decide) (by decide) (by decide) ⟨0, rfl, rfl, rfl, by omega, rfl⟩
  · refine z_iconst (z := 1) C dX10_isUnstable_11 rfl ?_
    refine z_goto (tgt := 16) C dX10_isUnstable_12 (by decide) ?_
    exact z_zret C hr hlk dX10_isUnstable_16 (by decide) (by decide) (by decide) ⟨1, rfl, rfl, rfl, by omega, rfl⟩

set_option maxRecDepth 100000 in
set_option maxHeartbeats 4000000 in
theorem c_X10_grade (l : Launch) (D : va_G) (A : Nat → Prop) (cs : Nat → ClassId) (tt : Nat) (N : Nat) (ad : Nat → Nat) (g : Nat → va_E) (i : Nat) (hN : i + 30 ≤ N) (F : Nat → Int) (hg : g i = mC ad i F) (r : Nat → Int) (ha1 : g (i + 1) = iA cs 29200 r) (b s p : Nat) (hp : b + 6 + 86 * s = p) (hb : b + 350 ≤ 29200) (hs : s < 4) (hq : qS r p) (zl : Int) (hzl : 0 ≤ zl ∧ zl < r p) (z1 : Int) (hz1 : -2147483648 ≤ z1 ∧ z1 ≤ 2147483647) : zM l yX10_grade cX10_grade 7 (some .int) ({ frames := 3, cells := 0, slots := 0, locals := 180 } : Room) D A cs tt N ad g [.ref (ad i), .int (zI ((b : Int))), .int (zI ((s : Int))), .int (zI (zl)), .int (zI (z1))] (rI0 N ad fun r g' => (-2147483648 ≤ r ∧ r ≤ 2147483647) ∧ g = g') := by
  have hay1 : zAt ad (i) (ad i) := rfl
  have hay2 : zAt ad (i + 1) (ad (i + 1)) := rfl
  have hmk := hq.1
  obtain ⟨ky3, hky3⟩ : ∃ k9 : Nat, (zl) = (k9 : Int) := ⟨((zl) : Int).toNat, by omega⟩
  obtain ⟨qy4, hqy4⟩ : ∃ q9 : Nat, p + 2 + 7 * ky3 = q9 := ⟨_, rfl⟩
  obtain ⟨hKzy5, hDzy5, hEzy5⟩ := qS.layer hq (k := ky3) (by omega) hqy4
  refine z_of (by decide) (Nat.le_of_ble_eq_true rfl) ?_
  intro pZ eZ sZ mZ below meth cZ C hr hlk hnm
  refine z_lv (lv' := [(0, .ref (ad i)), (1, .int (zI ((b : Int)))), (2, .int (zI ((s : Int)))), (3, .int (zI (zl))), (4, .int (zI (z1)))]) [0, 1, 2, 3, 4] rfl ?_
  refine z_iload_n C 3 dX10_grade_0 rfl ?_
  refine z_aload_n C 0 dX10_grade_1 rfl ?_
  refine z_iload_n C 1 dX10_grade_2 rfl ?_
  refine z_iload_n C 2 dX10_grade_3 rfl ?_
  refine z_cV (As := [.int (zI ((b : Int))), .int (zI ((s : Int)))]) (rest := [.int (zI (zl))]) (ci := 12) C (c_X10_many l D A cs tt N ad _ i hN _ hg _ ha1 b s p hp (by omega) (by omega)) (lt_A0 hN rfl) hay1 hg rfl rfl mv_yX10_many q_1733 hd_yX10_many (by decide) (Nat.le_of_ble_eq_true rfl) (by decide) dX10_grade_4 rfl (kI0 fun vy6 gvy6 hvy6 => ?_)
  obtain ⟨rfl, rfl⟩ := hvy6
  refine z_iconst (z := 1) C dX10_grade_7 rfl ?_
  refine z_isub C dX10_grade_8 ?_
  refine z_icmp_ne (tgt := 21) C dX10_grade_9 (by decide) (by omega) (by omega) (fun hby7 => ?_) (fun hby7 => ?_)
  · refine z_aload_n C 0 dX10_grade_21 rfl ?_
    refine z_iload_n C 1 dX10_grade_22 rfl ?_
    refine z_iload_n C 2 dX10_grade_23 rfl ?_
    refine z_iload_n C 3 dX10_grade_24 rfl ?_
    refine z_iconst (z := 1) C dX10_grade_25 rfl ?_
    refine z_iadd C dX10_grade_26 ?_
    refine z_iconst (z := 4) C dX10_grade_27 rfl ?_
    obtain ⟨ky8, hky8⟩ : ∃ k9 : Nat, (zl + 1) = (k9 : Int) := ⟨((zl + 1) : Int).toNat, by omega⟩
    obtain ⟨qy9, hqy9⟩ : ∃ q9 : Nat, p + 2 + 7 * ky8 = q9 := ⟨_, rfl⟩
    refine z_cV (As := [.int (zI ((b : Int))), .int (zI ((s : Int))), .int (zI (zl + 1)), .int (zI (4))]) (rest := []) (ci := 12) C (c_X10_of l D A cs tt N ad _ i hN _ hg _ ha1 b s p hp (by omega) (by omega) (zl + 1) (4) (qy9 + 4) (by omega) (by omega) (by omega)) (lt_A0 hN rfl) hay1 hg rfl rfl mv_yX10_of q_1749 hd_yX10_of (by decide) (Nat.le_of_ble_eq_true rfl) (by decide) dX10_grade_28 rfl (kI0 fun vy10 gvy10 hvy10 => ?_)
    obtain ⟨rfl, rfl⟩ := hvy10
    refine z_istore (lv' := [(5, .int (zI (r (qy9 + 4)))), (0, .ref (ad i)), (1, .int (zI ((b : Int)))), (2, .int (zI ((s : Int)))), (3, .int (zI (zl))), (4, .int (zI (z1)))]) C dX10_grade_31 (by decide) rfl ?_
    refine z_iload_n C 4 dX10_grade_33 rfl ?_
    refine z_if_ne (tgt := 41) C dX10_grade_34 (by decide) (by omega) (fun hby11 => ?_) (fun hby11 => ?_)
    · refine z_aload_n C 1 dX10_grade_41 rfl ?_
      refine z_iload_n C 2 dX10_grade_42 rfl ?_
      refine z_iload_n C 3 dX10_grade_43 rfl ?_
      refine z_iload_n C 4 dX10_grade_44 rfl ?_
      refine z_iconst (z := 1) C dX10_grade_45 rfl ?_
      refine z_isub C dX10_grade_46 ?_
      refine z_iconst (z := 4) C dX10_grade_47 rfl ?_
      obtain ⟨ky12, hky12⟩ : ∃ k9 : Nat, (zl - 1) = (k9 : Int) := ⟨((zl - 1) : Int).toNat, by omega⟩
      obtain ⟨qy13, hqy13⟩ : ∃ q9 : Nat, p + 2 + 7 * ky12 = q9 := ⟨_, rfl⟩
      refine z_cV (As := [.int (zI ((b : Int))), .int (zI ((s : Int))), .int (zI (zl - 1)), .int (zI (4))]) (rest := []) (ci := 12) C (c_X10_of l D A cs tt N ad _ i hN _ hg _ ha1 b s p hp (by omega) (by omega) (zl - 1) (4) (qy13 + 4) (by omega) (by omega) (by omega)) (lt_A0 hN rfl) hay1 hg rfl rfl mv_yX10_of q_1749 hd_yX10_of (by decide) (Nat.le_of_ble_eq_true rfl) (by decide) dX10_grade_48 rfl (kI0 fun vy14 gvy14 hvy14 => ?_)
      obtain ⟨rfl, rfl⟩ := hvy14
      refine z_istore (lv' := [(6, .int (zI (r (qy13 + 4)))), (5, .int (zI (r (qy9 + 4)))), (0, .ref (ad i)), (1, .int (zI ((b : Int)))), (2, .int (zI ((s : Int)))), (3, .int (zI (zl))), (4, .int (zI (z1)))]) C dX10_grade_51 (by decide) rfl ?_
      refine z_iload C 1 dX10_grade_53 rfl ?_
      refine z_iload C 0 dX10_grade_55 rfl ?_
      refine z_isub C dX10_grade_57 ?_
      obtain ⟨xy15, exy16, hxy17⟩ := zI_of (zI ((r (qy9 + 4)) - (r (qy13 + 4))))
      rw [exy16]
      refine z_cS (As := [.int (zI (xy15))]) (rest := []) C (c_X10_span l D A cs tt N ad _ (xy15) (by omega)) ms_yX10_span q_1839 hd_yX10_span (by decide) (Nat.le_of_ble_eq_true rfl) (by decide) dX10_grade_58 rfl (kI0 fun vy18 gvy18 hvy18 => ?_)
      obtain ⟨hvy18, rfl⟩ := hvy18
      refine z_bipush (z := 10) C dX10_grade_61 (by decide) ?_
      refine z_imul C dX10_grade_63 ?_
      refine z_aload_n C 2 dX10_grade_64 rfl ?_
      refine z_iload_n C 3 dX10_grade_65 rfl ?_
      refine z_iload_n C 4 dX10_grade_66 rfl ?_
      refine z_iload_n C 5 dX10_grade_67 rfl ?_
      refine z_iconst (z := 3) C dX10_grade_68 rfl ?_
      refine z_cV (As := [.int (zI ((b : Int))), .int (zI ((s : Int))), .int (zI (zl)), .int (zI (3))]) (rest := [.int (zI (vy18 * 10))]) (ci := 12) C (c_X10_of l D A cs tt N ad _ i hN _ hg _ ha1 b s p hp (by omega) (by omega) (zl) (3) (qy4 + 3) (by omega) (by omega) (by omega)) (lt_A0 hN rfl) hay1 hg rfl rfl mv_yX10_of q_1749 hd_yX10_of (by decide) (Nat.le_of_ble_eq_true rfl) (by decide) dX10_grade_69 rfl (kI0 fun vy19 gvy19 hvy19 => ?_)
      obtain ⟨rfl, rfl⟩ := hvy19
      obtain ⟨xy20, exy21, hxy22⟩ := zI_of (zI (vy18 * 10))
      rw [exy21]
      refine z_idiv C dX10_grade_72 (by omega) (by omega) (by omega) ?_
      obtain ⟨xy23, exy24, hxy25⟩ := zI_of (zI (xy20.tdiv (r (qy4 + 3))))
      rw [exy24]
      exact z_iret C hr hlk dX10_grade_73 (by decide) (by decide) ⟨xy23, rfl, rfl, rfl, by omega, rfl⟩
    · refine z_iconst (z := 0) C dX10_grade_37 rfl ?_
      refine z_goto (tgt := 51) C dX10_grade_38 (by decide) ?_
      refine z_istore (lv' := [(6, .int (zI (0))), (5, .int (zI (r (qy9 + 4)))), (0, .ref (ad i)), (1, .int (zI ((b : Int)))), (2, .int (zI ((s : Int)))), (3, .int (zI (zl))), (4, .int (zI (z1)))]) C dX10_grade_51 (by decide) rfl ?_
      refine z_iload C 1 dX10_grade_53 rfl ?_
      refine z_iload C 0 dX10_grade_55 rfl ?_
      refine z_isub C dX10_grade_57 ?_
      obtain ⟨xy26, exy27, hxy28⟩ := zI_of (zI ((r (qy9 + 4)) - 0))
      rw [exy27]
      refine z_cS (As := [.int (zI (xy26))]) (rest := []) C (c_X10_span l D A cs tt N ad _ (xy26) (by omega)) ms_yX10_span q_1839 hd_yX10_span (by decide) (Nat.le_of_ble_eq_true rfl) (by decide) dX10_grade_58 rfl (kI0 fun vy29 gvy29 hvy29 => ?_)
      obtain ⟨hvy29, rfl⟩ := hvy29
      refine z_bipush (z := 10) C dX10_grade_61 (by decide) ?_
      refine z_imul C dX10_grade_63 ?_
      refine z_aload_n C 2 dX10_grade_64 rfl ?_
      refine z_iload_n C 3 dX10_grade_65 rfl ?_
      refine z_iload_n C 4 dX10_grade_66 rfl ?_
      refine z_iload_n C 5 dX10_grade_67 rfl ?_
      refine z_iconst (z := 3) C dX10_grade_68 rfl ?_
      refine z_cV (As := [.int (zI ((b : Int))), .int (zI ((s : Int))), .int (zI (zl)), .int (zI (3))]) (rest := [.int (zI (vy29 * 10))]) (ci := 12) C (c_X10_of l D A cs tt N ad _ i hN _ hg _ ha1 b s p hp (by omega) (by omega) (zl) (3) (qy4 + 3) (by omega) (by omega) (by omega)) (lt_A0 hN rfl) hay1 hg rfl rfl mv_yX10_of q_1749 hd_yX10_of (by decide) (Nat.le_of_ble_eq_true rfl) (by decide) dX10_grade_69 rfl (kI0 fun vy30 gvy30 hvy30 => ?_)
      obtain ⟨rfl, rfl⟩ := hvy30
      obtain ⟨xy31, exy32, hxy33⟩ := zI_of (zI (vy29 * 10))
      rw [exy32]
      refine z_idiv C dX10_grade_72 (by omega) (by omega) (by omega) ?_
      obtain ⟨xy34, exy35, hxy36⟩ := zI_of (zI (xy31.tdiv (r (qy4 + 3))))
      rw [exy35]
      exact z_iret C hr hlk dX10_grade_73 (by decide) (by decide) ⟨xy34, rfl, rfl, rfl, by omega, rfl⟩
  · refine z_iload C 4 dX10_grade_12 rfl ?_
    refine z_iconst (z := 0) C dX10_grade_14 rfl ?_
    refine z_cS (As := [.int (zI (z1)), .int (zI (0))]) (rest := []) C (c_X10_lesser l D A cs tt N ad _ (z1) (by omega) (0) (by omega)) ms_yX10_lesser q_1792 hd_yX10_lesser (by decide) (Nat.le_of_ble_eq_true rfl) (by decide) dX10_grade_15 rfl (kI0 fun vy37 gvy37 hvy37 => ?_)
    obtain ⟨hvy37, rfl⟩ := hvy37
    refine z_goto (tgt := 31) C dX10_grade_18 (by decide) ?_
    refine z_istore (lv' := [(5, .int (zI (vy37))), (0, .ref (ad i)), (1, .int (zI ((b : Int)))), (2, .int (zI ((s : Int)))), (3, .int (zI (zl))), (4, .int (zI (z1)))]) C dX10_grade_31 (by decide) rfl ?_
    refine z_iload_n C 4 dX10_grade_33 rfl ?_
    refine z_if_ne (tgt := 41) C dX10_grade_34 (by decide) (by omega) (fun hby38 => ?_) (fun hby38 => ?_)
    · refine z_aload_n C 1 dX10_grade_41 rfl ?_
      refine z_iload_n C 2 dX10_grade_42 rfl ?_
      refine z_iload_n C 3 dX10_grade_43 rfl ?_
      refine z_iload_n C 4 dX10_grade_44 rfl ?_
      refine z_iconst (z := 1) C dX10_grade_45 rfl ?_
      refine z_isub C dX10_grade_46 ?_
      refine z_iconst (z := 4) C dX10_grade_47 rfl ?_
      obtain ⟨ky39, hky39⟩ : ∃ k9 : Nat, (zl - 1) = (k9 : Int) := ⟨((zl - 1) : Int).toNat, by omega⟩
      obtain ⟨qy40, hqy40⟩ : ∃ q9 : Nat, p + 2 + 7 * ky39 = q9 := ⟨_, rfl⟩
      refine z_cV (As := [.int (zI ((b : Int))), .int (zI ((s : Int))), .int (zI (zl - 1)), .int (zI (4))]) (rest := []) (ci := 12) C (c_X10_of l D A cs tt N ad _ i hN _ hg _ ha1 b s p hp (by omega) (by omega) (zl - 1) (4) (qy40 + 4) (by omega) (by omega) (by omega)) (lt_A0 hN rfl) hay1 hg rfl rfl mv_yX10_of q_1749 hd_yX10_of (by decide) (Nat.le_of_ble_eq_true rfl) (by decide) dX10_grade_48 rfl (kI0 fun vy41 gvy41 hvy41 => ?_)
      obtain ⟨rfl, rfl⟩ := hvy41
      refine z_istore (lv' := [(6, .int (zI (r (qy40 + 4)))), (5, .int (zI (vy37))), (0, .ref (ad i)), (1, .int (zI ((b : Int)))), (2, .int (zI ((s : Int)))), (3, .int (zI (zl))), (4, .int (zI (z1)))]) C dX10_grade_51 (by decide) rfl ?_
      refine z_iload C 1 dX10_grade_53 rfl ?_
      refine z_iload C 0 dX10_grade_55 rfl ?_
      refine z_isub C dX10_grade_57 ?_
      obtain ⟨xy42, exy43, hxy44⟩ := zI_of (zI (vy37 - (r (qy40 + 4))))
      rw [exy43]
      refine z_cS (As := [.int (zI (xy42))]) (rest := []) C (c_X10_span l D A cs tt N ad _ (xy42) (by omega)) ms_yX10_span q_1839 hd_yX10_span (by decide) (Nat.le_of_ble_eq_true rfl) (by decide) dX10_grade_58 rfl (kI0 fun vy45 gvy45 hvy45 => ?_)
      obtain ⟨hvy45, rfl⟩ := hvy45
      refine z_bipush (z := 10) C dX10_grade_61 (by decide) ?_
      refine z_imul C dX10_grade_63 ?_
      refine z_aload_n C 2 dX10_grade_64 rfl ?_
      refine z_iload_n C 3 dX10_grade_65 rfl ?_
      refine z_iload_n C 4 dX10_grade_66 rfl ?_
      refine z_iload_n C 5 dX10_grade_67 rfl ?_
      refine z_iconst (z := 3) C dX10_grade_68 rfl ?_
      refine z_cV (As := [.int (zI ((b : Int))), .int (zI ((s : Int))), .int (zI (zl)), .int (zI (3))]) (rest := [.int (zI (vy45 * 10))]) (ci := 12) C (c_X10_of l D A cs tt N ad _ i hN _ hg _ ha1 b s p hp (by omega) (by omega) (zl) (3) (qy4 + 3) (by omega) (by omega) (by omega)) (lt_A0 hN rfl) hay1 hg rfl rfl mv_yX10_of q_1749 hd_yX10_of (by decide) (Nat.le_of_ble_eq_true rfl) (by decide) dX10_grade_69 rfl (kI0 fun vy46 gvy46 hvy46 => ?_)
      obtain ⟨rfl, rfl⟩ := hvy46
      obtain ⟨xy47, exy48, hxy49⟩ := zI_of (zI (vy45 * 10))
      rw [exy48]
      refine z_idiv C dX10_grade_72 (by omega) (by omega) (by omega) ?_
      obtain ⟨xy50, exy51, hxy52⟩ := zI_of (zI (xy47.tdiv (r (qy4 + 3))))
      rw [exy51]
      exact z_iret C hr hlk dX10_grade_73 (by decide) (by decide) ⟨xy50, rfl, rfl, rfl, by omega, rfl⟩
    · refine z_iconst (z := 0) C dX10_grade_37 rfl ?_
      refine z_goto (tgt := 51) C dX10_grade_38 (by decide) ?_
      refine z_istore (lv' := [(6, .int (zI (0))), (5, .int (zI (vy37))), (0, .ref (ad i)), (1, .int (zI ((b : Int)))), (2, .int (zI ((s : Int)))), (3, .int (zI (zl))), (4, .int (zI (z1)))]) C dX10_grade_51 (by decide) rfl ?_
      refine z_iload C 1 dX10_grade_53 rfl ?_
      refine z_iload C 0 dX10_grade_55 rfl ?_
      refine z_isub C dX10_grade_57 ?_
      refine z_cS (As := [.int (zI (vy37 - 0))]) (rest := []) C (c_X10_span l D A cs tt N ad _ (vy37 - 0) (by omega)) ms_yX10_span q_1839 hd_yX10_span (by decide) (Nat.le_of_ble_eq_true rfl) (by decide) dX10_grade_58 rfl (kI0 fun vy53 gvy53 hvy53 => ?_)
      obtain ⟨hvy53, rfl⟩ := hvy53
      refine z_bipush (z := 10) C dX10_grade_61 (by decide) ?_
      refine z_imul C dX10_grade_63 ?_
      refine z_aload_n C 2 dX10_grade_64 rfl ?_
      refine z_iload_n C 3 dX10_grade_65 rfl ?_
      refine z_iload_n C 4 dX10_grade_66 rfl ?_
      refine z_iload_n C 5 dX10_grade_67 rfl ?_
      refine z_iconst (z := 3) C dX10_grade_68 rfl ?_
      refine z_cV (As := [.int (zI ((b : Int))), .int (zI ((s : Int))), .int (zI (zl)), .int (zI (3))]) (rest := [.int (zI (vy53 * 10))]) (ci := 12) C (c_X10_of l D A cs tt N ad _ i hN _ hg _ ha1 b s p hp (by omega) (by omega) (zl) (3) (qy4 + 3) (by omega) (by omega) (by omega)) (lt_A0 hN rfl) hay1 hg rfl rfl mv_yX10_of q_1749 hd_yX10_of (by decide) (Nat.le_of_ble_eq_true rfl) (by decide) dX10_grade_69 rfl (kI0 fun vy54 gvy54 hvy54 => ?_)
      obtain ⟨rfl, rfl⟩ := hvy54
      obtain ⟨xy55, exy56, hxy57⟩ := zI_of (zI (vy53 * 10))
      rw [exy56]
      refine z_idiv C dX10_grade_72 (by omega) (by omega) (by omega) ?_
      obtain ⟨xy58, exy59, hxy60⟩ := zI_of (zI (xy55.tdiv (r (qy4 + 3))))
      rw [exy59]
      exact z_iret C hr hlk dX10_grade_73 (by decide) (by decide) ⟨xy58, rfl, rfl, rfl, by omega, rfl⟩

set_option maxRecDepth 100000 in
set_option maxHeartbeats 4000000 in
theorem c_X10_kindThen (l : Launch) (D : va_G) (A : Nat → Prop) (cs : Nat → ClassId) (tt : Nat) (N : Nat) (ad : Nat → Nat) (g : Nat → va_E) (i : Nat) (hN : i + 30 ≤ N) (F : Nat → Int) (hg : g i = mC ad i F) (r : Nat → Int) (ha1 : g (i + 1) = iA cs 29200 r) (b s p : Nat) (hp : b + 6 + 86 * s = p) (hb : b + 350 ≤ 29200) (hs : s < 4) (hq : qS r p) (zl : Int) (hzl : 0 ≤ zl ∧ zl < r p) (z1 : Int) (hz1 : -2147483648 ≤ z1 ∧ z1 ≤ 2147483647) : zM l yX10_kindThen cX10_kindThen 6 (some .int) ({ frames := 4, cells := 0, slots := 0, locals := 240 } : Room) D A cs tt N ad g [.ref (ad i), .int (zI ((b : Int))), .int (zI ((s : Int))), .int (zI (zl)), .int (zI (z1))] (rI0 N ad fun r g' => (0 ≤ r ∧ r ≤ 4) ∧ g = g') := by
  have hay1 : zAt ad (i) (ad i) := rfl
  have hay2 : zAt ad (i + 1) (ad (i + 1)) := rfl
  have hmk := hq.1
  obtain ⟨ky3, hky3⟩ : ∃ k9 : Nat, (zl) = (k9 : Int) := ⟨((zl) : Int).toNat, by omega⟩
  obtain ⟨qy4, hqy4⟩ : ∃ q9 : Nat, p + 2 + 7 * ky3 = q9 := ⟨_, rfl⟩
  obtain ⟨hKzy5, hDzy5, hEzy5⟩ := qS.layer hq (k := ky3) (by omega) hqy4
  refine z_of (by decide) (Nat.le_of_ble_eq_true rfl) ?_
  intro pZ eZ sZ mZ below meth cZ C hr hlk hnm
  refine z_lv (lv' := [(0, .ref (ad i)), (1, .int (zI ((b : Int)))), (2, .int (zI ((s : Int)))), (3, .int (zI (zl))), (4, .int (zI (z1)))]) [0, 1, 2, 3, 4] rfl ?_
  refine z_aload_n C 0 dX10_kindThen_0 rfl ?_
  refine z_iload_n C 1 dX10_kindThen_1 rfl ?_
  refine z_iload_n C 2 dX10_kindThen_2 rfl ?_
  refine z_iload_n C 3 dX10_kindThen_3 rfl ?_
  refine z_iconst (z := 0) C dX10_kindThen_4 rfl ?_
  refine z_cV (As := [.int (zI ((b : Int))), .int (zI ((s : Int))), .int (zI (zl)), .int (zI (0))]) (rest := []) (ci := 12) C (c_X10_of l D A cs tt N ad _ i hN _ hg _ ha1 b s p hp (by omega) (by omega) (zl) (0) (qy4) (by omega) (by omega) (by omega)) (lt_A0 hN rfl) hay1 hg rfl rfl mv_yX10_of q_1749 hd_yX10_of (by decide) (Nat.le_of_ble_eq_true rfl) (by decide) dX10_kindThen_5 rfl (kI0 fun vy6 gvy6 hvy6 => ?_)
  obtain ⟨rfl, rfl⟩ := hvy6
  refine z_istore (lv' := [(5, .int (zI (r (qy4)))), (0, .ref (ad i)), (1, .int (zI ((b : Int)))), (2, .int (zI ((s : Int)))), (3, .int (zI (zl))), (4, .int (zI (z1)))]) C dX10_kindThen_8 (by decide) rfl ?_
  refine z_iload C 0 dX10_kindThen_10 rfl ?_
  refine z_iconst (z := 3) C dX10_kindThen_12 rfl ?_
  refine z_icmp_ne (tgt := 19) C dX10_kindThen_13 (by decide) (by omega) (by omega) (fun hby7 => ?_) (fun hby7 => ?_)
  · refine z_aload_n C 1 dX10_kindThen_19 rfl ?_
    refine z_iload_n C 2 dX10_kindThen_20 rfl ?_
    refine z_iload_n C 3 dX10_kindThen_21 rfl ?_
    refine z_iload_n C 4 dX10_kindThen_22 rfl ?_
    refine z_iconst (z := 2) C dX10_kindThen_23 rfl ?_
    refine z_cV (As := [.int (zI ((b : Int))), .int (zI ((s : Int))), .int (zI (zl)), .int (zI (2))]) (rest := []) (ci := 12) C (c_X10_of l D A cs tt N ad _ i hN _ hg _ ha1 b s p hp (by omega) (by omega) (zl) (2) (qy4 + 2) (by omega) (by omega) (by omega)) (lt_A0 hN rfl) hay1 hg rfl rfl mv_yX10_of q_1749 hd_yX10_of (by decide) (Nat.le_of_ble_eq_true rfl) (by decide) dX10_kindThen_24 rfl (kI0 fun vy8 gvy8 hvy8 => ?_)
    obtain ⟨rfl, rfl⟩ := hvy8
    obtain ⟨xy9, exy10, hxy11⟩ := zI_of (zI (r (qy4 + 2)))
    rw [exy10]
    refine z_if_le (tgt := 32) C dX10_kindThen_27 (by decide) (by omega) (fun hby12 => ?_) (fun hby12 => ?_)
    · refine z_iload C 0 dX10_kindThen_32 rfl ?_
      refine z_iconst (z := 4) C dX10_kindThen_34 rfl ?_
      refine z_icmp_ne (tgt := 41) C dX10_kindThen_35 (by decide) (by omega) (by omega) (fun hby13 => ?_) (fun hby13 => ?_)
      · refine z_aload_n C 1 dX10_kindThen_41 rfl ?_
        refine z_iload_n C 2 dX10_kindThen_42 rfl ?_
        refine z_iload_n C 3 dX10_kindThen_43 rfl ?_
        refine z_iload_n C 4 dX10_kindThen_44 rfl ?_
        refine z_iload C 5 dX10_kindThen_45 rfl ?_
        refine z_cV (As := [.int (zI ((b : Int))), .int (zI ((s : Int))), .int (zI (zl)), .int (zI (z1))]) (rest := []) (ci := 12) C (c_X10_grade l D A cs tt N ad _ i hN _ hg _ ha1 b s p hp (by omega) (by omega) hq (zl) (by omega) (z1) (by omega)) (lt_A0 hN rfl) hay1 hg rfl rfl mv_yX10_grade q_1835 hd_yX10_grade (by decide) (Nat.le_of_ble_eq_true rfl) (by decide) dX10_kindThen_47 rfl (kI0 fun vy14 gvy14 hvy14 => ?_)
        obtain ⟨hvy14, rfl⟩ := hvy14
        refine z_bipush (z := 20) C dX10_kindThen_50 (by decide) ?_
        refine z_icmp_lt (tgt := 57) C dX10_kindThen_52 (by decide) (by omega) (by omega) (fun hby15 => ?_) (fun hby15 => ?_)
        · refine z_aload_n C 1 dX10_kindThen_57 rfl ?_
          refine z_iload_n C 2 dX10_kindThen_58 rfl ?_
          refine z_iload_n C 3 dX10_kindThen_59 rfl ?_
          refine z_iload_n C 4 dX10_kindThen_60 rfl ?_
          refine z_iconst (z := 5) C dX10_kindThen_61 rfl ?_
          refine z_cV (As := [.int (zI ((b : Int))), .int (zI ((s : Int))), .int (zI (zl)), .int (zI (5))]) (rest := []) (ci := 12) C (c_X10_of l D A cs tt N ad _ i hN _ hg _ ha1 b s p hp (by omega) (by omega) (zl) (5) (qy4 + 5) (by omega) (by omega) (by omega)) (lt_A0 hN rfl) hay1 hg rfl rfl mv_yX10_of q_1749 hd_yX10_of (by decide) (Nat.le_of_ble_eq_true rfl) (by decide) dX10_kindThen_62 rfl (kI0 fun vy16 gvy16 hvy16 => ?_)
          obtain ⟨rfl, rfl⟩ := hvy16
          refine z_bipush (z := 24) C dX10_kindThen_65 (by decide) ?_
          obtain ⟨xy17, exy18, hxy19⟩ := zI_of (zI (r (qy4 + 5)))
          rw [exy18]
          refine z_icmp_lt (tgt := 74) C dX10_kindThen_67 (by decide) (by omega) (by omega) (fun hby20 => ?_) (fun hby20 => ?_)
          · refine z_iload C 0 dX10_kindThen_74 rfl ?_
            exact z_iret C hr hlk dX10_kindThen_76 (by decide) (by decide) ⟨r (qy4), rfl, rfl, rfl, by omega, rfl⟩
          · refine z_iconst (z := 1) C dX10_kindThen_70 rfl ?_
            refine z_goto (tgt := 76) C dX10_kindThen_71 (by decide) ?_
            exact z_iret C hr hlk dX10_kindThen_76 (by decide) (by decide) ⟨1, rfl, rfl, rfl, by omega, rfl⟩
        · refine z_iconst (z := 2) C dX10_kindThen_55 rfl ?_
          exact z_iret C hr hlk dX10_kindThen_56 (by decide) (by decide) ⟨2, rfl, rfl, rfl, by omega, rfl⟩
      · refine z_iload C 0 dX10_kindThen_38 rfl ?_
        exact z_iret C hr hlk dX10_kindThen_40 (by decide) (by decide) ⟨r (qy4), rfl, rfl, rfl, by omega, rfl⟩
    · refine z_iconst (z := 1) C dX10_kindThen_30 rfl ?_
      exact z_iret C hr hlk dX10_kindThen_31 (by decide) (by decide) ⟨1, rfl, rfl, rfl, by omega, rfl⟩
  · refine z_iload C 0 dX10_kindThen_16 rfl ?_
    exact z_iret C hr hlk dX10_kindThen_18 (by decide) (by decide) ⟨r (qy4), rfl, rfl, rfl, by omega, rfl⟩
end
section
-- 75.words.lean.txt
-- words of refp
theorem q_1823 : (Jvm.Cond.methodLink "SnowRecorderModel" (183 : Nat) ({ cls := "SnowRecorderModel", name := "load", desc := "(III)I" } : Jvm.MethodName)) ∈ AW := AW_m8 143 (by decide +kernel) (by decide +kernel)
theorem q_1825 : (Jvm.Cond.instanceMethod ({ cls := "SnowRecorderModel", name := "load", desc := "(III)I" } : Jvm.MethodName)) ∈ AW := AW_m8 145 (by decide +kernel) (by decide +kernel)
theorem q_1826 : (Jvm.Cond.code ({ cls := "SnowRecorderModel", name := "load", desc := "(III)I" } : Jvm.MethodName) prog_12_method_30_code (4 : Nat) (Option.some Jvm.ClassFile.FieldType.int)) ∈ AW := AW_m8 146 (by decide +kernel) (by decide +kernel)
theorem q_1908 : (Jvm.Cond.methodLink "SnowRecorderModel" (131 : Nat) ({ cls := "SnowRecorderModel", name := "sets", desc := "(IIIII)V" } : Jvm.MethodName)) ∈ AW := AW_m8 228 (by decide +kernel) (by decide +kernel)
theorem q_1910 : (Jvm.Cond.instanceMethod ({ cls := "SnowRecorderModel", name := "sets", desc := "(IIIII)V" } : Jvm.MethodName)) ∈ AW := AW_m8 230 (by decide +kernel) (by decide +kernel)
theorem q_1911 : (Jvm.Cond.code ({ cls := "SnowRecorderModel", name := "sets", desc := "(IIIII)V" } : Jvm.MethodName) prog_12_method_15_code (6 : Nat) (Option.none : Option Jvm.ClassFile.FieldType)) ∈ AW := AW_m8 231 (by decide +kernel) (by decide +kernel)
theorem q_1912 : (Jvm.Cond.methodLink "SnowRecorderModel" (150 : Nat) ({ cls := "SnowRecorderModel", name := "runsOff", desc := "(III)V" } : Jvm.MethodName)) ∈ AW := AW_m8 232 (by decide +kernel) (by decide +kernel)
theorem q_1914 : (Jvm.Cond.instanceMethod ({ cls := "SnowRecorderModel", name := "runsOff", desc := "(III)V" } : Jvm.MethodName)) ∈ AW := AW_m8 234 (by decide +kernel) (by decide +kernel)
theorem q_1915 : (Jvm.Cond.code ({ cls := "SnowRecorderModel", name := "runsOff", desc := "(III)V" } : Jvm.MethodName) prog_12_method_13_code (4 : Nat) (Option.none : Option Jvm.ClassFile.FieldType)) ∈ AW := AW_m8 235 (by decide +kernel) (by decide +kernel)
theorem q_1932 : (Jvm.Cond.methodLink "SnowRecorderModel" (176 : Nat) ({ cls := "SnowRecorderModel", name := "freezes", desc := "(I)V" } : Jvm.MethodName)) ∈ AW := AW_m9 12 (by decide +kernel) (by decide +kernel)
theorem q_1934 : (Jvm.Cond.instanceMethod ({ cls := "SnowRecorderModel", name := "freezes", desc := "(I)V" } : Jvm.MethodName)) ∈ AW := AW_m9 14 (by decide +kernel) (by decide +kernel)
theorem q_1935 : (Jvm.Cond.code ({ cls := "SnowRecorderModel", name := "freezes", desc := "(I)V" } : Jvm.MethodName) prog_12_method_28_code (3 : Nat) (Option.none : Option Jvm.ClassFile.FieldType)) ∈ AW := AW_m9 15 (by decide +kernel) (by decide +kernel)
theorem q_1944 : (Jvm.Cond.methodLink "SnowRecorderModel" (192 : Nat) ({ cls := "SnowRecorderModel", name := "kindThen", desc := "(IIII)I" } : Jvm.MethodName)) ∈ AW := AW_m9 24 (by decide +kernel) (by decide +kernel)
theorem q_1946 : (Jvm.Cond.instanceMethod ({ cls := "SnowRecorderModel", name := "kindThen", desc := "(IIII)I" } : Jvm.MethodName)) ∈ AW := AW_m9 26 (by decide +kernel) (by decide +kernel)
theorem q_1947 : (Jvm.Cond.code ({ cls := "SnowRecorderModel", name := "kindThen", desc := "(IIII)I" } : Jvm.MethodName) prog_12_method_33_code (6 : Nat) (Option.some Jvm.ClassFile.FieldType.int)) ∈ AW := AW_m9 27 (by decide +kernel) (by decide +kernel)
theorem s_101 : Cond.selects "SnowRecorderModel" ({ cls := "SnowRecorderModel", name := "kindThen", desc := "(IIII)I" } : Jvm.MethodName) ({ cls := "SnowRecorderModel", name := "kindThen", desc := "(IIII)I" } : Jvm.MethodName) ∈ AW := AW_m 101 (by decide +kernel) (by decide +kernel)
theorem s_75 : Cond.selects "SnowRecorderModel" ({ cls := "SnowRecorderModel", name := "load", desc := "(III)I" } : Jvm.MethodName) ({ cls := "SnowRecorderModel", name := "load", desc := "(III)I" } : Jvm.MethodName) ∈ AW := AW_m 75 (by decide +kernel) (by decide +kernel)
theorem s_92 : Cond.selects "SnowRecorderModel" ({ cls := "SnowRecorderModel", name := "sets", desc := "(IIIII)V" } : Jvm.MethodName) ({ cls := "SnowRecorderModel", name := "sets", desc := "(IIIII)V" } : Jvm.MethodName) ∈ AW := AW_m 92 (by decide +kernel) (by decide +kernel)
theorem s_93 : Cond.selects "SnowRecorderModel" ({ cls := "SnowRecorderModel", name := "runsOff", desc := "(III)V" } : Jvm.MethodName) ({ cls := "SnowRecorderModel", name := "runsOff", desc := "(III)V" } : Jvm.MethodName) ∈ AW := AW_m 93 (by decide +kernel) (by decide +kernel)
theorem s_98 : Cond.selects "SnowRecorderModel" ({ cls := "SnowRecorderModel", name := "freezes", desc := "(I)V" } : Jvm.MethodName) ({ cls := "SnowRecorderModel", name := "freezes", desc := "(I)V" } : Jvm.MethodName) ∈ AW := AW_m 98 (by decide +kernel) (by decide +kernel)
theorem hd_yX10_runsOff : yX10_runsOff.cls ≠ "java/lang/invoke/MethodHandle" ∧ yX10_runsOff.cls ≠ "java/lang/invoke/VarHandle" ∧ (parseMethodDescriptor yX10_runsOff.desc).map (fun d => d.parameters.length) = some 3 := by decide +kernel
theorem hd_yX10_freezes : yX10_freezes.cls ≠ "java/lang/invoke/MethodHandle" ∧ yX10_freezes.cls ≠ "java/lang/invoke/VarHandle" ∧ (parseMethodDescriptor yX10_freezes.desc).map (fun d => d.parameters.length) = some 1 := by decide +kernel
theorem hd_yX10_load : yX10_load.cls ≠ "java/lang/invoke/MethodHandle" ∧ yX10_load.cls ≠ "java/lang/invoke/VarHandle" ∧ (parseMethodDescriptor yX10_load.desc).map (fun d => d.parameters.length) = some 3 := by decide +kernel
theorem hd_yX10_sets : yX10_sets.cls ≠ "java/lang/invoke/MethodHandle" ∧ yX10_sets.cls ≠ "java/lang/invoke/VarHandle" ∧ (parseMethodDescriptor yX10_sets.desc).map (fun d => d.parameters.length) = some 5 := by decide +kernel
theorem hd_yX10_kindThen : yX10_kindThen.cls ≠ "java/lang/invoke/MethodHandle" ∧ yX10_kindThen.cls ≠ "java/lang/invoke/VarHandle" ∧ (parseMethodDescriptor yX10_kindThen.desc).map (fun d => d.parameters.length) = some 4 := by decide +kernel
theorem mv_yX10_runsOff : zWv yX10_runsOff cX10_runsOff 4 none := ⟨q_1914, s_93, q_15, q_1915⟩
theorem mv_yX10_freezes : zWv yX10_freezes cX10_freezes 3 none := ⟨q_1934, s_98, q_15, q_1935⟩
theorem mv_yX10_load : zWv yX10_load cX10_load 4 (some .int) := ⟨q_1825, s_75, q_15, q_1826⟩
theorem mv_yX10_sets : zWv yX10_sets cX10_sets 6 none := ⟨q_1910, s_92, q_15, q_1911⟩
theorem mv_yX10_kindThen : zWv yX10_kindThen cX10_kindThen 6 (some .int) := ⟨q_1946, s_101, q_15, q_1947⟩
end
