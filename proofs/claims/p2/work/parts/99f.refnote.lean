theorem uZ_any {r : Nat → Int} {k n : Nat} {v lo hi : Int} (h : ∀ j, j < n → lo ≤ r j ∧ r j ≤ hi) (hv : lo ≤ v ∧ v ≤ hi) : ∀ j, j < n → lo ≤ uZ r k v j ∧ uZ r k v j ≤ hi := fun j hj => by
  by_cases e : j = k
  · rw [e, uZ_s]; exact hv
  · rw [uZ_n _ _ e]; exact h j hj

set_option maxRecDepth 100000 in
set_option maxHeartbeats 4000000 in
theorem c_X10_forget (l : Launch) (D : va_G) (A : Nat → Prop) (cs : Nat → ClassId) (tt : Nat) (N : Nat) (ad : Nat → Nat) (g : Nat → va_E) (i : Nat) (hN : i + 30 ≤ N) (x : Int) (hx : 0 ≤ x ∧ x ≤ 512) (F r : Nat → Int) (hM : okMr cs ad g i x F r) : zM l yX10_forget cX10_forget 1 none ({ frames := 1, cells := 0, slots := 0, locals := 60 } : Room) D A cs tt N ad g [.ref (ad i)] (rV0 N ad fun g' => (∃ F' r' : Nat → Int, okMr cs ad g' i (x + 1) F' r' ∧ F' 23 = F 23) ∧ ∀ j, j < i ∨ i + 30 ≤ j → g' j = g j) := by
  obtain ⟨hg, ⟨⟨e13, e14, e25, e27, e29⟩, k15, k16, k17, k18, k19, k20, k23⟩, hRD, hTx, hA, st, op, ai, fa, mu, tb, ns, nh, nd, rf, pi, tp, te, ki, li, ok1, ok2, fo, dd, dps, ⟨ha1, ha2, ha3, ha4, ha5, ha6, ha7, ha8, ha9, ha10, ha11, ha12, ha13, ha14, ha15, ha24, ha25, ha26, ha27, ha28, ha29⟩, hEv, hPt, hns, htp⟩ := id hM
  obtain ⟨-, hop, hai, hfa, hT, hT1⟩ := id hEv
  have hay1 : zAt ad (i) (ad i) := rfl
  have hay2 : zAt ad (i + 1) (ad (i + 1)) := rfl
  have hay3 : zAt ad (i + 2) (ad (i + 2)) := rfl
  have hay4 : zAt ad (i + 3) (ad (i + 3)) := rfl
  have hay5 : zAt ad (i + 4) (ad (i + 4)) := rfl
  have hay6 : zAt ad (i + 5) (ad (i + 5)) := rfl
  have hay7 : zAt ad (i + 6) (ad (i + 6)) := rfl
  have hay8 : zAt ad (i + 7) (ad (i + 7)) := rfl
  have hay9 : zAt ad (i + 8) (ad (i + 8)) := rfl
  have hay10 : zAt ad (i + 9) (ad (i + 9)) := rfl
  have hay11 : zAt ad (i + 10) (ad (i + 10)) := rfl
  have hay12 : zAt ad (i + 11) (ad (i + 11)) := rfl
  have hay13 : zAt ad (i + 12) (ad (i + 12)) := rfl
  have hay14 : zAt ad (i + 13) (ad (i + 13)) := rfl
  have hay15 : zAt ad (i + 14) (ad (i + 14)) := rfl
  have hay16 : zAt ad (i + 15) (ad (i + 15)) := rfl
  have hay17 : zAt ad (i + 24) (ad (i + 24)) := rfl
  have hay18 : zAt ad (i + 25) (ad (i + 25)) := rfl
  have hay19 : zAt ad (i + 26) (ad (i + 26)) := rfl
  have hay20 : zAt ad (i + 27) (ad (i + 27)) := rfl
  have hay21 : zAt ad (i + 28) (ad (i + 28)) := rfl
  have hay22 : zAt ad (i + 29) (ad (i + 29)) := rfl
  obtain ⟨⟨hsyy23, htyy23, hnyy23, hpyy23⟩, hlyy23⟩ := okA.at0 hA
  simp only [Nat.zero_add] at hsyy23 hnyy23 hpyy23
  have hmn : ∀ s, s < 4 → 0 ≤ r (6 + 86 * s) ∧ r (6 + 86 * s) ≤ 12 := fun s hs => (hsyy23 s hs).1
  have h5 : 0 ≤ r 5 ∧ r 5 ≤ 6 := hpyy23
  refine z_of (by decide) (Nat.le_of_ble_eq_true rfl) ?_
  intro pZ eZ sZ mZ below meth cZ C hr hlk hnm
  refine z_lv (lv' := [(0, .ref (ad i))]) [0] rfl ?_
  refine z_aload_n C 0 dX10_forget_0 rfl ?_
  refine z_iconst (z := 0) C dX10_forget_1 rfl ?_
  refine z_put (fs' := mF ad (i) (uZ F 12 (0))) C (by omega) hay1 hg tyX10 tyX10_ok nmX10 rfl inA_X10 12 (by decide) q_1471 rfl rfl rfl rfl (Nat.le_of_ble_eq_true rfl) rfl dX10_forget_2 (fun gy24 egy25 => ?_)
  have hgy26 := up_s egy25
  refine z_aload_n C 0 dX10_forget_5 rfl ?_
  refine z_iconst (z := 0) C dX10_forget_6 rfl ?_
  refine z_put (fs' := mF ad (i) (uZ (uZ F 12 (0)) 17 (0))) C (by omega) hay1 hgy26 tyX10 tyX10_ok nmX10 rfl inA_X10 17 (by decide) q_1476 rfl rfl rfl rfl (Nat.le_of_ble_eq_true rfl) rfl dX10_forget_7 (fun gy27 egy28 => ?_)
  have hgy29 := up_s egy28
  have hgy30 := up_n egy25 ha1 (ne_o (i := i) (c := 1) (d := 0) rfl)
  have hgy31 := up_n egy28 hgy30 (ne_o (i := i) (c := 1) (d := 0) rfl)
  have hFy32 : ∀ f, f ≠ 12 → f ≠ 17 → (uZ (uZ F 12 (0)) 17 (0)) f = F f := fun f n12 n17 => ((uZ_n _ _ n17).trans ((uZ_n _ _ n12).trans rfl))
  have hey33 : (uZ (uZ F 12 (0)) 17 (0)) 13 = F 13 := (fn (fn rfl (by decide)) (by decide))
  have hey34 : (uZ (uZ F 12 (0)) 17 (0)) 14 = F 14 := (fn (fn rfl (by decide)) (by decide))
  have hey35 : (uZ (uZ F 12 (0)) 17 (0)) 15 = F 15 := (fn (fn rfl (by decide)) (by decide))
  have hey36 : (uZ (uZ F 12 (0)) 17 (0)) 16 = F 16 := (fn (fn rfl (by decide)) (by decide))
  have hey37 : (uZ (uZ F 12 (0)) 17 (0)) 17 = 0 := (uZ_s _ _ _)
  have hey38 : (uZ (uZ F 12 (0)) 17 (0)) 18 = F 18 := (fn (fn rfl (by decide)) (by decide))
  have hey39 : (uZ (uZ F 12 (0)) 17 (0)) 19 = F 19 := (fn (fn rfl (by decide)) (by decide))
  have hey40 : (uZ (uZ F 12 (0)) 17 (0)) 20 = F 20 := (fn (fn rfl (by decide)) (by decide))
  have hey41 : (uZ (uZ F 12 (0)) 17 (0)) 23 = F 23 := (fn (fn rfl (by decide)) (by decide))
  have hey42 : (uZ (uZ F 12 (0)) 17 (0)) 25 = F 25 := (fn (fn rfl (by decide)) (by decide))
  have hey43 : (uZ (uZ F 12 (0)) 17 (0)) 27 = F 27 := (fn (fn rfl (by decide)) (by decide))
  have hey44 : (uZ (uZ F 12 (0)) 17 (0)) 28 = F 28 := (fn (fn rfl (by decide)) (by decide))
  have hey45 : (uZ (uZ F 12 (0)) 17 (0)) 29 = F 29 := (fn (fn rfl (by decide)) (by decide))
  have hKy46 : okF (uZ (uZ F 12 (0)) 17 (0)) := by unfold okF; omega
  have hMy47 : okMr cs ad gy27 i (x + 1) (uZ (uZ F 12 (0)) 17 (0)) r := okMr.upd hM hgy29 hKy46 (fun f a => hFy32 f (by omega) (by omega)) hgy31 (hA.mono (by omega)) (fun j a b => by
      exact Or.inl (by rw [egy28, va_up_ne _ _ (by omega)]; rw [egy25, va_up_ne _ _ (by omega)]))
  have h23 : (uZ (uZ F 12 (0)) 17 (0)) 23 = F 23 := (fn (fn rfl (by decide)) (by decide))
  exact z_vret C hr hlk dX10_forget_10 (by decide) (by decide) ⟨rfl, rfl, rfl, ⟨_, _, hMy47, by omega⟩, fun j j1 => by rw [egy28, va_up_ne _ _ (by omega)]; rw [egy25, va_up_ne _ _ (by omega)]⟩

set_option maxRecDepth 100000 in
set_option maxHeartbeats 4000000 in
theorem c_X10_note_a (l : Launch) (D : va_G) (A : Nat → Prop) (cs : Nat → ClassId) (tt : Nat) (N : Nat) (ad : Nat → Nat) (g : Nat → va_E) (i : Nat) (hN : i + 30 ≤ N) (x : Int) (hx : 0 ≤ x ∧ x ≤ 512) (F r : Nat → Int) (hM : okMr cs ad g i x F r) (n : Nat) (hn4 : n < 4) (z1 : Int) (hz1 : -2147483648 ≤ z1 ∧ z1 ≤ 2147483647) (z2 : Int) (hz2 : -2147483648 ≤ z2 ∧ z2 ≤ 2147483647) : zM l yX10_note cX10_note 4 (some .int) ({ frames := 2, cells := 0, slots := 0, locals := 120 } : Room) D A cs tt N ad g [.ref (ad i), .int (zI ((n : Int))), .int (zI (z1)), .int (zI (z2))] (rI0 N ad fun q g' => (-2147483648 ≤ q ∧ q ≤ 2147483647) ∧ (∃ F' r' : Nat → Int, okMr cs ad g' i (x + 1) F' r' ∧ F' 23 = F 23) ∧ ∀ j, j < i ∨ i + 30 ≤ j → g' j = g j) := by
  obtain ⟨hg, ⟨⟨e13, e14, e25, e27, e29⟩, k15, k16, k17, k18, k19, k20, k23⟩, hRD, hTx, hA, st, op, ai, fa, mu, tb, ns, nh, nd, rf, pi, tp, te, ki, li, ok1, ok2, fo, dd, dps, ⟨ha1, ha2, ha3, ha4, ha5, ha6, ha7, ha8, ha9, ha10, ha11, ha12, ha13, ha14, ha15, ha24, ha25, ha26, ha27, ha28, ha29⟩, hEv, hPt, hns, htp⟩ := id hM
  obtain ⟨-, hop, hai, hfa, hT, hT1⟩ := id hEv
  have hay1 : zAt ad (i) (ad i) := rfl
  have hay2 : zAt ad (i + 1) (ad (i + 1)) := rfl
  have hay3 : zAt ad (i + 2) (ad (i + 2)) := rfl
  have hay4 : zAt ad (i + 3) (ad (i + 3)) := rfl
  have hay5 : zAt ad (i + 4) (ad (i + 4)) := rfl
  have hay6 : zAt ad (i + 5) (ad (i + 5)) := rfl
  have hay7 : zAt ad (i + 6) (ad (i + 6)) := rfl
  have hay8 : zAt ad (i + 7) (ad (i + 7)) := rfl
  have hay9 : zAt ad (i + 8) (ad (i + 8)) := rfl
  have hay10 : zAt ad (i + 9) (ad (i + 9)) := rfl
  have hay11 : zAt ad (i + 10) (ad (i + 10)) := rfl
  have hay12 : zAt ad (i + 11) (ad (i + 11)) := rfl
  have hay13 : zAt ad (i + 12) (ad (i + 12)) := rfl
  have hay14 : zAt ad (i + 13) (ad (i + 13)) := rfl
  have hay15 : zAt ad (i + 14) (ad (i + 14)) := rfl
  have hay16 : zAt ad (i + 15) (ad (i + 15)) := rfl
  have hay17 : zAt ad (i + 24) (ad (i + 24)) := rfl
  have hay18 : zAt ad (i + 25) (ad (i + 25)) := rfl
  have hay19 : zAt ad (i + 26) (ad (i + 26)) := rfl
  have hay20 : zAt ad (i + 27) (ad (i + 27)) := rfl
  have hay21 : zAt ad (i + 28) (ad (i + 28)) := rfl
  have hay22 : zAt ad (i + 29) (ad (i + 29)) := rfl
  obtain ⟨⟨hsyy23, htyy23, hnyy23, hpyy23⟩, hlyy23⟩ := okA.at0 hA
  simp only [Nat.zero_add] at hsyy23 hnyy23 hpyy23
  have hmn : ∀ s, s < 4 → 0 ≤ r (6 + 86 * s) ∧ r (6 + 86 * s) ≤ 12 := fun s hs => (hsyy23 s hs).1
  have h5 : 0 ≤ r 5 ∧ r 5 ≤ 6 := hpyy23
  refine z_of (by decide) (Nat.le_of_ble_eq_true rfl) ?_
  intro pZ eZ sZ mZ below meth cZ C hr hlk hnm
  refine z_lv (lv' := [(0, .ref (ad i)), (1, .int (zI ((n : Int)))), (2, .int (zI (z1))), (3, .int (zI (z2)))]) [0, 1, 2, 3] rfl ?_
  refine z_aload_n C 0 dX10_note_0 rfl ?_
  refine z_iconst (z := 0) C dX10_note_1 rfl ?_
  refine z_put (fs' := mF ad (i) (uZ F 12 (0))) C (by omega) hay1 hg tyX10 tyX10_ok nmX10 rfl inA_X10 12 (by decide) q_1471 rfl rfl rfl rfl (Nat.le_of_ble_eq_true rfl) rfl dX10_note_2 (fun gy24 egy25 => ?_)
  have hgy26 := up_s egy25
  refine z_aload_n C 0 dX10_note_5 rfl ?_
  refine z_get (v := .int (zI (F 17))) C (by omega) hay1 hgy26 rfl inA_X10 17 (by decide) q_1476 rfl (fv (F := (uZ F 12 (0))) (f := 17) (fn rfl (by decide))) dX10_note_6 ?_
  refine z_bipush (z := 8) C dX10_note_9 (by decide) ?_
  refine z_icmp_eq (tgt := 49) C dX10_note_11 (by decide) (by omega) (by omega) (fun hby27 => ?_) (fun hby27 => ?_)
  · refine z_aload_n C 0 dX10_note_49 rfl ?_
    refine z_iconst (z := 2) C dX10_note_50 rfl ?_
    have hgy28 := up_n egy25 ha11 (ne_o (i := i) (c := 11) (d := 0) rfl)
    refine z_cV (As := [.int (zI (2))]) (rest := []) (ci := 12) C (c_X10_refuses l D A cs tt N ad _ i hN _ hgy26 _ hgy28 (2) (by omega)) (by omega) hay1 hgy26 rfl rfl mv_yX10_refuses q_1866 hd_yX10_refuses (by decide) (Nat.le_of_ble_eq_true rfl) (by decide) dX10_note_51 rfl (kI0 fun vy29 gvy29 hvy29 => ?_)
    obtain ⟨hrvy29, ⟨tvy29, hdvy29⟩, hfvy29⟩ := hvy29
    have hgy30 := (hfvy29 (i) (ne_o (i := i) (c := 0) (d := 11) rfl)).trans hgy26
    have hgy31 := up_n egy25 ha1 (ne_o (i := i) (c := 1) (d := 0) rfl)
    have hgy32 := (hfvy29 (i + 1) (ne_o (i := i) (c := 1) (d := 11) rfl)).trans hgy31
    have hFy33 : ∀ f, f ≠ 12 → (uZ F 12 (0)) f = F f := fun f n12 => ((uZ_n _ _ n12).trans rfl)
    have hey34 : (uZ F 12 (0)) 13 = F 13 := (fn rfl (by decide))
    have hey35 : (uZ F 12 (0)) 14 = F 14 := (fn rfl (by decide))
    have hey36 : (uZ F 12 (0)) 15 = F 15 := (fn rfl (by decide))
    have hey37 : (uZ F 12 (0)) 16 = F 16 := (fn rfl (by decide))
    have hey38 : (uZ F 12 (0)) 17 = F 17 := (fn rfl (by decide))
    have hey39 : (uZ F 12 (0)) 18 = F 18 := (fn rfl (by decide))
    have hey40 : (uZ F 12 (0)) 19 = F 19 := (fn rfl (by decide))
    have hey41 : (uZ F 12 (0)) 20 = F 20 := (fn rfl (by decide))
    have hey42 : (uZ F 12 (0)) 23 = F 23 := (fn rfl (by decide))
    have hey43 : (uZ F 12 (0)) 25 = F 25 := (fn rfl (by decide))
    have hey44 : (uZ F 12 (0)) 27 = F 27 := (fn rfl (by decide))
    have hey45 : (uZ F 12 (0)) 28 = F 28 := (fn rfl (by decide))
    have hey46 : (uZ F 12 (0)) 29 = F 29 := (fn rfl (by decide))
    have hKy47 : okF (uZ F 12 (0)) := by unfold okF; omega
    have hMy48 : okMr cs ad gvy29 i (x + 1) (uZ F 12 (0)) r := okMr.upd hM hgy30 hKy47 (fun f a => hFy33 f (by omega)) hgy32 (hA.mono (by omega)) (fun j a b => by
        by_cases e0 : j = i + 11
        · exact Or.inr ⟨11, _, e0, lsP.l (by decide), by rw [e0]; exact hdvy29⟩
        exact Or.inl (by rw [hfvy29 _ (by omega)]; rw [egy25, va_up_ne _ _ (by omega)]))
    have h23 : (uZ F 12 (0)) 23 = F 23 := (fn rfl (by decide))
    exact z_iret C hr hlk dX10_note_54 (by decide) (by decide) ⟨vy29, rfl, rfl, rfl, by omega, ⟨_, _, hMy48, by omega⟩, fun j j1 => by rw [hfvy29 _ (by omega)]; rw [egy25, va_up_ne _ _ (by omega)]⟩
  · refine z_iload_n C 1 dX10_note_14 rfl ?_
    refine z_iconst (z := 0) C dX10_note_15 rfl ?_
    refine z_aload_n C 0 dX10_note_16 rfl ?_
    refine z_get (v := .int (zI (F 13))) C (by omega) hay1 hgy26 rfl inA_X10 13 (by decide) q_1472 rfl (fv (F := (uZ F 12 (0))) (f := 13) (fn rfl (by decide))) dX10_note_17 ?_
    refine z_iconst (z := 1) C dX10_note_20 rfl ?_
    refine z_isub C dX10_note_21 ?_
    refine z_cS (As := [.int (zI ((n : Int))), .int (zI (0)), .int (zI ((F 13) - 1))]) (rest := []) C (c_X10_within l D A cs tt N ad _ ((n : Int)) (by omega) (0) (by omega) ((F 13) - 1) (by omega)) ms_yX10_within q_1686 hd_yX10_within (by decide) (Nat.le_of_ble_eq_true rfl) (by decide) dX10_note_22 rfl (kI0 fun vy49 gvy49 hvy49 => ?_)
    obtain ⟨hvy49, rfl⟩ := hvy49
    rcases hvy49 with ⟨rfl, hxvy49⟩ | ⟨rfl, hxvy49⟩
    · refine z_if_eq (tgt := 49) C dX10_note_25 (by decide) (by omega) (fun h => absurd h (by omega)) (fun _ => ?_)
      refine z_iload_n C 2 dX10_note_28 rfl ?_
      refine z_iconst (z := 0) C dX10_note_29 rfl ?_
      refine z_bipush (z := 48) C dX10_note_30 (by decide) ?_
      refine z_cS (As := [.int (zI (z1)), .int (zI (0)), .int (zI (48))]) (rest := []) C (c_X10_within l D A cs tt N ad _ (z1) (by omega) (0) (by omega) (48) (by omega)) ms_yX10_within q_1686 hd_yX10_within (by decide) (Nat.le_of_ble_eq_true rfl) (by decide) dX10_note_32 rfl (kI0 fun vy50 gvy50 hvy50 => ?_)
      obtain ⟨hvy50, rfl⟩ := hvy50
      rcases hvy50 with ⟨rfl, hxvy50⟩ | ⟨rfl, hxvy50⟩
      · refine z_if_eq (tgt := 49) C dX10_note_35 (by decide) (by omega) (fun h => absurd h (by omega)) (fun _ => ?_)
        refine z_iload_n C 3 dX10_note_38 rfl ?_
        refine z_iconst (z := 0) C dX10_note_39 rfl ?_
        refine z_sipush (z := 9999) C dX10_note_40 (by decide) ?_
        refine z_cS (As := [.int (zI (z2)), .int (zI (0)), .int (zI (9999))]) (rest := []) C (c_X10_within l D A cs tt N ad _ (z2) (by omega) (0) (by omega) (9999) (by omega)) ms_yX10_within q_1686 hd_yX10_within (by decide) (Nat.le_of_ble_eq_true rfl) (by decide) dX10_note_43 rfl (kI0 fun vy51 gvy51 hvy51 => ?_)
        obtain ⟨hvy51, rfl⟩ := hvy51
        rcases hvy51 with ⟨rfl, hxvy51⟩ | ⟨rfl, hxvy51⟩
        · refine z_if_ne (tgt := 55) C dX10_note_46 (by decide) (by omega) (fun _ => ?_) (fun h => absurd h (by omega))
          refine z_aload_n C 0 dX10_note_55 rfl ?_
          refine z_get (v := .ref (ad (i + 8))) C (by omega) hay1 hgy26 rfl inA_X10 7 (by decide) q_1466 rfl rfl dX10_note_56 ?_
          refine z_aload_n C 0 dX10_note_59 rfl ?_
          refine z_get (v := .int (zI (F 17))) C (by omega) hay1 hgy26 rfl inA_X10 17 (by decide) q_1476 rfl (fv (F := (uZ F 12 (0))) (f := 17) (fn rfl (by decide))) dX10_note_60 ?_
          refine z_iload_n C 1 dX10_note_63 rfl ?_
          have hgy52 := up_n egy25 ha8 (ne_o (i := i) (c := 8) (d := 0) rfl)
          refine z_iast C (by omega) hay9 hgy52 ((F 17).toNat) (by omega) (by omega) (by decide) dX10_note_64 (fun gy53 egy54 => ?_)
          have hgy55 := up_s egy54
          refine z_aload_n C 0 dX10_note_65 rfl ?_
          have hgy56 := up_n egy54 hgy26 (ne_o (i := i) (c := 0) (d := 8) rfl)
          refine z_get (v := .ref (ad (i + 9))) C (by omega) hay1 hgy56 rfl inA_X10 8 (by decide) q_1467 rfl rfl dX10_note_66 ?_
          refine z_aload_n C 0 dX10_note_69 rfl ?_
          refine z_get (v := .int (zI (F 17))) C (by omega) hay1 hgy56 rfl inA_X10 17 (by decide) q_1476 rfl (fv (F := (uZ F 12 (0))) (f := 17) (fn rfl (by decide))) dX10_note_70 ?_
          refine z_iload_n C 2 dX10_note_73 rfl ?_
          have hgy57 := up_n egy25 ha9 (ne_o (i := i) (c := 9) (d := 0) rfl)
          have hgy58 := up_n egy54 hgy57 (ne_o (i := i) (c := 9) (d := 8) rfl)
          refine z_iast C (by omega) hay10 hgy58 ((F 17).toNat) (by omega) (by omega) (by decide) dX10_note_74 (fun gy59 egy60 => ?_)
          have hgy61 := up_s egy60
          refine z_aload_n C 0 dX10_note_75 rfl ?_
          have hgy62 := up_n egy60 hgy56 (ne_o (i := i) (c := 0) (d := 9) rfl)
          refine z_get (v := .ref (ad (i + 10))) C (by omega) hay1 hgy62 rfl inA_X10 9 (by decide) q_1468 rfl rfl dX10_note_76 ?_
          refine z_aload_n C 0 dX10_note_79 rfl ?_
          refine z_get (v := .int (zI (F 17))) C (by omega) hay1 hgy62 rfl inA_X10 17 (by decide) q_1476 rfl (fv (F := (uZ F 12 (0))) (f := 17) (fn rfl (by decide))) dX10_note_80 ?_
          refine z_iload_n C 3 dX10_note_83 rfl ?_
          have hgy63 := up_n egy25 ha10 (ne_o (i := i) (c := 10) (d := 0) rfl)
          have hgy64 := up_n egy54 hgy63 (ne_o (i := i) (c := 10) (d := 8) rfl)
          have hgy65 := up_n egy60 hgy64 (ne_o (i := i) (c := 10) (d := 9) rfl)
          refine z_iast C (by omega) hay11 hgy65 ((F 17).toNat) (by omega) (by omega) (by decide) dX10_note_84 (fun gy66 egy67 => ?_)
          have hgy68 := up_s egy67
          refine z_aload_n C 0 dX10_note_85 rfl ?_
          refine z_dup C dX10_note_86 rfl ?_
          have hgy69 := up_n egy67 hgy62 (ne_o (i := i) (c := 0) (d := 10) rfl)
          refine z_get (v := .int (zI (F 17))) C (by omega) hay1 hgy69 rfl inA_X10 17 (by decide) q_1476 rfl (fv (F := (uZ F 12 (0))) (f := 17) (fn rfl (by decide))) dX10_note_87 ?_
          refine z_iconst (z := 1) C dX10_note_90 rfl ?_
          refine z_iadd C dX10_note_91 ?_
          refine z_put (fs' := mF ad (i) (uZ (uZ F 12 (0)) 17 ((F 17) + 1))) C (by omega) hay1 hgy69 tyX10 tyX10_ok nmX10 rfl inA_X10 17 (by decide) q_1476 rfl rfl rfl rfl (Nat.le_of_ble_eq_true rfl) rfl dX10_note_92 (fun gy70 egy71 => ?_)
          have hgy72 := up_s egy71
          refine z_aload_n C 0 dX10_note_95 rfl ?_
          refine z_get (v := .int (zI ((F 17) + 1))) C (by omega) hay1 hgy72 rfl inA_X10 17 (by decide) q_1476 rfl (fv (F := (uZ (uZ F 12 (0)) 17 ((F 17) + 1))) (f := 17) (uZ_s _ _ _)) dX10_note_96 ?_
          have hgy73 := up_n egy25 ha1 (ne_o (i := i) (c := 1) (d := 0) rfl)
          have hgy74 := up_n egy54 hgy73 (ne_o (i := i) (c := 1) (d := 8) rfl)
          have hgy75 := up_n egy60 hgy74 (ne_o (i := i) (c := 1) (d := 9) rfl)
          have hgy76 := up_n egy67 hgy75 (ne_o (i := i) (c := 1) (d := 10) rfl)
          have hgy77 := up_n egy71 hgy76 (ne_o (i := i) (c := 1) (d := 0) rfl)
          have hFy78 : ∀ f, f ≠ 12 → f ≠ 17 → (uZ (uZ F 12 (0)) 17 ((F 17) + 1)) f = F f := fun f n12 n17 => ((uZ_n _ _ n17).trans ((uZ_n _ _ n12).trans rfl))
          have hey79 : (uZ (uZ F 12 (0)) 17 ((F 17) + 1)) 13 = F 13 := (fn (fn rfl (by decide)) (by decide))
          have hey80 : (uZ (uZ F 12 (0)) 17 ((F 17) + 1)) 14 = F 14 := (fn (fn rfl (by decide)) (by decide))
          have hey81 : (uZ (uZ F 12 (0)) 17 ((F 17) + 1)) 15 = F 15 := (fn (fn rfl (by decide)) (by decide))
          have hey82 : (uZ (uZ F 12 (0)) 17 ((F 17) + 1)) 16 = F 16 := (fn (fn rfl (by decide)) (by decide))
          have hey83 : (uZ (uZ F 12 (0)) 17 ((F 17) + 1)) 17 = (F 17) + 1 := (uZ_s _ _ _)
          have hey84 : (uZ (uZ F 12 (0)) 17 ((F 17) + 1)) 18 = F 18 := (fn (fn rfl (by decide)) (by decide))
          have hey85 : (uZ (uZ F 12 (0)) 17 ((F 17) + 1)) 19 = F 19 := (fn (fn rfl (by decide)) (by decide))
          have hey86 : (uZ (uZ F 12 (0)) 17 ((F 17) + 1)) 20 = F 20 := (fn (fn rfl (by decide)) (by decide))
          have hey87 : (uZ (uZ F 12 (0)) 17 ((F 17) + 1)) 23 = F 23 := (fn (fn rfl (by decide)) (by decide))
          have hey88 : (uZ (uZ F 12 (0)) 17 ((F 17) + 1)) 25 = F 25 := (fn (fn rfl (by decide)) (by decide))
          have hey89 : (uZ (uZ F 12 (0)) 17 ((F 17) + 1)) 27 = F 27 := (fn (fn rfl (by decide)) (by decide))
          have hey90 : (uZ (uZ F 12 (0)) 17 ((F 17) + 1)) 28 = F 28 := (fn (fn rfl (by decide)) (by decide))
          have hey91 : (uZ (uZ F 12 (0)) 17 ((F 17) + 1)) 29 = F 29 := (fn (fn rfl (by decide)) (by decide))
          have hKy92 : okF (uZ (uZ F 12 (0)) 17 ((F 17) + 1)) := by unfold okF; omega
          have hgy94 := up_n egy60 hgy55 (ne_o (i := i) (c := 8) (d := 9) rfl)
          have hgy95 := up_n egy67 hgy94 (ne_o (i := i) (c := 8) (d := 10) rfl)
          have hgy96 := up_n egy71 hgy95 (ne_o (i := i) (c := 8) (d := 0) rfl)
          have hgy97 := up_n egy67 hgy61 (ne_o (i := i) (c := 9) (d := 10) rfl)
          have hgy98 := up_n egy71 hgy97 (ne_o (i := i) (c := 9) (d := 0) rfl)
          have hgy99 := up_n egy71 hgy68 (ne_o (i := i) (c := 10) (d := 0) rfl)
          have hMy93 : okMr cs ad gy70 i (x + 1) (uZ (uZ F 12 (0)) 17 ((F 17) + 1)) r := okMr.upd hM hgy72 hKy92 (fun f a => hFy78 f (by omega) (by omega)) hgy77 (hA.mono (by omega)) (fun j a b => by
              by_cases e0 : j = i + 8
              · exact Or.inr ⟨8, (uZ (ns) ((F 17).toNat) ((n : Int))), e0, (Or.inr (Or.inl ⟨rfl, uZ_any hns (by omega)⟩)), by rw [e0]; exact hgy96⟩
              by_cases e1 : j = i + 9
              · exact Or.inr ⟨9, _, e1, lsP.l (by decide), by rw [e1]; exact hgy98⟩
              by_cases e2 : j = i + 10
              · exact Or.inr ⟨10, _, e2, lsP.l (by decide), by rw [e2]; exact hgy99⟩
              exact Or.inl (by rw [egy71, va_up_ne _ _ (by omega)]; rw [egy67, va_up_ne _ _ (by omega)]; rw [egy60, va_up_ne _ _ (by omega)]; rw [egy54, va_up_ne _ _ (by omega)]; rw [egy25, va_up_ne _ _ (by omega)]))
          have h23 : (uZ (uZ F 12 (0)) 17 ((F 17) + 1)) 23 = F 23 := (fn (fn rfl (by decide)) (by decide))
          exact z_iret C hr hlk dX10_note_99 (by decide) (by decide) ⟨(F 17) + 1, rfl, rfl, rfl, by omega, ⟨_, _, hMy93, by omega⟩, fun j j1 => by rw [egy71, va_up_ne _ _ (by omega)]; rw [egy67, va_up_ne _ _ (by omega)]; rw [egy60, va_up_ne _ _ (by omega)]; rw [egy54, va_up_ne _ _ (by omega)]; rw [egy25, va_up_ne _ _ (by omega)]⟩
        · refine z_if_ne (tgt := 55) C dX10_note_46 (by decide) (by omega) (fun h => absurd h (by omega)) (fun _ => ?_)
          refine z_aload_n C 0 dX10_note_49 rfl ?_
          refine z_iconst (z := 2) C dX10_note_50 rfl ?_
          have hgy100 := up_n egy25 ha11 (ne_o (i := i) (c := 11) (d := 0) rfl)
          refine z_cV (As := [.int (zI (2))]) (rest := []) (ci := 12) C (c_X10_refuses l D A cs tt N ad _ i hN _ hgy26 _ hgy100 (2) (by omega)) (by omega) hay1 hgy26 rfl rfl mv_yX10_refuses q_1866 hd_yX10_refuses (by decide) (Nat.le_of_ble_eq_true rfl) (by decide) dX10_note_51 rfl (kI0 fun vy101 gvy101 hvy101 => ?_)
          obtain ⟨hrvy101, ⟨tvy101, hdvy101⟩, hfvy101⟩ := hvy101
          have hgy102 := (hfvy101 (i) (ne_o (i := i) (c := 0) (d := 11) rfl)).trans hgy26
          have hgy103 := up_n egy25 ha1 (ne_o (i := i) (c := 1) (d := 0) rfl)
          have hgy104 := (hfvy101 (i + 1) (ne_o (i := i) (c := 1) (d := 11) rfl)).trans hgy103
          have hFy105 : ∀ f, f ≠ 12 → (uZ F 12 (0)) f = F f := fun f n12 => ((uZ_n _ _ n12).trans rfl)
          have hey106 : (uZ F 12 (0)) 13 = F 13 := (fn rfl (by decide))
          have hey107 : (uZ F 12 (0)) 14 = F 14 := (fn rfl (by decide))
          have hey108 : (uZ F 12 (0)) 15 = F 15 := (fn rfl (by decide))
          have hey109 : (uZ F 12 (0)) 16 = F 16 := (fn rfl (by decide))
          have hey110 : (uZ F 12 (0)) 17 = F 17 := (fn rfl (by decide))
          have hey111 : (uZ F 12 (0)) 18 = F 18 := (fn rfl (by decide))
          have hey112 : (uZ F 12 (0)) 19 = F 19 := (fn rfl (by decide))
          have hey113 : (uZ F 12 (0)) 20 = F 20 := (fn rfl (by decide))
          have hey114 : (uZ F 12 (0)) 23 = F 23 := (fn rfl (by decide))
          have hey115 : (uZ F 12 (0)) 25 = F 25 := (fn rfl (by decide))
          have hey116 : (uZ F 12 (0)) 27 = F 27 := (fn rfl (by decide))
          have hey117 : (uZ F 12 (0)) 28 = F 28 := (fn rfl (by decide))
          have hey118 : (uZ F 12 (0)) 29 = F 29 := (fn rfl (by decide))
          have hKy119 : okF (uZ F 12 (0)) := by unfold okF; omega
          have hMy120 : okMr cs ad gvy101 i (x + 1) (uZ F 12 (0)) r := okMr.upd hM hgy102 hKy119 (fun f a => hFy105 f (by omega)) hgy104 (hA.mono (by omega)) (fun j a b => by
              by_cases e0 : j = i + 11
              · exact Or.inr ⟨11, _, e0, lsP.l (by decide), by rw [e0]; exact hdvy101⟩
              exact Or.inl (by rw [hfvy101 _ (by omega)]; rw [egy25, va_up_ne _ _ (by omega)]))
          have h23 : (uZ F 12 (0)) 23 = F 23 := (fn rfl (by decide))
          exact z_iret C hr hlk dX10_note_54 (by decide) (by decide) ⟨vy101, rfl, rfl, rfl, by omega, ⟨_, _, hMy120, by omega⟩, fun j j1 => by rw [hfvy101 _ (by omega)]; rw [egy25, va_up_ne _ _ (by omega)]⟩
      · refine z_if_eq (tgt := 49) C dX10_note_35 (by decide) (by omega) (fun _ => ?_) (fun h => absurd h (by omega))
        refine z_aload_n C 0 dX10_note_49 rfl ?_
        refine z_iconst (z := 2) C dX10_note_50 rfl ?_
        have hgy121 := up_n egy25 ha11 (ne_o (i := i) (c := 11) (d := 0) rfl)
        refine z_cV (As := [.int (zI (2))]) (rest := []) (ci := 12) C (c_X10_refuses l D A cs tt N ad _ i hN _ hgy26 _ hgy121 (2) (by omega)) (by omega) hay1 hgy26 rfl rfl mv_yX10_refuses q_1866 hd_yX10_refuses (by decide) (Nat.le_of_ble_eq_true rfl) (by decide) dX10_note_51 rfl (kI0 fun vy122 gvy122 hvy122 => ?_)
        obtain ⟨hrvy122, ⟨tvy122, hdvy122⟩, hfvy122⟩ := hvy122
        have hgy123 := (hfvy122 (i) (ne_o (i := i) (c := 0) (d := 11) rfl)).trans hgy26
        have hgy124 := up_n egy25 ha1 (ne_o (i := i) (c := 1) (d := 0) rfl)
        have hgy125 := (hfvy122 (i + 1) (ne_o (i := i) (c := 1) (d := 11) rfl)).trans hgy124
        have hFy126 : ∀ f, f ≠ 12 → (uZ F 12 (0)) f = F f := fun f n12 => ((uZ_n _ _ n12).trans rfl)
        have hey127 : (uZ F 12 (0)) 13 = F 13 := (fn rfl (by decide))
        have hey128 : (uZ F 12 (0)) 14 = F 14 := (fn rfl (by decide))
        have hey129 : (uZ F 12 (0)) 15 = F 15 := (fn rfl (by decide))
        have hey130 : (uZ F 12 (0)) 16 = F 16 := (fn rfl (by decide))
        have hey131 : (uZ F 12 (0)) 17 = F 17 := (fn rfl (by decide))
        have hey132 : (uZ F 12 (0)) 18 = F 18 := (fn rfl (by decide))
        have hey133 : (uZ F 12 (0)) 19 = F 19 := (fn rfl (by decide))
        have hey134 : (uZ F 12 (0)) 20 = F 20 := (fn rfl (by decide))
        have hey135 : (uZ F 12 (0)) 23 = F 23 := (fn rfl (by decide))
        have hey136 : (uZ F 12 (0)) 25 = F 25 := (fn rfl (by decide))
        have hey137 : (uZ F 12 (0)) 27 = F 27 := (fn rfl (by decide))
        have hey138 : (uZ F 12 (0)) 28 = F 28 := (fn rfl (by decide))
        have hey139 : (uZ F 12 (0)) 29 = F 29 := (fn rfl (by decide))
        have hKy140 : okF (uZ F 12 (0)) := by unfold okF; omega
        have hMy141 : okMr cs ad gvy122 i (x + 1) (uZ F 12 (0)) r := okMr.upd hM hgy123 hKy140 (fun f a => hFy126 f (by omega)) hgy125 (hA.mono (by omega)) (fun j a b => by
            by_cases e0 : j = i + 11
            · exact Or.inr ⟨11, _, e0, lsP.l (by decide), by rw [e0]; exact hdvy122⟩
            exact Or.inl (by rw [hfvy122 _ (by omega)]; rw [egy25, va_up_ne _ _ (by omega)]))
        have h23 : (uZ F 12 (0)) 23 = F 23 := (fn rfl (by decide))
        exact z_iret C hr hlk dX10_note_54 (by decide) (by decide) ⟨vy122, rfl, rfl, rfl, by omega, ⟨_, _, hMy141, by omega⟩, fun j j1 => by rw [hfvy122 _ (by omega)]; rw [egy25, va_up_ne _ _ (by omega)]⟩
    · refine z_if_eq (tgt := 49) C dX10_note_25 (by decide) (by omega) (fun _ => ?_) (fun h => absurd h (by omega))
      refine z_aload_n C 0 dX10_note_49 rfl ?_
      refine z_iconst (z := 2) C dX10_note_50 rfl ?_
      have hgy142 := up_n egy25 ha11 (ne_o (i := i) (c := 11) (d := 0) rfl)
      refine z_cV (As := [.int (zI (2))]) (rest := []) (ci := 12) C (c_X10_refuses l D A cs tt N ad _ i hN _ hgy26 _ hgy142 (2) (by omega)) (by omega) hay1 hgy26 rfl rfl mv_yX10_refuses q_1866 hd_yX10_refuses (by decide) (Nat.le_of_ble_eq_true rfl) (by decide) dX10_note_51 rfl (kI0 fun vy143 gvy143 hvy143 => ?_)
      obtain ⟨hrvy143, ⟨tvy143, hdvy143⟩, hfvy143⟩ := hvy143
      have hgy144 := (hfvy143 (i) (ne_o (i := i) (c := 0) (d := 11) rfl)).trans hgy26
      have hgy145 := up_n egy25 ha1 (ne_o (i := i) (c := 1) (d := 0) rfl)
      have hgy146 := (hfvy143 (i + 1) (ne_o (i := i) (c := 1) (d := 11) rfl)).trans hgy145
      have hFy147 : ∀ f, f ≠ 12 → (uZ F 12 (0)) f = F f := fun f n12 => ((uZ_n _ _ n12).trans rfl)
      have hey148 : (uZ F 12 (0)) 13 = F 13 := (fn rfl (by decide))
      have hey149 : (uZ F 12 (0)) 14 = F 14 := (fn rfl (by decide))
      have hey150 : (uZ F 12 (0)) 15 = F 15 := (fn rfl (by decide))
      have hey151 : (uZ F 12 (0)) 16 = F 16 := (fn rfl (by decide))
      have hey152 : (uZ F 12 (0)) 17 = F 17 := (fn rfl (by decide))
      have hey153 : (uZ F 12 (0)) 18 = F 18 := (fn rfl (by decide))
      have hey154 : (uZ F 12 (0)) 19 = F 19 := (fn rfl (by decide))
      have hey155 : (uZ F 12 (0)) 20 = F 20 := (fn rfl (by decide))
      have hey156 : (uZ F 12 (0)) 23 = F 23 := (fn rfl (by decide))
      have hey157 : (uZ F 12 (0)) 25 = F 25 := (fn rfl (by decide))
      have hey158 : (uZ F 12 (0)) 27 = F 27 := (fn rfl (by decide))
      have hey159 : (uZ F 12 (0)) 28 = F 28 := (fn rfl (by decide))
      have hey160 : (uZ F 12 (0)) 29 = F 29 := (fn rfl (by decide))
      have hKy161 : okF (uZ F 12 (0)) := by unfold okF; omega
      have hMy162 : okMr cs ad gvy143 i (x + 1) (uZ F 12 (0)) r := okMr.upd hM hgy144 hKy161 (fun f a => hFy147 f (by omega)) hgy146 (hA.mono (by omega)) (fun j a b => by
          by_cases e0 : j = i + 11
          · exact Or.inr ⟨11, _, e0, lsP.l (by decide), by rw [e0]; exact hdvy143⟩
          exact Or.inl (by rw [hfvy143 _ (by omega)]; rw [egy25, va_up_ne _ _ (by omega)]))
      have h23 : (uZ F 12 (0)) 23 = F 23 := (fn rfl (by decide))
      exact z_iret C hr hlk dX10_note_54 (by decide) (by decide) ⟨vy143, rfl, rfl, rfl, by omega, ⟨_, _, hMy162, by omega⟩, fun j j1 => by rw [hfvy143 _ (by omega)]; rw [egy25, va_up_ne _ _ (by omega)]⟩

set_option maxRecDepth 100000 in
set_option maxHeartbeats 4000000 in
theorem c_X10_note_b (l : Launch) (D : va_G) (A : Nat → Prop) (cs : Nat → ClassId) (tt : Nat) (N : Nat) (ad : Nat → Nat) (g : Nat → va_E) (i : Nat) (hN : i + 30 ≤ N) (x : Int) (hx : 0 ≤ x ∧ x ≤ 512) (F r : Nat → Int) (hM : okMr cs ad g i x F r) (z : Int) (hz : -2147483648 ≤ z ∧ z ≤ 2147483647) (hzo : z < 0 ∨ 3 < z) (z1 : Int) (hz1 : -2147483648 ≤ z1 ∧ z1 ≤ 2147483647) (z2 : Int) (hz2 : -2147483648 ≤ z2 ∧ z2 ≤ 2147483647) : zM l yX10_note cX10_note 4 (some .int) ({ frames := 2, cells := 0, slots := 0, locals := 120 } : Room) D A cs tt N ad g [.ref (ad i), .int (zI (z)), .int (zI (z1)), .int (zI (z2))] (rI0 N ad fun q g' => (-2147483648 ≤ q ∧ q ≤ 2147483647) ∧ (∃ F' r' : Nat → Int, okMr cs ad g' i (x + 1) F' r' ∧ F' 23 = F 23) ∧ ∀ j, j < i ∨ i + 30 ≤ j → g' j = g j) := by
  obtain ⟨hg, ⟨⟨e13, e14, e25, e27, e29⟩, k15, k16, k17, k18, k19, k20, k23⟩, hRD, hTx, hA, st, op, ai, fa, mu, tb, ns, nh, nd, rf, pi, tp, te, ki, li, ok1, ok2, fo, dd, dps, ⟨ha1, ha2, ha3, ha4, ha5, ha6, ha7, ha8, ha9, ha10, ha11, ha12, ha13, ha14, ha15, ha24, ha25, ha26, ha27, ha28, ha29⟩, hEv, hPt, hns, htp⟩ := id hM
  obtain ⟨-, hop, hai, hfa, hT, hT1⟩ := id hEv
  have hay1 : zAt ad (i) (ad i) := rfl
  have hay2 : zAt ad (i + 1) (ad (i + 1)) := rfl
  have hay3 : zAt ad (i + 2) (ad (i + 2)) := rfl
  have hay4 : zAt ad (i + 3) (ad (i + 3)) := rfl
  have hay5 : zAt ad (i + 4) (ad (i + 4)) := rfl
  have hay6 : zAt ad (i + 5) (ad (i + 5)) := rfl
  have hay7 : zAt ad (i + 6) (ad (i + 6)) := rfl
  have hay8 : zAt ad (i + 7) (ad (i + 7)) := rfl
  have hay9 : zAt ad (i + 8) (ad (i + 8)) := rfl
  have hay10 : zAt ad (i + 9) (ad (i + 9)) := rfl
  have hay11 : zAt ad (i + 10) (ad (i + 10)) := rfl
  have hay12 : zAt ad (i + 11) (ad (i + 11)) := rfl
  have hay13 : zAt ad (i + 12) (ad (i + 12)) := rfl
  have hay14 : zAt ad (i + 13) (ad (i + 13)) := rfl
  have hay15 : zAt ad (i + 14) (ad (i + 14)) := rfl
  have hay16 : zAt ad (i + 15) (ad (i + 15)) := rfl
  have hay17 : zAt ad (i + 24) (ad (i + 24)) := rfl
  have hay18 : zAt ad (i + 25) (ad (i + 25)) := rfl
  have hay19 : zAt ad (i + 26) (ad (i + 26)) := rfl
  have hay20 : zAt ad (i + 27) (ad (i + 27)) := rfl
  have hay21 : zAt ad (i + 28) (ad (i + 28)) := rfl
  have hay22 : zAt ad (i + 29) (ad (i + 29)) := rfl
  obtain ⟨⟨hsyy23, htyy23, hnyy23, hpyy23⟩, hlyy23⟩ := okA.at0 hA
  simp only [Nat.zero_add] at hsyy23 hnyy23 hpyy23
  have hmn : ∀ s, s < 4 → 0 ≤ r (6 + 86 * s) ∧ r (6 + 86 * s) ≤ 12 := fun s hs => (hsyy23 s hs).1
  have h5 : 0 ≤ r 5 ∧ r 5 ≤ 6 := hpyy23
  refine z_of (by decide) (Nat.le_of_ble_eq_true rfl) ?_
  intro pZ eZ sZ mZ below meth cZ C hr hlk hnm
  refine z_lv (lv' := [(0, .ref (ad i)), (1, .int (zI (z))), (2, .int (zI (z1))), (3, .int (zI (z2)))]) [0, 1, 2, 3] rfl ?_
  refine z_aload_n C 0 dX10_note_0 rfl ?_
  refine z_iconst (z := 0) C dX10_note_1 rfl ?_
  refine z_put (fs' := mF ad (i) (uZ F 12 (0))) C (by omega) hay1 hg tyX10 tyX10_ok nmX10 rfl inA_X10 12 (by decide) q_1471 rfl rfl rfl rfl (Nat.le_of_ble_eq_true rfl) rfl dX10_note_2 (fun gy24 egy25 => ?_)
  have hgy26 := up_s egy25
  refine z_aload_n C 0 dX10_note_5 rfl ?_
  refine z_get (v := .int (zI (F 17))) C (by omega) hay1 hgy26 rfl inA_X10 17 (by decide) q_1476 rfl (fv (F := (uZ F 12 (0))) (f := 17) (fn rfl (by decide))) dX10_note_6 ?_
  refine z_bipush (z := 8) C dX10_note_9 (by decide) ?_
  refine z_icmp_eq (tgt := 49) C dX10_note_11 (by decide) (by omega) (by omega) (fun hby27 => ?_) (fun hby27 => ?_)
  · refine z_aload_n C 0 dX10_note_49 rfl ?_
    refine z_iconst (z := 2) C dX10_note_50 rfl ?_
    have hgy28 := up_n egy25 ha11 (ne_o (i := i) (c := 11) (d := 0) rfl)
    refine z_cV (As := [.int (zI (2))]) (rest := []) (ci := 12) C (c_X10_refuses l D A cs tt N ad _ i hN _ hgy26 _ hgy28 (2) (by omega)) (by omega) hay1 hgy26 rfl rfl mv_yX10_refuses q_1866 hd_yX10_refuses (by decide) (Nat.le_of_ble_eq_true rfl) (by decide) dX10_note_51 rfl (kI0 fun vy29 gvy29 hvy29 => ?_)
    obtain ⟨hrvy29, ⟨tvy29, hdvy29⟩, hfvy29⟩ := hvy29
    have hgy30 := (hfvy29 (i) (ne_o (i := i) (c := 0) (d := 11) rfl)).trans hgy26
    have hgy31 := up_n egy25 ha1 (ne_o (i := i) (c := 1) (d := 0) rfl)
    have hgy32 := (hfvy29 (i + 1) (ne_o (i := i) (c := 1) (d := 11) rfl)).trans hgy31
    have hFy33 : ∀ f, f ≠ 12 → (uZ F 12 (0)) f = F f := fun f n12 => ((uZ_n _ _ n12).trans rfl)
    have hey34 : (uZ F 12 (0)) 13 = F 13 := (fn rfl (by decide))
    have hey35 : (uZ F 12 (0)) 14 = F 14 := (fn rfl (by decide))
    have hey36 : (uZ F 12 (0)) 15 = F 15 := (fn rfl (by decide))
    have hey37 : (uZ F 12 (0)) 16 = F 16 := (fn rfl (by decide))
    have hey38 : (uZ F 12 (0)) 17 = F 17 := (fn rfl (by decide))
    have hey39 : (uZ F 12 (0)) 18 = F 18 := (fn rfl (by decide))
    have hey40 : (uZ F 12 (0)) 19 = F 19 := (fn rfl (by decide))
    have hey41 : (uZ F 12 (0)) 20 = F 20 := (fn rfl (by decide))
    have hey42 : (uZ F 12 (0)) 23 = F 23 := (fn rfl (by decide))
    have hey43 : (uZ F 12 (0)) 25 = F 25 := (fn rfl (by decide))
    have hey44 : (uZ F 12 (0)) 27 = F 27 := (fn rfl (by decide))
    have hey45 : (uZ F 12 (0)) 28 = F 28 := (fn rfl (by decide))
    have hey46 : (uZ F 12 (0)) 29 = F 29 := (fn rfl (by decide))
    have hKy47 : okF (uZ F 12 (0)) := by unfold okF; omega
    have hMy48 : okMr cs ad gvy29 i (x + 1) (uZ F 12 (0)) r := okMr.upd hM hgy30 hKy47 (fun f a => hFy33 f (by omega)) hgy32 (hA.mono (by omega)) (fun j a b => by
        by_cases e0 : j = i + 11
        · exact Or.inr ⟨11, _, e0, lsP.l (by decide), by rw [e0]; exact hdvy29⟩
        exact Or.inl (by rw [hfvy29 _ (by omega)]; rw [egy25, va_up_ne _ _ (by omega)]))
    have h23 : (uZ F 12 (0)) 23 = F 23 := (fn rfl (by decide))
    exact z_iret C hr hlk dX10_note_54 (by decide) (by decide) ⟨vy29, rfl, rfl, rfl, by omega, ⟨_, _, hMy48, by omega⟩, fun j j1 => by rw [hfvy29 _ (by omega)]; rw [egy25, va_up_ne _ _ (by omega)]⟩
  · refine z_iload_n C 1 dX10_note_14 rfl ?_
    refine z_iconst (z := 0) C dX10_note_15 rfl ?_
    refine z_aload_n C 0 dX10_note_16 rfl ?_
    refine z_get (v := .int (zI (F 13))) C (by omega) hay1 hgy26 rfl inA_X10 13 (by decide) q_1472 rfl (fv (F := (uZ F 12 (0))) (f := 13) (fn rfl (by decide))) dX10_note_17 ?_
    refine z_iconst (z := 1) C dX10_note_20 rfl ?_
    refine z_isub C dX10_note_21 ?_
    refine z_cS (As := [.int (zI (z)), .int (zI (0)), .int (zI ((F 13) - 1))]) (rest := []) C (c_X10_within l D A cs tt N ad _ (z) (by omega) (0) (by omega) ((F 13) - 1) (by omega)) ms_yX10_within q_1686 hd_yX10_within (by decide) (Nat.le_of_ble_eq_true rfl) (by decide) dX10_note_22 rfl (kI0 fun vy49 gvy49 hvy49 => ?_)
    obtain ⟨hvy49, rfl⟩ := hvy49
    obtain rfl : vy49 = 0 := by omega
    refine z_if_eq (tgt := 49) C dX10_note_25 (by decide) (by omega) (fun _ => ?_) (fun h => absurd h (by omega))
    refine z_aload_n C 0 dX10_note_49 rfl ?_
    refine z_iconst (z := 2) C dX10_note_50 rfl ?_
    have hgy50 := up_n egy25 ha11 (ne_o (i := i) (c := 11) (d := 0) rfl)
    refine z_cV (As := [.int (zI (2))]) (rest := []) (ci := 12) C (c_X10_refuses l D A cs tt N ad _ i hN _ hgy26 _ hgy50 (2) (by omega)) (by omega) hay1 hgy26 rfl rfl mv_yX10_refuses q_1866 hd_yX10_refuses (by decide) (Nat.le_of_ble_eq_true rfl) (by decide) dX10_note_51 rfl (kI0 fun vy51 gvy51 hvy51 => ?_)
    obtain ⟨hrvy51, ⟨tvy51, hdvy51⟩, hfvy51⟩ := hvy51
    have hgy52 := (hfvy51 (i) (ne_o (i := i) (c := 0) (d := 11) rfl)).trans hgy26
    have hgy53 := up_n egy25 ha1 (ne_o (i := i) (c := 1) (d := 0) rfl)
    have hgy54 := (hfvy51 (i + 1) (ne_o (i := i) (c := 1) (d := 11) rfl)).trans hgy53
    have hFy55 : ∀ f, f ≠ 12 → (uZ F 12 (0)) f = F f := fun f n12 => ((uZ_n _ _ n12).trans rfl)
    have hey56 : (uZ F 12 (0)) 13 = F 13 := (fn rfl (by decide))
    have hey57 : (uZ F 12 (0)) 14 = F 14 := (fn rfl (by decide))
    have hey58 : (uZ F 12 (0)) 15 = F 15 := (fn rfl (by decide))
    have hey59 : (uZ F 12 (0)) 16 = F 16 := (fn rfl (by decide))
    have hey60 : (uZ F 12 (0)) 17 = F 17 := (fn rfl (by decide))
    have hey61 : (uZ F 12 (0)) 18 = F 18 := (fn rfl (by decide))
    have hey62 : (uZ F 12 (0)) 19 = F 19 := (fn rfl (by decide))
    have hey63 : (uZ F 12 (0)) 20 = F 20 := (fn rfl (by decide))
    have hey64 : (uZ F 12 (0)) 23 = F 23 := (fn rfl (by decide))
    have hey65 : (uZ F 12 (0)) 25 = F 25 := (fn rfl (by decide))
    have hey66 : (uZ F 12 (0)) 27 = F 27 := (fn rfl (by decide))
    have hey67 : (uZ F 12 (0)) 28 = F 28 := (fn rfl (by decide))
    have hey68 : (uZ F 12 (0)) 29 = F 29 := (fn rfl (by decide))
    have hKy69 : okF (uZ F 12 (0)) := by unfold okF; omega
    have hMy70 : okMr cs ad gvy51 i (x + 1) (uZ F 12 (0)) r := okMr.upd hM hgy52 hKy69 (fun f a => hFy55 f (by omega)) hgy54 (hA.mono (by omega)) (fun j a b => by
        by_cases e0 : j = i + 11
        · exact Or.inr ⟨11, _, e0, lsP.l (by decide), by rw [e0]; exact hdvy51⟩
        exact Or.inl (by rw [hfvy51 _ (by omega)]; rw [egy25, va_up_ne _ _ (by omega)]))
    have h23 : (uZ F 12 (0)) 23 = F 23 := (fn rfl (by decide))
    exact z_iret C hr hlk dX10_note_54 (by decide) (by decide) ⟨vy51, rfl, rfl, rfl, by omega, ⟨_, _, hMy70, by omega⟩, fun j j1 => by rw [hfvy51 _ (by omega)]; rw [egy25, va_up_ne _ _ (by omega)]⟩

set_option maxRecDepth 100000 in
set_option maxHeartbeats 4000000 in
theorem c_X10_note (l : Launch) (D : va_G) (A : Nat → Prop) (cs : Nat → ClassId) (tt : Nat) (N : Nat) (ad : Nat → Nat) (g : Nat → va_E) (i : Nat) (hN : i + 30 ≤ N) (x : Int) (hx : 0 ≤ x ∧ x ≤ 512) (F r : Nat → Int) (hM : okMr cs ad g i x F r) (z : Int) (hz : -2147483648 ≤ z ∧ z ≤ 2147483647) (z1 : Int) (hz1 : -2147483648 ≤ z1 ∧ z1 ≤ 2147483647) (z2 : Int) (hz2 : -2147483648 ≤ z2 ∧ z2 ≤ 2147483647) : zM l yX10_note cX10_note 4 (some .int) ({ frames := 2, cells := 0, slots := 0, locals := 120 } : Room) D A cs tt N ad g [.ref (ad i), .int (zI (z)), .int (zI (z1)), .int (zI (z2))] (rI0 N ad fun q g' => (-2147483648 ≤ q ∧ q ≤ 2147483647) ∧ (∃ F' r' : Nat → Int, okMr cs ad g' i (x + 1) F' r' ∧ F' 23 = F 23) ∧ ∀ j, j < i ∨ i + 30 ≤ j → g' j = g j) := by
  by_cases h9 : 0 ≤ z ∧ z ≤ 3
  · obtain ⟨n, rfl⟩ : ∃ n : Nat, z = (n : Int) := ⟨z.toNat, by omega⟩
    exact c_X10_note_a l D A cs tt N ad g i hN x hx F r hM n (by omega) z1 hz1 z2 hz2
  · exact c_X10_note_b l D A cs tt N ad g i hN x hx F r hM z hz (by omega) z1 hz1 z2 hz2

set_option maxRecDepth 100000 in
set_option maxHeartbeats 4000000 in
theorem c_X10_odds_a (l : Launch) (D : va_G) (A : Nat → Prop) (cs : Nat → ClassId) (tt : Nat) (N : Nat) (ad : Nat → Nat) (g : Nat → va_E) (i : Nat) (hN : i + 30 ≤ N) (x : Int) (hx : 0 ≤ x ∧ x ≤ 512) (F r : Nat → Int) (hM : okMr cs ad g i x F r) (n : Nat) (hn4 : n < 4) (z1 : Int) (hz1 : -2147483648 ≤ z1 ∧ z1 ≤ 2147483647) (z2 : Int) (hz2 : -2147483648 ≤ z2 ∧ z2 ≤ 2147483647) : zM l yX10_odds cX10_odds 8 (some .int) ({ frames := 11, cells := 0, slots := 0, locals := 660 } : Room) D A cs tt N ad g [.ref (ad i), .int (zI ((n : Int))), .int (zI (z1)), .int (zI (z2))] (rI0 N ad fun q g' => (-2147483648 ≤ q ∧ q ≤ 2147483647) ∧ (∃ F' r' : Nat → Int, okMr cs ad g' i (x + 1) F' r' ∧ F' 23 = F 23) ∧ ∀ j, j < i ∨ i + 30 ≤ j → g' j = g j) := by
  obtain ⟨hg, ⟨⟨e13, e14, e25, e27, e29⟩, k15, k16, k17, k18, k19, k20, k23⟩, hRD, hTx, hA, st, op, ai, fa, mu, tb, ns, nh, nd, rf, pi, tp, te, ki, li, ok1, ok2, fo, dd, dps, ⟨ha1, ha2, ha3, ha4, ha5, ha6, ha7, ha8, ha9, ha10, ha11, ha12, ha13, ha14, ha15, ha24, ha25, ha26, ha27, ha28, ha29⟩, hEv, hPt, hns, htp⟩ := id hM
  obtain ⟨-, hop, hai, hfa, hT, hT1⟩ := id hEv
  have hay1 : zAt ad (i) (ad i) := rfl
  have hay2 : zAt ad (i + 1) (ad (i + 1)) := rfl
  have hay3 : zAt ad (i + 2) (ad (i + 2)) := rfl
  have hay4 : zAt ad (i + 3) (ad (i + 3)) := rfl
  have hay5 : zAt ad (i + 4) (ad (i + 4)) := rfl
  have hay6 : zAt ad (i + 5) (ad (i + 5)) := rfl
  have hay7 : zAt ad (i + 6) (ad (i + 6)) := rfl
  have hay8 : zAt ad (i + 7) (ad (i + 7)) := rfl
  have hay9 : zAt ad (i + 8) (ad (i + 8)) := rfl
  have hay10 : zAt ad (i + 9) (ad (i + 9)) := rfl
  have hay11 : zAt ad (i + 10) (ad (i + 10)) := rfl
  have hay12 : zAt ad (i + 11) (ad (i + 11)) := rfl
  have hay13 : zAt ad (i + 12) (ad (i + 12)) := rfl
  have hay14 : zAt ad (i + 13) (ad (i + 13)) := rfl
  have hay15 : zAt ad (i + 14) (ad (i + 14)) := rfl
  have hay16 : zAt ad (i + 15) (ad (i + 15)) := rfl
  have hay17 : zAt ad (i + 24) (ad (i + 24)) := rfl
  have hay18 : zAt ad (i + 25) (ad (i + 25)) := rfl
  have hay19 : zAt ad (i + 26) (ad (i + 26)) := rfl
  have hay20 : zAt ad (i + 27) (ad (i + 27)) := rfl
  have hay21 : zAt ad (i + 28) (ad (i + 28)) := rfl
  have hay22 : zAt ad (i + 29) (ad (i + 29)) := rfl
  obtain ⟨⟨hsyy23, htyy23, hnyy23, hpyy23⟩, hlyy23⟩ := okA.at0 hA
  simp only [Nat.zero_add] at hsyy23 hnyy23 hpyy23
  have hmn : ∀ s, s < 4 → 0 ≤ r (6 + 86 * s) ∧ r (6 + 86 * s) ≤ 12 := fun s hs => (hsyy23 s hs).1
  have h5 : 0 ≤ r 5 ∧ r 5 ≤ 6 := hpyy23
  refine z_of (by decide) (Nat.le_of_ble_eq_true rfl) ?_
  intro pZ eZ sZ mZ below meth cZ C hr hlk hnm
  refine z_lv (lv' := [(0, .ref (ad i)), (1, .int (zI ((n : Int)))), (2, .int (zI (z1))), (3, .int (zI (z2)))]) [0, 1, 2, 3] rfl ?_
  refine z_aload_n C 0 dX10_odds_0 rfl ?_
  refine z_iconst (z := 0) C dX10_odds_1 rfl ?_
  refine z_put (fs' := mF ad (i) (uZ F 12 (0))) C (by omega) hay1 hg tyX10 tyX10_ok nmX10 rfl inA_X10 12 (by decide) q_1471 rfl rfl rfl rfl (Nat.le_of_ble_eq_true rfl) rfl dX10_odds_2 (fun gy24 egy25 => ?_)
  have hgy26 := up_s egy25
  refine z_aload_n C 0 dX10_odds_5 rfl ?_
  refine z_iload_n C 1 dX10_odds_6 rfl ?_
  have h13vy27 : (uZ F 12 (0)) 13 = F 13 := (fn rfl (by decide))
  have hey28 : (uZ F 12 (0)) 12 = 0 := (uZ_s _ _ _)
  refine z_cV (As := [.int (zI ((n : Int)))]) (rest := []) (ci := 12) C (c_X10_isSlope l D A cs tt N ad _ i hN _ hgy26 (by omega) (by omega) ((n : Int)) (by omega)) (by omega) hay1 hgy26 rfl rfl mv_yX10_isSlope q_1803 hd_yX10_isSlope (by decide) (Nat.le_of_ble_eq_true rfl) (by decide) dX10_odds_7 rfl (kI0 fun vy27 gvy27 hvy27 => ?_)
  rw [h13vy27] at hvy27
  obtain ⟨hrvy27, ⟨Fvy27, hcvy27, htvy27, hFvy27⟩, hfvy27⟩ := hvy27
  rcases (show vy27 = 1 ∨ vy27 = 0 by omega) with rfl | rfl
  · have hxvy27 := hrvy27.2 rfl
    refine z_if_eq (tgt := 46) C dX10_odds_10 (by decide) (by omega) (fun h => absurd h (by omega)) (fun _ => ?_)
    refine z_aload_n C 0 dX10_odds_13 rfl ?_
    refine z_iload_n C 2 dX10_odds_14 rfl ?_
    refine z_iconst (z := 1) C dX10_odds_15 rfl ?_
    refine z_bipush (z := 6) C dX10_odds_16 (by decide) ?_
    refine z_cS (As := [.int (zI (z1)), .int (zI (1)), .int (zI (6))]) (rest := [.ref (ad i)]) C (c_X10_within l D A cs tt N ad _ (z1) (by omega) (1) (by omega) (6) (by omega)) ms_yX10_within q_1686 hd_yX10_within (by decide) (Nat.le_of_ble_eq_true rfl) (by decide) dX10_odds_18 rfl (kI0 fun vy29 gvy29 hvy29 => ?_)
    obtain ⟨hvy29, rfl⟩ := hvy29
    rcases hvy29 with ⟨rfl, hxvy29⟩ | ⟨rfl, hxvy29⟩
    · refine z_if_eq (tgt := 38) C dX10_odds_21 (by decide) (by omega) (fun h => absurd h (by omega)) (fun _ => ?_)
      refine z_iload_n C 3 dX10_odds_24 rfl ?_
      refine z_iconst (z := 0) C dX10_odds_25 rfl ?_
      refine z_bipush (z := 10) C dX10_odds_26 (by decide) ?_
      refine z_cS (As := [.int (zI (z2)), .int (zI (0)), .int (zI (10))]) (rest := [.ref (ad i)]) C (c_X10_within l D A cs tt N ad _ (z2) (by omega) (0) (by omega) (10) (by omega)) ms_yX10_within q_1686 hd_yX10_within (by decide) (Nat.le_of_ble_eq_true rfl) (by decide) dX10_odds_28 rfl (kI0 fun vy30 gvy30 hvy30 => ?_)
      obtain ⟨hvy30, rfl⟩ := hvy30
      rcases hvy30 with ⟨rfl, hxvy30⟩ | ⟨rfl, hxvy30⟩
      · refine z_if_eq (tgt := 38) C dX10_odds_31 (by decide) (by omega) (fun h => absurd h (by omega)) (fun _ => ?_)
        refine z_iconst (z := 1) C dX10_odds_34 rfl ?_
        refine z_goto (tgt := 39) C dX10_odds_35 (by decide) ?_
        refine z_iconst (z := 2) C dX10_odds_39 rfl ?_
        have hey32 : Fvy27 12 = Fvy27 12 := rfl
        refine z_cV (As := [.int (zI (1)), .int (zI (2))]) (rest := []) (ci := 12) C (c_X10_right l D A cs tt N ad _ i hN _ hcvy27 (by omega) (1) (by omega) (2) (by omega)) (by omega) hay1 hcvy27 rfl rfl mv_yX10_right q_1648 hd_yX10_right (by decide) (Nat.le_of_ble_eq_true rfl) (by decide) dX10_odds_40 rfl (kI0 fun vy31 gvy31 hvy31 => ?_)
        obtain ⟨hrvy31, ⟨Fvy31, hcvy31, htvy31, hFvy31⟩, hfvy31⟩ := hvy31
        rcases (show vy31 = 1 ∨ vy31 = 0 by omega) with rfl | rfl
        · refine z_if_ne (tgt := 48) C dX10_odds_43 (by decide) (by omega) (fun _ => ?_) (fun h => absurd h (by omega))
          refine z_iconst (z := 0) C dX10_odds_48 rfl ?_
          refine z_istore (lv' := [(4, .int (zI (0))), (0, .ref (ad i)), (1, .int (zI ((n : Int)))), (2, .int (zI (z1))), (3, .int (zI (z2)))]) C dX10_odds_49 (by decide) rfl ?_
          refine z_iconst (z := 0) C dX10_odds_51 rfl ?_
          refine z_istore (lv' := [(5, .int (zI (0))), (4, .int (zI (0))), (0, .ref (ad i)), (1, .int (zI ((n : Int)))), (2, .int (zI (z1))), (3, .int (zI (z2)))]) C dX10_odds_52 (by decide) rfl ?_
          have lp1 : ∀ (n9 : Nat) (al : Int) (wy : Int) (F9 : Nat → Int) (r9 : Nat → Int) (g1 : Nat → va_E), (65 - wy).toNat = n9 → (okMr cs ad g1 i x F9 r9) → ((∀ f, f ≠ 12 → f ≠ 29 → F9 f = F f)) → (∀ j, j < i ∨ i + 30 ≤ j → g1 j = g j) → (-2147483648 ≤ al ∧ al ≤ 2147483647) → (0 ≤ wy ∧ wy ≤ 64) → zV pZ l eZ ({ frames := 11, cells := 0, slots := 0, locals := 660 } : Room) sZ mZ ([.ref (ad i), .int (zI ((n : Int))), .int (zI (z1)), .int (zI (z2))] : List Value).toArray below meth cZ (MQ below (zPost D A (rI0 N ad fun q g' => (-2147483648 ≤ q ∧ q ≤ 2147483647) ∧ (∃ F' r' : Nat → Int, okMr cs ad g' i (x + 1) F' r' ∧ F' 23 = F 23) ∧ ∀ j, j < i ∨ i + 30 ≤ j → g' j = g j)) ([.ref (ad i), .int (zI ((n : Int))), .int (zI (z1)), .int (zI (z2))] : List Value).toArray sZ ({ frames := 11, cells := 0, slots := 0, locals := 660 } : Room).cells ({ frames := 11, cells := 0, slots := 0, locals := 660 } : Room).slots A) D A 8 (N) ad g1 (0) (0) 54 [(0, .ref (ad i)), (1, .int (zI ((n : Int)))), (2, .int (zI (z1))), (3, .int (zI (z2))), (4, .int (zI (al))), (5, .int (zI (wy)))] [] := by
            intro n9
            induction n9 using Nat.strongRecOn with
            | ind n9 ih_lp1 =>
              intro al wy F9 r9 g1 hm9 fM fF f3 hvlp10 hvlp11
              obtain ⟨hg_y33, ⟨⟨e13_y33, e14_y33, e25_y33, e27_y33, e29_y33⟩, k15_y33, k16_y33, k17_y33, k18_y33, k19_y33, k20_y33, k23_y33⟩, hRD_y33, hTx_y33, hA_y33, st_y33, op_y33, ai_y33, fa_y33, mu_y33, tb_y33, ns_y33, nh_y33, nd_y33, rf_y33, pi_y33, tp_y33, te_y33, ki_y33, li_y33, ok1_y33, ok2_y33, fo_y33, dd_y33, dps_y33, ⟨ha1_y33, ha2_y33, ha3_y33, ha4_y33, ha5_y33, ha6_y33, ha7_y33, ha8_y33, ha9_y33, ha10_y33, ha11_y33, ha12_y33, ha13_y33, ha14_y33, ha15_y33, ha24_y33, ha25_y33, ha26_y33, ha27_y33, ha28_y33, ha29_y33⟩, hEv_y33, hPt_y33, hns_y33, htp_y33⟩ := id fM
              obtain ⟨-, hop_y33, hai_y33, hfa_y33, hT_y33, hT1_y33⟩ := id hEv_y33
              have e14 := e14_y33
              have e25 := e25_y33
              have e27 := e27_y33
              have e29 := e29_y33
              have hop := hop_y33
              have hai := hai_y33
              have hfa := hfa_y33
              have hT := hT_y33
              have hT1 := hT1_y33
              have hEv := hEv_y33
              have htp := htp_y33
              have hns := hns_y33
              have hPt := hPt_y33
              have hay34 : zAt ad (i) (ad i) := rfl
              have hay35 : zAt ad (i + 1) (ad (i + 1)) := rfl
              have hay36 : zAt ad (i + 2) (ad (i + 2)) := rfl
              have hay37 : zAt ad (i + 3) (ad (i + 3)) := rfl
              have hay38 : zAt ad (i + 4) (ad (i + 4)) := rfl
              have hay39 : zAt ad (i + 5) (ad (i + 5)) := rfl
              have hay40 : zAt ad (i + 6) (ad (i + 6)) := rfl
              have hay41 : zAt ad (i + 7) (ad (i + 7)) := rfl
              have hay42 : zAt ad (i + 8) (ad (i + 8)) := rfl
              have hay43 : zAt ad (i + 9) (ad (i + 9)) := rfl
              have hay44 : zAt ad (i + 10) (ad (i + 10)) := rfl
              have hay45 : zAt ad (i + 11) (ad (i + 11)) := rfl
              have hay46 : zAt ad (i + 12) (ad (i + 12)) := rfl
              have hay47 : zAt ad (i + 13) (ad (i + 13)) := rfl
              have hay48 : zAt ad (i + 14) (ad (i + 14)) := rfl
              have hay49 : zAt ad (i + 15) (ad (i + 15)) := rfl
              have hay50 : zAt ad (i + 24) (ad (i + 24)) := rfl
              have hay51 : zAt ad (i + 25) (ad (i + 25)) := rfl
              have hay52 : zAt ad (i + 26) (ad (i + 26)) := rfl
              have hay53 : zAt ad (i + 27) (ad (i + 27)) := rfl
              have hay54 : zAt ad (i + 28) (ad (i + 28)) := rfl
              have hay55 : zAt ad (i + 29) (ad (i + 29)) := rfl
              obtain ⟨⟨hsyy56, htyy56, hnyy56, hpyy56⟩, hlyy56⟩ := okA.at0 hA_y33
              simp only [Nat.zero_add] at hsyy56 hnyy56 hpyy56
              have hmn : ∀ s, s < 4 → 0 ≤ r9 (6 + 86 * s) ∧ r9 (6 + 86 * s) ≤ 12 := fun s hs => (hsyy56 s hs).1
              have h5 : 0 ≤ r9 5 ∧ r9 5 ≤ 6 := hpyy56
              have h13e : F9 13 = F 13 := fF 13 (by decide) (by decide)
              have h14e : F9 14 = F 14 := fF 14 (by decide) (by decide)
              have h17e : F9 17 = F 17 := fF 17 (by decide) (by decide)
              have h23e : F9 23 = F 23 := fF 23 (by decide) (by decide)
              refine z_iload C 5 dX10_odds_54 rfl ?_
              refine z_iconst (z := 1) C dX10_odds_56 rfl ?_
              refine z_iload_n C 2 dX10_odds_57 rfl ?_
              obtain ⟨xy57, exy58, hxy59⟩ := zI_of (zI (1) <<< (zI (z1) &&& 31))
              refine z_ishl (z := xy57) C dX10_odds_58 exy58 ?_
              have hshy60 := shl1_le (z := z1) (by omega) exy58 hxy59
              refine z_icmp_ge (tgt := 160) C dX10_odds_59 (by decide) (by omega) (by omega) (fun hby61 => ?_) (fun hby61 => ?_)
              · refine z_iload C 4 dX10_odds_160 rfl ?_
                have hMy62 : okMr cs ad g1 i (x + 1) F9 r9 := okMr.upd fM hg_y33 fM.2.1 (fun f _ => rfl) ha1_y33 (hA_y33.mono (by omega)) (fun j a b => by
                    exact Or.inl (by rfl))
                have h23 : F9 23 = F9 23 := rfl
                exact z_iret C hr hlk dX10_odds_162 (by decide) (by decide) ⟨al, rfl, rfl, rfl, by omega, ⟨_, _, hMy62, by omega⟩, fun j j1 => by exact f3 j j1⟩
              · refine z_iconst (z := 1) C dX10_odds_62 rfl ?_
                refine z_istore (lv' := [(6, .int (zI (1))), (0, .ref (ad i)), (1, .int (zI ((n : Int)))), (2, .int (zI (z1))), (3, .int (zI (z2))), (4, .int (zI (al))), (5, .int (zI (wy)))]) C dX10_odds_63 (by decide) rfl ?_
                refine z_aload_n C 1 dX10_odds_65 rfl ?_
                refine z_cV (As := []) (rest := []) (ci := 12) C (c_X10_tries l D A cs tt N ad _ i hN _ hg_y33 _ ha1_y33 (x) hA_y33) (by omega) hay34 hg_y33 rfl rfl mv_yX10_tries q_1980 hd_yX10_tries (by decide) (Nat.le_of_ble_eq_true rfl) (by decide) dX10_odds_66 rfl (kV0 fun gvy63 hvy63 => ?_)
                obtain ⟨⟨rvy63, hdvy63, hAvy63, hWvy63, h0vy63, hyvy63⟩, hfvy63⟩ := hvy63
                obtain ⟨⟨hsyy64, htyy64, hnyy64, hpyy64⟩, hlyy64⟩ := okA.at0 hAvy63
                simp only [Nat.zero_add] at hsyy64 hnyy64 hpyy64
                have hmn : ∀ s, s < 4 → 0 ≤ rvy63 (6 + 86 * s) ∧ rvy63 (6 + 86 * s) ≤ 12 := fun s hs => (hsyy64 s hs).1
                have h5 : 0 ≤ rvy63 5 ∧ rvy63 5 ≤ 6 := hpyy64
                refine z_iconst (z := 0) C dX10_odds_69 rfl ?_
                refine z_istore (lv' := [(7, .int (zI (0))), (6, .int (zI (1))), (0, .ref (ad i)), (1, .int (zI ((n : Int)))), (2, .int (zI (z1))), (3, .int (zI (z2))), (4, .int (zI (al))), (5, .int (zI (wy)))]) C dX10_odds_70 (by decide) rfl ?_
                have lp2 : ∀ (n9 : Nat) (so : Int) (kk : Int) (F9b : Nat → Int) (r9b : Nat → Int) (g1 : Nat → va_E), (7 - kk).toNat = n9 → (okMr cs ad g1 i x F9b r9b) → ((∀ f, f ≠ 12 → f ≠ 29 → F9b f = F f)) → (okW r9b 350 (x)) → (∀ j, j < i ∨ i + 30 ≤ j → g1 j = g j) → (-2147483648 ≤ so ∧ so ≤ 2147483647) → (0 ≤ kk ∧ kk ≤ z1) → (r9b 350 ≤ 2000 + kk) → zV pZ l eZ ({ frames := 11, cells := 0, slots := 0, locals := 660 } : Room) sZ mZ ([.ref (ad i), .int (zI ((n : Int))), .int (zI (z1)), .int (zI (z2))] : List Value).toArray below meth cZ (MQ below (zPost D A (rI0 N ad fun q g' => (-2147483648 ≤ q ∧ q ≤ 2147483647) ∧ (∃ F' r' : Nat → Int, okMr cs ad g' i (x + 1) F' r' ∧ F' 23 = F 23) ∧ ∀ j, j < i ∨ i + 30 ≤ j → g' j = g j)) ([.ref (ad i), .int (zI ((n : Int))), .int (zI (z1)), .int (zI (z2))] : List Value).toArray sZ ({ frames := 11, cells := 0, slots := 0, locals := 660 } : Room).cells ({ frames := 11, cells := 0, slots := 0, locals := 660 } : Room).slots A) D A 8 (N) ad g1 (0) (0) 72 [(0, .ref (ad i)), (1, .int (zI ((n : Int)))), (2, .int (zI (z1))), (3, .int (zI (z2))), (4, .int (zI (al))), (5, .int (zI (wy))), (6, .int (zI (so))), (7, .int (zI (kk)))] [] := by
                  intro n9
                  induction n9 using Nat.strongRecOn with
                  | ind n9 ih_lp2 =>
                    intro so kk F9b r9b g1 hm9 fMb fFb fWb f3 hvlp20 hvlp21 hvlp22
                    obtain ⟨hg_y65, ⟨⟨e13_y65, e14_y65, e25_y65, e27_y65, e29_y65⟩, k15_y65, k16_y65, k17_y65, k18_y65, k19_y65, k20_y65, k23_y65⟩, hRD_y65, hTx_y65, hA_y65, st_y65, op_y65, ai_y65, fa_y65, mu_y65, tb_y65, ns_y65, nh_y65, nd_y65, rf_y65, pi_y65, tp_y65, te_y65, ki_y65, li_y65, ok1_y65, ok2_y65, fo_y65, dd_y65, dps_y65, ⟨ha1_y65, ha2_y65, ha3_y65, ha4_y65, ha5_y65, ha6_y65, ha7_y65, ha8_y65, ha9_y65, ha10_y65, ha11_y65, ha12_y65, ha13_y65, ha14_y65, ha15_y65, ha24_y65, ha25_y65, ha26_y65, ha27_y65, ha28_y65, ha29_y65⟩, hEv_y65, hPt_y65, hns_y65, htp_y65⟩ := id fMb
                    obtain ⟨-, hop_y65, hai_y65, hfa_y65, hT_y65, hT1_y65⟩ := id hEv_y65
                    have e14 := e14_y65
                    have e25 := e25_y65
                    have e27 := e27_y65
                    have e29 := e29_y65
                    have hop := hop_y65
                    have hai := hai_y65
                    have hfa := hfa_y65
                    have hT := hT_y65
                    have hT1 := hT1_y65
                    have hEv := hEv_y65
                    have htp := htp_y65
                    have hns := hns_y65
                    have hPt := hPt_y65
                    have hay66 : zAt ad (i) (ad i) := rfl
                    have hay67 : zAt ad (i + 1) (ad (i + 1)) := rfl
                    have hay68 : zAt ad (i + 2) (ad (i + 2)) := rfl
                    have hay69 : zAt ad (i + 3) (ad (i + 3)) := rfl
                    have hay70 : zAt ad (i + 4) (ad (i + 4)) := rfl
                    have hay71 : zAt ad (i + 5) (ad (i + 5)) := rfl
                    have hay72 : zAt ad (i + 6) (ad (i + 6)) := rfl
                    have hay73 : zAt ad (i + 7) (ad (i + 7)) := rfl
                    have hay74 : zAt ad (i + 8) (ad (i + 8)) := rfl
                    have hay75 : zAt ad (i + 9) (ad (i + 9)) := rfl
                    have hay76 : zAt ad (i + 10) (ad (i + 10)) := rfl
                    have hay77 : zAt ad (i + 11) (ad (i + 11)) := rfl
                    have hay78 : zAt ad (i + 12) (ad (i + 12)) := rfl
                    have hay79 : zAt ad (i + 13) (ad (i + 13)) := rfl
                    have hay80 : zAt ad (i + 14) (ad (i + 14)) := rfl
                    have hay81 : zAt ad (i + 15) (ad (i + 15)) := rfl
                    have hay82 : zAt ad (i + 24) (ad (i + 24)) := rfl
                    have hay83 : zAt ad (i + 25) (ad (i + 25)) := rfl
                    have hay84 : zAt ad (i + 26) (ad (i + 26)) := rfl
                    have hay85 : zAt ad (i + 27) (ad (i + 27)) := rfl
                    have hay86 : zAt ad (i + 28) (ad (i + 28)) := rfl
                    have hay87 : zAt ad (i + 29) (ad (i + 29)) := rfl
                    obtain ⟨⟨hsyy88, htyy88, hnyy88, hpyy88⟩, hlyy88⟩ := okA.at0 hA_y65
                    simp only [Nat.zero_add] at hsyy88 hnyy88 hpyy88
                    have hmn : ∀ s, s < 4 → 0 ≤ r9b (6 + 86 * s) ∧ r9b (6 + 86 * s) ≤ 12 := fun s hs => (hsyy88 s hs).1
                    have h5 : 0 ≤ r9b 5 ∧ r9b 5 ≤ 6 := hpyy88
                    have h13be : F9b 13 = F 13 := fFb 13 (by decide) (by decide)
                    have h14be : F9b 14 = F 14 := fFb 14 (by decide) (by decide)
                    have h17be : F9b 17 = F 17 := fFb 17 (by decide) (by decide)
                    have h23be : F9b 23 = F 23 := fFb 23 (by decide) (by decide)
                    have hW2b := fWb.2.1
                    refine z_iload C 7 dX10_odds_72 rfl ?_
                    refine z_iload_n C 2 dX10_odds_74 rfl ?_
                    refine z_icmp_ge (tgt := 131) C dX10_odds_75 (by decide) (by omega) (by omega) (fun hby89 => ?_) (fun hby89 => ?_)
                    · refine z_aload_n C 0 dX10_odds_131 rfl ?_
                      refine z_iconst (z := 0) C dX10_odds_132 rfl ?_
                      refine z_put (fs' := mF ad (i) (uZ F9b 29 (0))) C (by omega) hay66 hg_y65 tyX10 tyX10_ok nmX10 rfl inA_X10 29 (by decide) q_1488 rfl rfl (by decide) rfl (Nat.le_of_ble_eq_true rfl) rfl dX10_odds_133 (fun gy90 egy91 => ?_)
                      have hgy92 := up_s egy91
                      refine z_aload_n C 0 dX10_odds_136 rfl ?_
                      refine z_sipush (z := 350) C dX10_odds_137 (by decide) ?_
                      refine z_iload_n C 1 dX10_odds_140 rfl ?_
                      obtain ⟨py93, hpy93⟩ : ∃ p9 : Nat, 350 + 6 + 86 * n = p9 := ⟨_, rfl⟩
                      have hgy94 := up_n egy91 ha1_y65 (ne_o (i := i) (c := 1) (d := 0) rfl)
                      have hgy96 := up_n egy91 ha2_y65 (ne_o (i := i) (c := 2) (d := 0) rfl)
                      have hgy97 := up_n egy91 ha7_y65 (ne_o (i := i) (c := 7) (d := 0) rfl)
                      have hqy98 : qS r9b py93 := ((fWb.1 n (by omega)).of (p2 := py93) (by omega)).q (by have hb9 := mBb (t := r9b 350 + x) (by omega); omega)
                      have hmky99 := hqy98.1
                      refine z_cV (As := [.int (zI (350)), .int (zI ((n : Int)))]) (rest := []) (ci := 12) C (c_X10_isUnstable l D A cs tt N ad _ i hN _ hgy92 _ hgy94 _ hgy96 _ hgy97 350 n py93 hpy93 (by omega) (by omega) hqy98) (by omega) hay66 hgy92 rfl rfl mv_yX10_isUnstable q_1811 hd_yX10_isUnstable (by decide) (Nat.le_of_ble_eq_true rfl) (by decide) dX10_odds_141 rfl (kI0 fun vy95 gvy95 hvy95 => ?_)
                      obtain ⟨hvy95, rfl⟩ := hvy95
                      refine z_if_eq (tgt := 154) C dX10_odds_144 (by decide) (by omega) (fun hby100 => ?_) (fun hby100 => ?_)
                      · refine z_iinc (z := wy + 1) (lv' := [(5, .int (zI (wy + 1))), (0, .ref (ad i)), (1, .int (zI ((n : Int)))), (2, .int (zI (z1))), (3, .int (zI (z2))), (4, .int (zI (al))), (6, .int (zI (so))), (7, .int (zI (kk)))]) (j := 5) C dX10_odds_154 rfl rfl (by decide) rfl ?_
                        refine z_goto (tgt := 54) C dX10_odds_157 (by decide) ?_
                        have hFy101 : ∀ f, f ≠ 29 → (uZ F9b 29 (0)) f = F9b f := fun f n29 => ((uZ_n _ _ n29).trans rfl)
                        have hey102 : (uZ F9b 29 (0)) 13 = F9b 13 := (fn rfl (by decide))
                        have hey103 : (uZ F9b 29 (0)) 14 = F9b 14 := (fn rfl (by decide))
                        have hey104 : (uZ F9b 29 (0)) 15 = F9b 15 := (fn rfl (by decide))
                        have hey105 : (uZ F9b 29 (0)) 16 = F9b 16 := (fn rfl (by decide))
                        have hey106 : (uZ F9b 29 (0)) 17 = F9b 17 := (fn rfl (by decide))
                        have hey107 : (uZ F9b 29 (0)) 18 = F9b 18 := (fn rfl (by decide))
                        have hey108 : (uZ F9b 29 (0)) 19 = F9b 19 := (fn rfl (by decide))
                        have hey109 : (uZ F9b 29 (0)) 20 = F9b 20 := (fn rfl (by decide))
                        have hey110 : (uZ F9b 29 (0)) 23 = F9b 23 := (fn rfl (by decide))
                        have hey111 : (uZ F9b 29 (0)) 25 = F9b 25 := (fn rfl (by decide))
                        have hey112 : (uZ F9b 29 (0)) 27 = F9b 27 := (fn rfl (by decide))
                        have hey113 : (uZ F9b 29 (0)) 28 = F9b 28 := (fn rfl (by decide))
                        have hey114 : (uZ F9b 29 (0)) 29 = 0 := (uZ_s _ _ _)
                        have hKy115 : okF (uZ F9b 29 (0)) := by unfold okF; omega
                        have hMy116 : okMr cs ad gy90 i (x) (uZ F9b 29 (0)) r9b := okMr.upd fMb hgy92 hKy115 (fun f a => hFy101 f (by omega)) hgy94 (hA_y65.mono (by omega)) (fun j a b => by
                            exact Or.inl (by rw [egy91, va_up_ne _ _ (by omega)]))
                        have hFy117 : ∀ f, f ≠ 29 → (uZ F9b 29 (0)) f = F9b f := fun f n29 => ((uZ_n _ _ n29).trans rfl)
                        have hFF : (∀ f, f ≠ 12 → f ≠ 29 → (uZ F9b 29 (0)) f = F f) := fun f n12 n29 => (hFy117 f n29).trans (fFb f n12 n29)
                        have hey118 : (uZ F9b 29 (0)) 13 = F9b 13 := (fn rfl (by decide))
                        have hey119 : (uZ F9b 29 (0)) 14 = F9b 14 := (fn rfl (by decide))
                        refine z_lv (lv' := [(0, .ref (ad i)), (1, .int (zI ((n : Int)))), (2, .int (zI (z1))), (3, .int (zI (z2))), (4, .int (zI (al))), (5, .int (zI (wy + 1)))]) [1, 2, 3, 4, 5, 0] rfl ?_
                        exact ih_lp1 _ (by omega) (al) (wy + 1) _ _ gy90 rfl hMy116 hFF (fun j j1 => by rw [egy91, va_up_ne _ _ (by omega)]; exact f3 j j1) (by omega) (by omega)
                      · refine z_iload C 4 dX10_odds_147 rfl ?_
                        refine z_iload C 6 dX10_odds_149 rfl ?_
                        refine z_iadd C dX10_odds_151 ?_
                        refine z_istore (lv' := [(4, .int (zI (al + so))), (0, .ref (ad i)), (1, .int (zI ((n : Int)))), (2, .int (zI (z1))), (3, .int (zI (z2))), (5, .int (zI (wy))), (6, .int (zI (so))), (7, .int (zI (kk)))]) C dX10_odds_152 (by decide) rfl ?_
                        refine z_iinc (z := wy + 1) (lv' := [(5, .int (zI (wy + 1))), (4, .int (zI (al + so))), (0, .ref (ad i)), (1, .int (zI ((n : Int)))), (2, .int (zI (z1))), (3, .int (zI (z2))), (6, .int (zI (so))), (7, .int (zI (kk)))]) (j := 5) C dX10_odds_154 rfl rfl (by decide) rfl ?_
                        refine z_goto (tgt := 54) C dX10_odds_157 (by decide) ?_
                        obtain ⟨xy120, exy121, hxy122⟩ := zI_of (zI (al + so))
                        rw [exy121]
                        have hFy123 : ∀ f, f ≠ 29 → (uZ F9b 29 (0)) f = F9b f := fun f n29 => ((uZ_n _ _ n29).trans rfl)
                        have hey124 : (uZ F9b 29 (0)) 13 = F9b 13 := (fn rfl (by decide))
                        have hey125 : (uZ F9b 29 (0)) 14 = F9b 14 := (fn rfl (by decide))
                        have hey126 : (uZ F9b 29 (0)) 15 = F9b 15 := (fn rfl (by decide))
                        have hey127 : (uZ F9b 29 (0)) 16 = F9b 16 := (fn rfl (by decide))
                        have hey128 : (uZ F9b 29 (0)) 17 = F9b 17 := (fn rfl (by decide))
                        have hey129 : (uZ F9b 29 (0)) 18 = F9b 18 := (fn rfl (by decide))
                        have hey130 : (uZ F9b 29 (0)) 19 = F9b 19 := (fn rfl (by decide))
                        have hey131 : (uZ F9b 29 (0)) 20 = F9b 20 := (fn rfl (by decide))
                        have hey132 : (uZ F9b 29 (0)) 23 = F9b 23 := (fn rfl (by decide))
                        have hey133 : (uZ F9b 29 (0)) 25 = F9b 25 := (fn rfl (by decide))
                        have hey134 : (uZ F9b 29 (0)) 27 = F9b 27 := (fn rfl (by decide))
                        have hey135 : (uZ F9b 29 (0)) 28 = F9b 28 := (fn rfl (by decide))
                        have hey136 : (uZ F9b 29 (0)) 29 = 0 := (uZ_s _ _ _)
                        have hKy137 : okF (uZ F9b 29 (0)) := by unfold okF; omega
                        have hMy138 : okMr cs ad gy90 i (x) (uZ F9b 29 (0)) r9b := okMr.upd fMb hgy92 hKy137 (fun f a => hFy123 f (by omega)) hgy94 (hA_y65.mono (by omega)) (fun j a b => by
                            exact Or.inl (by rw [egy91, va_up_ne _ _ (by omega)]))
                        have hFy139 : ∀ f, f ≠ 29 → (uZ F9b 29 (0)) f = F9b f := fun f n29 => ((uZ_n _ _ n29).trans rfl)
                        have hFF : (∀ f, f ≠ 12 → f ≠ 29 → (uZ F9b 29 (0)) f = F f) := fun f n12 n29 => (hFy139 f n29).trans (fFb f n12 n29)
                        have hey140 : (uZ F9b 29 (0)) 13 = F9b 13 := (fn rfl (by decide))
                        have hey141 : (uZ F9b 29 (0)) 14 = F9b 14 := (fn rfl (by decide))
                        refine z_lv (lv' := [(0, .ref (ad i)), (1, .int (zI ((n : Int)))), (2, .int (zI (z1))), (3, .int (zI (z2))), (4, .int (zI (xy120))), (5, .int (zI (wy + 1)))]) [2, 3, 4, 5, 1, 0] rfl ?_
                        exact ih_lp1 _ (by omega) (xy120) (wy + 1) _ _ gy90 rfl hMy138 hFF (fun j j1 => by rw [egy91, va_up_ne _ _ (by omega)]; exact f3 j j1) (by omega) (by omega)
                    · refine z_aload_n C 0 dX10_odds_78 rfl ?_
                      refine z_iload C 5 dX10_odds_79 rfl ?_
                      refine z_iload C 7 dX10_odds_81 rfl ?_
                      obtain ⟨xy142, exy143, hxy144⟩ := zI_of (zI (wy) >>> (zI (kk) &&& 31))
                      refine z_ishr (z := xy142) C dX10_odds_83 exy143 ?_
                      refine z_iconst (z := 1) C dX10_odds_84 rfl ?_
                      obtain ⟨xy145, exy146, hxy147⟩ := zI_and (zI (xy142)) (m := zI 1) 1 (by decide)
                      refine z_iand (z := xy145) C dX10_odds_85 exy146 ?_
                      refine z_iconst (z := 1) C dX10_odds_86 rfl ?_
                      refine z_icmp_ne (tgt := 94) C dX10_odds_87 (by decide) (by omega) (by omega) (fun hby148 => ?_) (fun hby148 => ?_)
                      · refine z_iconst (z := 0) C dX10_odds_94 rfl ?_
                        refine z_put (fs' := mF ad (i) (uZ F9b 29 (0))) C (by omega) hay66 hg_y65 tyX10 tyX10_ok nmX10 rfl inA_X10 29 (by decide) q_1488 rfl rfl (by decide) rfl (Nat.le_of_ble_eq_true rfl) rfl dX10_odds_95 (fun gy149 egy150 => ?_)
                        have hgy151 := up_s egy150
                        refine z_iload C 6 dX10_odds_98 rfl ?_
                        refine z_aload_n C 0 dX10_odds_100 rfl ?_
                        refine z_get (v := .int (zI (0))) C (by omega) hay66 hgy151 rfl inA_X10 29 (by decide) q_1488 rfl (fv (F := (uZ F9b 29 (0))) (f := 29) (uZ_s _ _ _)) dX10_odds_101 ?_
                        refine z_if_eq (tgt := 111) C dX10_odds_104 (by decide) (by omega) (fun _ => ?_) (fun h => absurd h (by omega))
                        refine z_bipush (z := 10) C dX10_odds_111 (by decide) ?_
                        refine z_iload_n C 3 dX10_odds_113 rfl ?_
                        refine z_isub C dX10_odds_114 ?_
                        refine z_imul C dX10_odds_115 ?_
                        refine z_istore (lv' := [(6, .int (zI (so * (10 - z2)))), (0, .ref (ad i)), (1, .int (zI ((n : Int)))), (2, .int (zI (z1))), (3, .int (zI (z2))), (4, .int (zI (al))), (5, .int (zI (wy))), (7, .int (zI (kk)))]) C dX10_odds_116 (by decide) rfl ?_
                        refine z_aload_n C 1 dX10_odds_118 rfl ?_
                        refine z_sipush (z := 350) C dX10_odds_119 (by decide) ?_
                        have hey153 : (uZ F9b 29 (0)) 13 = F9b 13 := (fn rfl (by decide))
                        have hey154 : (uZ F9b 29 (0)) 14 = F9b 14 := (fn rfl (by decide))
                        have hey155 : (uZ F9b 29 (0)) 25 = F9b 25 := (fn rfl (by decide))
                        have hey156 : (uZ F9b 29 (0)) 27 = F9b 27 := (fn rfl (by decide))
                        have hey157 : (uZ F9b 29 (0)) 28 = F9b 28 := (fn rfl (by decide))
                        have hey158 : (uZ F9b 29 (0)) 29 = 0 := (uZ_s _ _ _)
                        have hEvy152 : okEnv (uZ F9b 29 (0)) _ _ _ _ _ := ⟨by omega, hop, hai, hfa, hT, hT1⟩
                        have hgy159 := up_n egy150 ha1_y65 (ne_o (i := i) (c := 1) (d := 0) rfl)
                        have hgy161 := up_n egy150 ha3_y65 (ne_o (i := i) (c := 3) (d := 0) rfl)
                        have hgy162 := up_n egy150 ha4_y65 (ne_o (i := i) (c := 4) (d := 0) rfl)
                        have hgy163 := up_n egy150 ha5_y65 (ne_o (i := i) (c := 5) (d := 0) rfl)
                        have hgy164 := up_n egy150 ha6_y65 (ne_o (i := i) (c := 6) (d := 0) rfl)
                        have hgy165 := up_n egy150 ha7_y65 (ne_o (i := i) (c := 7) (d := 0) rfl)
                        have hgy166 := up_n egy150 ha14_y65 (ne_o (i := i) (c := 14) (d := 0) rfl)
                        have hgy167 := up_n egy150 ha15_y65 (ne_o (i := i) (c := 15) (d := 0) rfl)
                        refine z_cV (As := [.int (zI (350))]) (rest := []) (ci := 12) C (c_X10_hour l D A cs tt N ad _ i hN _ hgy151 _ hgy159 _ hgy161 _ hgy162 _ hgy163 _ hgy164 _ hgy165 _ hgy166 _ hgy167 350 (by omega) hEvy152 (x) (by omega) fWb (by omega) (by omega)) (by omega) hay66 hgy151 rfl rfl mv_yX10_hour q_1885 hd_yX10_hour (by decide) (Nat.le_of_ble_eq_true rfl) (by decide) dX10_odds_122 rfl (kV0 fun gvy160 hvy160 => ?_)
                        obtain ⟨⟨rvy160, hcvy160, hwvy160, htvy160, hyvy160⟩, ⟨t4vy160, h4vy160⟩, ⟨t5vy160, h5vy160⟩, hfvy160⟩ := hvy160
                        have hAy168 : okA rvy160 (x) := okA.tried hA_y65 (fun j a => hyvy160 j (by omega))
                        obtain ⟨⟨hsyy169, htyy169, hnyy169, hpyy169⟩, hlyy169⟩ := okA.at0 hAy168
                        simp only [Nat.zero_add] at hsyy169 hnyy169 hpyy169
                        have hmn : ∀ s, s < 4 → 0 ≤ rvy160 (6 + 86 * s) ∧ rvy160 (6 + 86 * s) ≤ 12 := fun s hs => (hsyy169 s hs).1
                        have h5 : 0 ≤ rvy160 5 ∧ rvy160 5 ≤ 6 := hpyy169
                        refine z_iinc (z := kk + 1) (lv' := [(7, .int (zI (kk + 1))), (6, .int (zI (so * (10 - z2)))), (0, .ref (ad i)), (1, .int (zI ((n : Int)))), (2, .int (zI (z1))), (3, .int (zI (z2))), (4, .int (zI (al))), (5, .int (zI (wy)))]) (j := 7) C dX10_odds_125 rfl rfl (by decide) rfl ?_
                        refine z_goto (tgt := 72) C dX10_odds_128 (by decide) ?_
                        obtain ⟨xy170, exy171, hxy172⟩ := zI_of (zI (so * (10 - z2)))
                        rw [exy171]
                        have hgy173 := (hfvy160 (i) (ne_o (i := i) (c := 0) (d := 1) rfl) (ne_o (i := i) (c := 0) (d := 14) rfl) (ne_o (i := i) (c := 0) (d := 15) rfl)).trans hgy151
                        have hFy174 : ∀ f, f ≠ 29 → (uZ F9b 29 (0)) f = F9b f := fun f n29 => ((uZ_n _ _ n29).trans rfl)
                        have hey175 : (uZ F9b 29 (0)) 13 = F9b 13 := (fn rfl (by decide))
                        have hey176 : (uZ F9b 29 (0)) 14 = F9b 14 := (fn rfl (by decide))
                        have hey177 : (uZ F9b 29 (0)) 15 = F9b 15 := (fn rfl (by decide))
                        have hey178 : (uZ F9b 29 (0)) 16 = F9b 16 := (fn rfl (by decide))
                        have hey179 : (uZ F9b 29 (0)) 17 = F9b 17 := (fn rfl (by decide))
                        have hey180 : (uZ F9b 29 (0)) 18 = F9b 18 := (fn rfl (by decide))
                        have hey181 : (uZ F9b 29 (0)) 19 = F9b 19 := (fn rfl (by decide))
                        have hey182 : (uZ F9b 29 (0)) 20 = F9b 20 := (fn rfl (by decide))
                        have hey183 : (uZ F9b 29 (0)) 23 = F9b 23 := (fn rfl (by decide))
                        have hey184 : (uZ F9b 29 (0)) 25 = F9b 25 := (fn rfl (by decide))
                        have hey185 : (uZ F9b 29 (0)) 27 = F9b 27 := (fn rfl (by decide))
                        have hey186 : (uZ F9b 29 (0)) 28 = F9b 28 := (fn rfl (by decide))
                        have hey187 : (uZ F9b 29 (0)) 29 = 0 := (uZ_s _ _ _)
                        have hKy188 : okF (uZ F9b 29 (0)) := by unfold okF; omega
                        have hMy189 : okMr cs ad gvy160 i (x) (uZ F9b 29 (0)) rvy160 := okMr.upd fMb hgy173 hKy188 (fun f a => hFy174 f (by omega)) hcvy160 (hAy168.mono (by omega)) (fun j a b => by
                            by_cases e0 : j = i + 14
                            · exact Or.inr ⟨14, _, e0, lsP.l (by decide), by rw [e0]; exact h4vy160⟩
                            by_cases e1 : j = i + 15
                            · exact Or.inr ⟨15, _, e1, lsP.l (by decide), by rw [e1]; exact h5vy160⟩
                            exact Or.inl (by rw [hfvy160 _ (by omega) (by omega) (by omega)]; rw [egy150, va_up_ne _ _ (by omega)]))
                        have hFy190 : ∀ f, f ≠ 29 → (uZ F9b 29 (0)) f = F9b f := fun f n29 => ((uZ_n _ _ n29).trans rfl)
                        have hFFb : (∀ f, f ≠ 12 → f ≠ 29 → (uZ F9b 29 (0)) f = F f) := fun f n12 n29 => (hFy190 f n29).trans (fFb f n12 n29)
                        have hey191 : (uZ F9b 29 (0)) 13 = F9b 13 := (fn rfl (by decide))
                        have hey192 : (uZ F9b 29 (0)) 14 = F9b 14 := (fn rfl (by decide))
                        refine z_lv (lv' := [(0, .ref (ad i)), (1, .int (zI ((n : Int)))), (2, .int (zI (z1))), (3, .int (zI (z2))), (4, .int (zI (al))), (5, .int (zI (wy))), (6, .int (zI (xy170))), (7, .int (zI (kk + 1)))]) [2, 3, 4, 5, 6, 7, 1, 0] rfl ?_
                        exact ih_lp2 _ (by omega) (xy170) (kk + 1) _ _ gvy160 rfl hMy189 hFFb hwvy160 (fun j j1 => by rw [hfvy160 _ (by omega) (by omega) (by omega)]; rw [egy150, va_up_ne _ _ (by omega)]; exact f3 j j1) (by omega) (by omega) (by omega)
                      · refine z_iconst (z := 1) C dX10_odds_90 rfl ?_
                        refine z_goto (tgt := 95) C dX10_odds_91 (by decide) ?_
                        refine z_put (fs' := mF ad (i) (uZ F9b 29 (1))) C (by omega) hay66 hg_y65 tyX10 tyX10_ok nmX10 rfl inA_X10 29 (by decide) q_1488 rfl rfl (by decide) rfl (Nat.le_of_ble_eq_true rfl) rfl dX10_odds_95 (fun gy193 egy194 => ?_)
                        have hgy195 := up_s egy194
                        refine z_iload C 6 dX10_odds_98 rfl ?_
                        refine z_aload_n C 0 dX10_odds_100 rfl ?_
                        refine z_get (v := .int (zI (1))) C (by omega) hay66 hgy195 rfl inA_X10 29 (by decide) q_1488 rfl (fv (F := (uZ F9b 29 (1))) (f := 29) (uZ_s _ _ _)) dX10_odds_101 ?_
                        refine z_if_eq (tgt := 111) C dX10_odds_104 (by decide) (by omega) (fun h => absurd h (by omega)) (fun _ => ?_)
                        refine z_iload_n C 3 dX10_odds_107 rfl ?_
                        refine z_goto (tgt := 115) C dX10_odds_108 (by decide) ?_
                        refine z_imul C dX10_odds_115 ?_
                        refine z_istore (lv' := [(6, .int (zI (so * z2))), (0, .ref (ad i)), (1, .int (zI ((n : Int)))), (2, .int (zI (z1))), (3, .int (zI (z2))), (4, .int (zI (al))), (5, .int (zI (wy))), (7, .int (zI (kk)))]) C dX10_odds_116 (by decide) rfl ?_
                        refine z_aload_n C 1 dX10_odds_118 rfl ?_
                        refine z_sipush (z := 350) C dX10_odds_119 (by decide) ?_
                        have hey197 : (uZ F9b 29 (1)) 13 = F9b 13 := (fn rfl (by decide))
                        have hey198 : (uZ F9b 29 (1)) 14 = F9b 14 := (fn rfl (by decide))
                        have hey199 : (uZ F9b 29 (1)) 25 = F9b 25 := (fn rfl (by decide))
                        have hey200 : (uZ F9b 29 (1)) 27 = F9b 27 := (fn rfl (by decide))
                        have hey201 : (uZ F9b 29 (1)) 28 = F9b 28 := (fn rfl (by decide))
                        have hey202 : (uZ F9b 29 (1)) 29 = 1 := (uZ_s _ _ _)
                        have hEvy196 : okEnv (uZ F9b 29 (1)) _ _ _ _ _ := ⟨by omega, hop, hai, hfa, hT, hT1⟩
                        have hgy203 := up_n egy194 ha1_y65 (ne_o (i := i) (c := 1) (d := 0) rfl)
                        have hgy205 := up_n egy194 ha3_y65 (ne_o (i := i) (c := 3) (d := 0) rfl)
                        have hgy206 := up_n egy194 ha4_y65 (ne_o (i := i) (c := 4) (d := 0) rfl)
                        have hgy207 := up_n egy194 ha5_y65 (ne_o (i := i) (c := 5) (d := 0) rfl)
                        have hgy208 := up_n egy194 ha6_y65 (ne_o (i := i) (c := 6) (d := 0) rfl)
                        have hgy209 := up_n egy194 ha7_y65 (ne_o (i := i) (c := 7) (d := 0) rfl)
                        have hgy210 := up_n egy194 ha14_y65 (ne_o (i := i) (c := 14) (d := 0) rfl)
                        have hgy211 := up_n egy194 ha15_y65 (ne_o (i := i) (c := 15) (d := 0) rfl)
                        refine z_cV (As := [.int (zI (350))]) (rest := []) (ci := 12) C (c_X10_hour l D A cs tt N ad _ i hN _ hgy195 _ hgy203 _ hgy205 _ hgy206 _ hgy207 _ hgy208 _ hgy209 _ hgy210 _ hgy211 350 (by omega) hEvy196 (x) (by omega) fWb (by omega) (by omega)) (by omega) hay66 hgy195 rfl rfl mv_yX10_hour q_1885 hd_yX10_hour (by decide) (Nat.le_of_ble_eq_true rfl) (by decide) dX10_odds_122 rfl (kV0 fun gvy204 hvy204 => ?_)
                        obtain ⟨⟨rvy204, hcvy204, hwvy204, htvy204, hyvy204⟩, ⟨t4vy204, h4vy204⟩, ⟨t5vy204, h5vy204⟩, hfvy204⟩ := hvy204
                        have hAy212 : okA rvy204 (x) := okA.tried hA_y65 (fun j a => hyvy204 j (by omega))
                        obtain ⟨⟨hsyy213, htyy213, hnyy213, hpyy213⟩, hlyy213⟩ := okA.at0 hAy212
                        simp only [Nat.zero_add] at hsyy213 hnyy213 hpyy213
                        have hmn : ∀ s, s < 4 → 0 ≤ rvy204 (6 + 86 * s) ∧ rvy204 (6 + 86 * s) ≤ 12 := fun s hs => (hsyy213 s hs).1
                        have h5 : 0 ≤ rvy204 5 ∧ rvy204 5 ≤ 6 := hpyy213
                        refine z_iinc (z := kk + 1) (lv' := [(7, .int (zI (kk + 1))), (6, .int (zI (so * z2))), (0, .ref (ad i)), (1, .int (zI ((n : Int)))), (2, .int (zI (z1))), (3, .int (zI (z2))), (4, .int (zI (al))), (5, .int (zI (wy)))]) (j := 7) C dX10_odds_125 rfl rfl (by decide) rfl ?_
                        refine z_goto (tgt := 72) C dX10_odds_128 (by decide) ?_
                        obtain ⟨xy214, exy215, hxy216⟩ := zI_of (zI (so * z2))
                        rw [exy215]
                        have hgy217 := (hfvy204 (i) (ne_o (i := i) (c := 0) (d := 1) rfl) (ne_o (i := i) (c := 0) (d := 14) rfl) (ne_o (i := i) (c := 0) (d := 15) rfl)).trans hgy195
                        have hFy218 : ∀ f, f ≠ 29 → (uZ F9b 29 (1)) f = F9b f := fun f n29 => ((uZ_n _ _ n29).trans rfl)
                        have hey219 : (uZ F9b 29 (1)) 13 = F9b 13 := (fn rfl (by decide))
                        have hey220 : (uZ F9b 29 (1)) 14 = F9b 14 := (fn rfl (by decide))
                        have hey221 : (uZ F9b 29 (1)) 15 = F9b 15 := (fn rfl (by decide))
                        have hey222 : (uZ F9b 29 (1)) 16 = F9b 16 := (fn rfl (by decide))
                        have hey223 : (uZ F9b 29 (1)) 17 = F9b 17 := (fn rfl (by decide))
                        have hey224 : (uZ F9b 29 (1)) 18 = F9b 18 := (fn rfl (by decide))
                        have hey225 : (uZ F9b 29 (1)) 19 = F9b 19 := (fn rfl (by decide))
                        have hey226 : (uZ F9b 29 (1)) 20 = F9b 20 := (fn rfl (by decide))
                        have hey227 : (uZ F9b 29 (1)) 23 = F9b 23 := (fn rfl (by decide))
                        have hey228 : (uZ F9b 29 (1)) 25 = F9b 25 := (fn rfl (by decide))
                        have hey229 : (uZ F9b 29 (1)) 27 = F9b 27 := (fn rfl (by decide))
                        have hey230 : (uZ F9b 29 (1)) 28 = F9b 28 := (fn rfl (by decide))
                        have hey231 : (uZ F9b 29 (1)) 29 = 1 := (uZ_s _ _ _)
                        have hKy232 : okF (uZ F9b 29 (1)) := by unfold okF; omega
                        have hMy233 : okMr cs ad gvy204 i (x) (uZ F9b 29 (1)) rvy204 := okMr.upd fMb hgy217 hKy232 (fun f a => hFy218 f (by omega)) hcvy204 (hAy212.mono (by omega)) (fun j a b => by
                            by_cases e0 : j = i + 14
                            · exact Or.inr ⟨14, _, e0, lsP.l (by decide), by rw [e0]; exact h4vy204⟩
                            by_cases e1 : j = i + 15
                            · exact Or.inr ⟨15, _, e1, lsP.l (by decide), by rw [e1]; exact h5vy204⟩
                            exact Or.inl (by rw [hfvy204 _ (by omega) (by omega) (by omega)]; rw [egy194, va_up_ne _ _ (by omega)]))
                        have hFy234 : ∀ f, f ≠ 29 → (uZ F9b 29 (1)) f = F9b f := fun f n29 => ((uZ_n _ _ n29).trans rfl)
                        have hFFb : (∀ f, f ≠ 12 → f ≠ 29 → (uZ F9b 29 (1)) f = F f) := fun f n12 n29 => (hFy234 f n29).trans (fFb f n12 n29)
                        have hey235 : (uZ F9b 29 (1)) 13 = F9b 13 := (fn rfl (by decide))
                        have hey236 : (uZ F9b 29 (1)) 14 = F9b 14 := (fn rfl (by decide))
                        refine z_lv (lv' := [(0, .ref (ad i)), (1, .int (zI ((n : Int)))), (2, .int (zI (z1))), (3, .int (zI (z2))), (4, .int (zI (al))), (5, .int (zI (wy))), (6, .int (zI (xy214))), (7, .int (zI (kk + 1)))]) [2, 3, 4, 5, 6, 7, 1, 0] rfl ?_
                        exact ih_lp2 _ (by omega) (xy214) (kk + 1) _ _ gvy204 rfl hMy233 hFFb hwvy204 (fun j j1 => by rw [hfvy204 _ (by omega) (by omega) (by omega)]; rw [egy194, va_up_ne _ _ (by omega)]; exact f3 j j1) (by omega) (by omega) (by omega)
                have hgy237 := (hfvy63 (i) (ne_o (i := i) (c := 0) (d := 1) rfl)).trans hg_y33
                have hMy238 : okMr cs ad gvy63 i (x) F9 rvy63 := okMr.upd fM hgy237 fM.2.1 (fun f _ => rfl) hdvy63 (hAvy63.mono (by omega)) (fun j a b => by
                    exact Or.inl (by rw [hfvy63 _ (by omega)]))
                have hFFb : (∀ f, f ≠ 12 → f ≠ 29 → F9 f = F f) := fun f n12 n29 => fF f n12 n29
                have hey239 : F9 13 = F9 13 := rfl
                have hey240 : F9 14 = F9 14 := rfl
                refine z_lv (lv' := [(0, .ref (ad i)), (1, .int (zI ((n : Int)))), (2, .int (zI (z1))), (3, .int (zI (z2))), (4, .int (zI (al))), (5, .int (zI (wy))), (6, .int (zI (1))), (7, .int (zI (0)))]) [2, 3, 4, 5, 6, 7, 1, 0] rfl ?_
                exact lp2 _ (1) (0) _ _ gvy63 rfl hMy238 hFFb hWvy63 (fun j j1 => by rw [hfvy63 _ (by omega)]; exact f3 j j1) (by omega) (by omega) (by omega)
          have hgy241 := up_n egy25 ha1 (ne_o (i := i) (c := 1) (d := 0) rfl)
          have hgy242 := (hfvy27 (i + 1) (ne_o (i := i) (c := 1) (d := 0) rfl)).trans hgy241
          have hgy243 := (hfvy31 (i + 1) (ne_o (i := i) (c := 1) (d := 0) rfl)).trans hgy242
          have hFy244 : ∀ f, f ≠ 12 → Fvy31 f = F f := fun f n12 => ((hFvy31 f n12).trans ((hFvy27 f n12).trans ((uZ_n _ _ n12).trans rfl)))
          have hey245 : Fvy31 13 = F 13 := ((hFvy31 13 (by decide)).trans ((hFvy27 13 (by decide)).trans (fn rfl (by decide))))
          have hey246 : Fvy31 14 = F 14 := ((hFvy31 14 (by decide)).trans ((hFvy27 14 (by decide)).trans (fn rfl (by decide))))
          have hey247 : Fvy31 15 = F 15 := ((hFvy31 15 (by decide)).trans ((hFvy27 15 (by decide)).trans (fn rfl (by decide))))
          have hey248 : Fvy31 16 = F 16 := ((hFvy31 16 (by decide)).trans ((hFvy27 16 (by decide)).trans (fn rfl (by decide))))
          have hey249 : Fvy31 17 = F 17 := ((hFvy31 17 (by decide)).trans ((hFvy27 17 (by decide)).trans (fn rfl (by decide))))
          have hey250 : Fvy31 18 = F 18 := ((hFvy31 18 (by decide)).trans ((hFvy27 18 (by decide)).trans (fn rfl (by decide))))
          have hey251 : Fvy31 19 = F 19 := ((hFvy31 19 (by decide)).trans ((hFvy27 19 (by decide)).trans (fn rfl (by decide))))
          have hey252 : Fvy31 20 = F 20 := ((hFvy31 20 (by decide)).trans ((hFvy27 20 (by decide)).trans (fn rfl (by decide))))
          have hey253 : Fvy31 23 = F 23 := ((hFvy31 23 (by decide)).trans ((hFvy27 23 (by decide)).trans (fn rfl (by decide))))
          have hey254 : Fvy31 25 = F 25 := ((hFvy31 25 (by decide)).trans ((hFvy27 25 (by decide)).trans (fn rfl (by decide))))
          have hey255 : Fvy31 27 = F 27 := ((hFvy31 27 (by decide)).trans ((hFvy27 27 (by decide)).trans (fn rfl (by decide))))
          have hey256 : Fvy31 28 = F 28 := ((hFvy31 28 (by decide)).trans ((hFvy27 28 (by decide)).trans (fn rfl (by decide))))
          have hey257 : Fvy31 29 = F 29 := ((hFvy31 29 (by decide)).trans ((hFvy27 29 (by decide)).trans (fn rfl (by decide))))
          have hKy258 : okF Fvy31 := by unfold okF; omega
          have hMy259 : okMr cs ad gvy31 i (x) Fvy31 r := okMr.upd hM hcvy31 hKy258 (fun f a => hFy244 f (by omega)) hgy243 (hA.mono (by omega)) (fun j a b => by
              exact Or.inl (by rw [hfvy31 _ (by omega)]; rw [hfvy27 _ (by omega)]; rw [egy25, va_up_ne _ _ (by omega)]))
          have hFy260 : ∀ f, f ≠ 12 → Fvy31 f = F f := fun f n12 => ((hFvy31 f n12).trans ((hFvy27 f n12).trans ((uZ_n _ _ n12).trans rfl)))
          have hFF : (∀ f, f ≠ 12 → f ≠ 29 → Fvy31 f = F f) := fun f n12 n29 => (hFy260 f n12)
          have hey261 : Fvy31 13 = F 13 := ((hFvy31 13 (by decide)).trans ((hFvy27 13 (by decide)).trans (fn rfl (by decide))))
          have hey262 : Fvy31 14 = F 14 := ((hFvy31 14 (by decide)).trans ((hFvy27 14 (by decide)).trans (fn rfl (by decide))))
          refine z_lv (lv' := [(0, .ref (ad i)), (1, .int (zI ((n : Int)))), (2, .int (zI (z1))), (3, .int (zI (z2))), (4, .int (zI (0))), (5, .int (zI (0)))]) [2, 3, 4, 5, 1, 0] rfl ?_
          exact lp1 _ (0) (0) _ _ gvy31 rfl hMy259 hFF (fun j j1 => by rw [hfvy31 _ (by omega)]; rw [hfvy27 _ (by omega)]; rw [egy25, va_up_ne _ _ (by omega)]) (by omega) (by omega)
        · refine z_if_ne (tgt := 48) C dX10_odds_43 (by decide) (by omega) (fun h => absurd h (by omega)) (fun _ => ?_)
          refine z_iconst (z := 0) C dX10_odds_46 rfl ?_
          have hgy263 := up_n egy25 ha1 (ne_o (i := i) (c := 1) (d := 0) rfl)
          have hgy264 := (hfvy27 (i + 1) (ne_o (i := i) (c := 1) (d := 0) rfl)).trans hgy263
          have hgy265 := (hfvy31 (i + 1) (ne_o (i := i) (c := 1) (d := 0) rfl)).trans hgy264
          have hFy266 : ∀ f, f ≠ 12 → Fvy31 f = F f := fun f n12 => ((hFvy31 f n12).trans ((hFvy27 f n12).trans ((uZ_n _ _ n12).trans rfl)))
          have hey267 : Fvy31 13 = F 13 := ((hFvy31 13 (by decide)).trans ((hFvy27 13 (by decide)).trans (fn rfl (by decide))))
          have hey268 : Fvy31 14 = F 14 := ((hFvy31 14 (by decide)).trans ((hFvy27 14 (by decide)).trans (fn rfl (by decide))))
          have hey269 : Fvy31 15 = F 15 := ((hFvy31 15 (by decide)).trans ((hFvy27 15 (by decide)).trans (fn rfl (by decide))))
          have hey270 : Fvy31 16 = F 16 := ((hFvy31 16 (by decide)).trans ((hFvy27 16 (by decide)).trans (fn rfl (by decide))))
          have hey271 : Fvy31 17 = F 17 := ((hFvy31 17 (by decide)).trans ((hFvy27 17 (by decide)).trans (fn rfl (by decide))))
          have hey272 : Fvy31 18 = F 18 := ((hFvy31 18 (by decide)).trans ((hFvy27 18 (by decide)).trans (fn rfl (by decide))))
          have hey273 : Fvy31 19 = F 19 := ((hFvy31 19 (by decide)).trans ((hFvy27 19 (by decide)).trans (fn rfl (by decide))))
          have hey274 : Fvy31 20 = F 20 := ((hFvy31 20 (by decide)).trans ((hFvy27 20 (by decide)).trans (fn rfl (by decide))))
          have hey275 : Fvy31 23 = F 23 := ((hFvy31 23 (by decide)).trans ((hFvy27 23 (by decide)).trans (fn rfl (by decide))))
          have hey276 : Fvy31 25 = F 25 := ((hFvy31 25 (by decide)).trans ((hFvy27 25 (by decide)).trans (fn rfl (by decide))))
          have hey277 : Fvy31 27 = F 27 := ((hFvy31 27 (by decide)).trans ((hFvy27 27 (by decide)).trans (fn rfl (by decide))))
          have hey278 : Fvy31 28 = F 28 := ((hFvy31 28 (by decide)).trans ((hFvy27 28 (by decide)).trans (fn rfl (by decide))))
          have hey279 : Fvy31 29 = F 29 := ((hFvy31 29 (by decide)).trans ((hFvy27 29 (by decide)).trans (fn rfl (by decide))))
          have hKy280 : okF Fvy31 := by unfold okF; omega
          have hMy281 : okMr cs ad gvy31 i (x + 1) Fvy31 r := okMr.upd hM hcvy31 hKy280 (fun f a => hFy266 f (by omega)) hgy265 (hA.mono (by omega)) (fun j a b => by
              exact Or.inl (by rw [hfvy31 _ (by omega)]; rw [hfvy27 _ (by omega)]; rw [egy25, va_up_ne _ _ (by omega)]))
          have h23 : Fvy31 23 = F 23 := ((hFvy31 23 (by decide)).trans ((hFvy27 23 (by decide)).trans (fn rfl (by decide))))
          exact z_iret C hr hlk dX10_odds_47 (by decide) (by decide) ⟨0, rfl, rfl, rfl, by omega, ⟨_, _, hMy281, by omega⟩, fun j j1 => by rw [hfvy31 _ (by omega)]; rw [hfvy27 _ (by omega)]; rw [egy25, va_up_ne _ _ (by omega)]⟩
      · refine z_if_eq (tgt := 38) C dX10_odds_31 (by decide) (by omega) (fun _ => ?_) (fun h => absurd h (by omega))
        refine z_iconst (z := 0) C dX10_odds_38 rfl ?_
        refine z_iconst (z := 2) C dX10_odds_39 rfl ?_
        have hey283 : Fvy27 12 = Fvy27 12 := rfl
        refine z_cV (As := [.int (zI (0)), .int (zI (2))]) (rest := []) (ci := 12) C (c_X10_right l D A cs tt N ad _ i hN _ hcvy27 (by omega) (0) (by omega) (2) (by omega)) (by omega) hay1 hcvy27 rfl rfl mv_yX10_right q_1648 hd_yX10_right (by decide) (Nat.le_of_ble_eq_true rfl) (by decide) dX10_odds_40 rfl (kI0 fun vy282 gvy282 hvy282 => ?_)
        obtain ⟨hrvy282, ⟨Fvy282, hcvy282, htvy282, hFvy282⟩, hfvy282⟩ := hvy282
        obtain rfl : vy282 = 0 := by omega
        refine z_if_ne (tgt := 48) C dX10_odds_43 (by decide) (by omega) (fun h => absurd h (by omega)) (fun _ => ?_)
        refine z_iconst (z := 0) C dX10_odds_46 rfl ?_
        have hgy284 := up_n egy25 ha1 (ne_o (i := i) (c := 1) (d := 0) rfl)
        have hgy285 := (hfvy27 (i + 1) (ne_o (i := i) (c := 1) (d := 0) rfl)).trans hgy284
        have hgy286 := (hfvy282 (i + 1) (ne_o (i := i) (c := 1) (d := 0) rfl)).trans hgy285
        have hFy287 : ∀ f, f ≠ 12 → Fvy282 f = F f := fun f n12 => ((hFvy282 f n12).trans ((hFvy27 f n12).trans ((uZ_n _ _ n12).trans rfl)))
        have hey288 : Fvy282 13 = F 13 := ((hFvy282 13 (by decide)).trans ((hFvy27 13 (by decide)).trans (fn rfl (by decide))))
        have hey289 : Fvy282 14 = F 14 := ((hFvy282 14 (by decide)).trans ((hFvy27 14 (by decide)).trans (fn rfl (by decide))))
        have hey290 : Fvy282 15 = F 15 := ((hFvy282 15 (by decide)).trans ((hFvy27 15 (by decide)).trans (fn rfl (by decide))))
        have hey291 : Fvy282 16 = F 16 := ((hFvy282 16 (by decide)).trans ((hFvy27 16 (by decide)).trans (fn rfl (by decide))))
        have hey292 : Fvy282 17 = F 17 := ((hFvy282 17 (by decide)).trans ((hFvy27 17 (by decide)).trans (fn rfl (by decide))))
        have hey293 : Fvy282 18 = F 18 := ((hFvy282 18 (by decide)).trans ((hFvy27 18 (by decide)).trans (fn rfl (by decide))))
        have hey294 : Fvy282 19 = F 19 := ((hFvy282 19 (by decide)).trans ((hFvy27 19 (by decide)).trans (fn rfl (by decide))))
        have hey295 : Fvy282 20 = F 20 := ((hFvy282 20 (by decide)).trans ((hFvy27 20 (by decide)).trans (fn rfl (by decide))))
        have hey296 : Fvy282 23 = F 23 := ((hFvy282 23 (by decide)).trans ((hFvy27 23 (by decide)).trans (fn rfl (by decide))))
        have hey297 : Fvy282 25 = F 25 := ((hFvy282 25 (by decide)).trans ((hFvy27 25 (by decide)).trans (fn rfl (by decide))))
        have hey298 : Fvy282 27 = F 27 := ((hFvy282 27 (by decide)).trans ((hFvy27 27 (by decide)).trans (fn rfl (by decide))))
        have hey299 : Fvy282 28 = F 28 := ((hFvy282 28 (by decide)).trans ((hFvy27 28 (by decide)).trans (fn rfl (by decide))))
        have hey300 : Fvy282 29 = F 29 := ((hFvy282 29 (by decide)).trans ((hFvy27 29 (by decide)).trans (fn rfl (by decide))))
        have hKy301 : okF Fvy282 := by unfold okF; omega
        have hMy302 : okMr cs ad gvy282 i (x + 1) Fvy282 r := okMr.upd hM hcvy282 hKy301 (fun f a => hFy287 f (by omega)) hgy286 (hA.mono (by omega)) (fun j a b => by
            exact Or.inl (by rw [hfvy282 _ (by omega)]; rw [hfvy27 _ (by omega)]; rw [egy25, va_up_ne _ _ (by omega)]))
        have h23 : Fvy282 23 = F 23 := ((hFvy282 23 (by decide)).trans ((hFvy27 23 (by decide)).trans (fn rfl (by decide))))
        exact z_iret C hr hlk dX10_odds_47 (by decide) (by decide) ⟨0, rfl, rfl, rfl, by omega, ⟨_, _, hMy302, by omega⟩, fun j j1 => by rw [hfvy282 _ (by omega)]; rw [hfvy27 _ (by omega)]; rw [egy25, va_up_ne _ _ (by omega)]⟩
    · refine z_if_eq (tgt := 38) C dX10_odds_21 (by decide) (by omega) (fun _ => ?_) (fun h => absurd h (by omega))
      refine z_iconst (z := 0) C dX10_odds_38 rfl ?_
      refine z_iconst (z := 2) C dX10_odds_39 rfl ?_
      have hey304 : Fvy27 12 = Fvy27 12 := rfl
      refine z_cV (As := [.int (zI (0)), .int (zI (2))]) (rest := []) (ci := 12) C (c_X10_right l D A cs tt N ad _ i hN _ hcvy27 (by omega) (0) (by omega) (2) (by omega)) (by omega) hay1 hcvy27 rfl rfl mv_yX10_right q_1648 hd_yX10_right (by decide) (Nat.le_of_ble_eq_true rfl) (by decide) dX10_odds_40 rfl (kI0 fun vy303 gvy303 hvy303 => ?_)
      obtain ⟨hrvy303, ⟨Fvy303, hcvy303, htvy303, hFvy303⟩, hfvy303⟩ := hvy303
      obtain rfl : vy303 = 0 := by omega
      refine z_if_ne (tgt := 48) C dX10_odds_43 (by decide) (by omega) (fun h => absurd h (by omega)) (fun _ => ?_)
      refine z_iconst (z := 0) C dX10_odds_46 rfl ?_
      have hgy305 := up_n egy25 ha1 (ne_o (i := i) (c := 1) (d := 0) rfl)
      have hgy306 := (hfvy27 (i + 1) (ne_o (i := i) (c := 1) (d := 0) rfl)).trans hgy305
      have hgy307 := (hfvy303 (i + 1) (ne_o (i := i) (c := 1) (d := 0) rfl)).trans hgy306
      have hFy308 : ∀ f, f ≠ 12 → Fvy303 f = F f := fun f n12 => ((hFvy303 f n12).trans ((hFvy27 f n12).trans ((uZ_n _ _ n12).trans rfl)))
      have hey309 : Fvy303 13 = F 13 := ((hFvy303 13 (by decide)).trans ((hFvy27 13 (by decide)).trans (fn rfl (by decide))))
      have hey310 : Fvy303 14 = F 14 := ((hFvy303 14 (by decide)).trans ((hFvy27 14 (by decide)).trans (fn rfl (by decide))))
      have hey311 : Fvy303 15 = F 15 := ((hFvy303 15 (by decide)).trans ((hFvy27 15 (by decide)).trans (fn rfl (by decide))))
      have hey312 : Fvy303 16 = F 16 := ((hFvy303 16 (by decide)).trans ((hFvy27 16 (by decide)).trans (fn rfl (by decide))))
      have hey313 : Fvy303 17 = F 17 := ((hFvy303 17 (by decide)).trans ((hFvy27 17 (by decide)).trans (fn rfl (by decide))))
      have hey314 : Fvy303 18 = F 18 := ((hFvy303 18 (by decide)).trans ((hFvy27 18 (by decide)).trans (fn rfl (by decide))))
      have hey315 : Fvy303 19 = F 19 := ((hFvy303 19 (by decide)).trans ((hFvy27 19 (by decide)).trans (fn rfl (by decide))))
      have hey316 : Fvy303 20 = F 20 := ((hFvy303 20 (by decide)).trans ((hFvy27 20 (by decide)).trans (fn rfl (by decide))))
      have hey317 : Fvy303 23 = F 23 := ((hFvy303 23 (by decide)).trans ((hFvy27 23 (by decide)).trans (fn rfl (by decide))))
      have hey318 : Fvy303 25 = F 25 := ((hFvy303 25 (by decide)).trans ((hFvy27 25 (by decide)).trans (fn rfl (by decide))))
      have hey319 : Fvy303 27 = F 27 := ((hFvy303 27 (by decide)).trans ((hFvy27 27 (by decide)).trans (fn rfl (by decide))))
      have hey320 : Fvy303 28 = F 28 := ((hFvy303 28 (by decide)).trans ((hFvy27 28 (by decide)).trans (fn rfl (by decide))))
      have hey321 : Fvy303 29 = F 29 := ((hFvy303 29 (by decide)).trans ((hFvy27 29 (by decide)).trans (fn rfl (by decide))))
      have hKy322 : okF Fvy303 := by unfold okF; omega
      have hMy323 : okMr cs ad gvy303 i (x + 1) Fvy303 r := okMr.upd hM hcvy303 hKy322 (fun f a => hFy308 f (by omega)) hgy307 (hA.mono (by omega)) (fun j a b => by
          exact Or.inl (by rw [hfvy303 _ (by omega)]; rw [hfvy27 _ (by omega)]; rw [egy25, va_up_ne _ _ (by omega)]))
      have h23 : Fvy303 23 = F 23 := ((hFvy303 23 (by decide)).trans ((hFvy27 23 (by decide)).trans (fn rfl (by decide))))
      exact z_iret C hr hlk dX10_odds_47 (by decide) (by decide) ⟨0, rfl, rfl, rfl, by omega, ⟨_, _, hMy323, by omega⟩, fun j j1 => by rw [hfvy303 _ (by omega)]; rw [hfvy27 _ (by omega)]; rw [egy25, va_up_ne _ _ (by omega)]⟩
  · refine z_if_eq (tgt := 46) C dX10_odds_10 (by decide) (by omega) (fun _ => ?_) (fun h => absurd h (by omega))
    refine z_iconst (z := 0) C dX10_odds_46 rfl ?_
    have hgy324 := up_n egy25 ha1 (ne_o (i := i) (c := 1) (d := 0) rfl)
    have hgy325 := (hfvy27 (i + 1) (ne_o (i := i) (c := 1) (d := 0) rfl)).trans hgy324
    have hFy326 : ∀ f, f ≠ 12 → Fvy27 f = F f := fun f n12 => ((hFvy27 f n12).trans ((uZ_n _ _ n12).trans rfl))
    have hey327 : Fvy27 13 = F 13 := ((hFvy27 13 (by decide)).trans (fn rfl (by decide)))
    have hey328 : Fvy27 14 = F 14 := ((hFvy27 14 (by decide)).trans (fn rfl (by decide)))
    have hey329 : Fvy27 15 = F 15 := ((hFvy27 15 (by decide)).trans (fn rfl (by decide)))
    have hey330 : Fvy27 16 = F 16 := ((hFvy27 16 (by decide)).trans (fn rfl (by decide)))
    have hey331 : Fvy27 17 = F 17 := ((hFvy27 17 (by decide)).trans (fn rfl (by decide)))
    have hey332 : Fvy27 18 = F 18 := ((hFvy27 18 (by decide)).trans (fn rfl (by decide)))
    have hey333 : Fvy27 19 = F 19 := ((hFvy27 19 (by decide)).trans (fn rfl (by decide)))
    have hey334 : Fvy27 20 = F 20 := ((hFvy27 20 (by decide)).trans (fn rfl (by decide)))
    have hey335 : Fvy27 23 = F 23 := ((hFvy27 23 (by decide)).trans (fn rfl (by decide)))
    have hey336 : Fvy27 25 = F 25 := ((hFvy27 25 (by decide)).trans (fn rfl (by decide)))
    have hey337 : Fvy27 27 = F 27 := ((hFvy27 27 (by decide)).trans (fn rfl (by decide)))
    have hey338 : Fvy27 28 = F 28 := ((hFvy27 28 (by decide)).trans (fn rfl (by decide)))
    have hey339 : Fvy27 29 = F 29 := ((hFvy27 29 (by decide)).trans (fn rfl (by decide)))
    have hKy340 : okF Fvy27 := by unfold okF; omega
    have hMy341 : okMr cs ad gvy27 i (x + 1) Fvy27 r := okMr.upd hM hcvy27 hKy340 (fun f a => hFy326 f (by omega)) hgy325 (hA.mono (by omega)) (fun j a b => by
        exact Or.inl (by rw [hfvy27 _ (by omega)]; rw [egy25, va_up_ne _ _ (by omega)]))
    have h23 : Fvy27 23 = F 23 := ((hFvy27 23 (by decide)).trans (fn rfl (by decide)))
    exact z_iret C hr hlk dX10_odds_47 (by decide) (by decide) ⟨0, rfl, rfl, rfl, by omega, ⟨_, _, hMy341, by omega⟩, fun j j1 => by rw [hfvy27 _ (by omega)]; rw [egy25, va_up_ne _ _ (by omega)]⟩

set_option maxRecDepth 100000 in
set_option maxHeartbeats 4000000 in
theorem c_X10_odds_b (l : Launch) (D : va_G) (A : Nat → Prop) (cs : Nat → ClassId) (tt : Nat) (N : Nat) (ad : Nat → Nat) (g : Nat → va_E) (i : Nat) (hN : i + 30 ≤ N) (x : Int) (hx : 0 ≤ x ∧ x ≤ 512) (F r : Nat → Int) (hM : okMr cs ad g i x F r) (z : Int) (hz : -2147483648 ≤ z ∧ z ≤ 2147483647) (hzo : z < 0 ∨ 3 < z) (z1 : Int) (hz1 : -2147483648 ≤ z1 ∧ z1 ≤ 2147483647) (z2 : Int) (hz2 : -2147483648 ≤ z2 ∧ z2 ≤ 2147483647) : zM l yX10_odds cX10_odds 8 (some .int) ({ frames := 11, cells := 0, slots := 0, locals := 660 } : Room) D A cs tt N ad g [.ref (ad i), .int (zI (z)), .int (zI (z1)), .int (zI (z2))] (rI0 N ad fun q g' => (-2147483648 ≤ q ∧ q ≤ 2147483647) ∧ (∃ F' r' : Nat → Int, okMr cs ad g' i (x + 1) F' r' ∧ F' 23 = F 23) ∧ ∀ j, j < i ∨ i + 30 ≤ j → g' j = g j) := by
  obtain ⟨hg, ⟨⟨e13, e14, e25, e27, e29⟩, k15, k16, k17, k18, k19, k20, k23⟩, hRD, hTx, hA, st, op, ai, fa, mu, tb, ns, nh, nd, rf, pi, tp, te, ki, li, ok1, ok2, fo, dd, dps, ⟨ha1, ha2, ha3, ha4, ha5, ha6, ha7, ha8, ha9, ha10, ha11, ha12, ha13, ha14, ha15, ha24, ha25, ha26, ha27, ha28, ha29⟩, hEv, hPt, hns, htp⟩ := id hM
  obtain ⟨-, hop, hai, hfa, hT, hT1⟩ := id hEv
  have hay1 : zAt ad (i) (ad i) := rfl
  have hay2 : zAt ad (i + 1) (ad (i + 1)) := rfl
  have hay3 : zAt ad (i + 2) (ad (i + 2)) := rfl
  have hay4 : zAt ad (i + 3) (ad (i + 3)) := rfl
  have hay5 : zAt ad (i + 4) (ad (i + 4)) := rfl
  have hay6 : zAt ad (i + 5) (ad (i + 5)) := rfl
  have hay7 : zAt ad (i + 6) (ad (i + 6)) := rfl
  have hay8 : zAt ad (i + 7) (ad (i + 7)) := rfl
  have hay9 : zAt ad (i + 8) (ad (i + 8)) := rfl
  have hay10 : zAt ad (i + 9) (ad (i + 9)) := rfl
  have hay11 : zAt ad (i + 10) (ad (i + 10)) := rfl
  have hay12 : zAt ad (i + 11) (ad (i + 11)) := rfl
  have hay13 : zAt ad (i + 12) (ad (i + 12)) := rfl
  have hay14 : zAt ad (i + 13) (ad (i + 13)) := rfl
  have hay15 : zAt ad (i + 14) (ad (i + 14)) := rfl
  have hay16 : zAt ad (i + 15) (ad (i + 15)) := rfl
  have hay17 : zAt ad (i + 24) (ad (i + 24)) := rfl
  have hay18 : zAt ad (i + 25) (ad (i + 25)) := rfl
  have hay19 : zAt ad (i + 26) (ad (i + 26)) := rfl
  have hay20 : zAt ad (i + 27) (ad (i + 27)) := rfl
  have hay21 : zAt ad (i + 28) (ad (i + 28)) := rfl
  have hay22 : zAt ad (i + 29) (ad (i + 29)) := rfl
  obtain ⟨⟨hsyy23, htyy23, hnyy23, hpyy23⟩, hlyy23⟩ := okA.at0 hA
  simp only [Nat.zero_add] at hsyy23 hnyy23 hpyy23
  have hmn : ∀ s, s < 4 → 0 ≤ r (6 + 86 * s) ∧ r (6 + 86 * s) ≤ 12 := fun s hs => (hsyy23 s hs).1
  have h5 : 0 ≤ r 5 ∧ r 5 ≤ 6 := hpyy23
  refine z_of (by decide) (Nat.le_of_ble_eq_true rfl) ?_
  intro pZ eZ sZ mZ below meth cZ C hr hlk hnm
  refine z_lv (lv' := [(0, .ref (ad i)), (1, .int (zI (z))), (2, .int (zI (z1))), (3, .int (zI (z2)))]) [0, 1, 2, 3] rfl ?_
  refine z_aload_n C 0 dX10_odds_0 rfl ?_
  refine z_iconst (z := 0) C dX10_odds_1 rfl ?_
  refine z_put (fs' := mF ad (i) (uZ F 12 (0))) C (by omega) hay1 hg tyX10 tyX10_ok nmX10 rfl inA_X10 12 (by decide) q_1471 rfl rfl rfl rfl (Nat.le_of_ble_eq_true rfl) rfl dX10_odds_2 (fun gy24 egy25 => ?_)
  have hgy26 := up_s egy25
  refine z_aload_n C 0 dX10_odds_5 rfl ?_
  refine z_iload_n C 1 dX10_odds_6 rfl ?_
  have h13vy27 : (uZ F 12 (0)) 13 = F 13 := (fn rfl (by decide))
  have hey28 : (uZ F 12 (0)) 12 = 0 := (uZ_s _ _ _)
  refine z_cV (As := [.int (zI (z))]) (rest := []) (ci := 12) C (c_X10_isSlope l D A cs tt N ad _ i hN _ hgy26 (by omega) (by omega) (z) (by omega)) (by omega) hay1 hgy26 rfl rfl mv_yX10_isSlope q_1803 hd_yX10_isSlope (by decide) (Nat.le_of_ble_eq_true rfl) (by decide) dX10_odds_7 rfl (kI0 fun vy27 gvy27 hvy27 => ?_)
  rw [h13vy27] at hvy27
  obtain ⟨hrvy27, ⟨Fvy27, hcvy27, htvy27, hFvy27⟩, hfvy27⟩ := hvy27
  obtain rfl : vy27 = 0 := by omega
  refine z_if_eq (tgt := 46) C dX10_odds_10 (by decide) (by omega) (fun _ => ?_) (fun h => absurd h (by omega))
  refine z_iconst (z := 0) C dX10_odds_46 rfl ?_
  have hgy29 := up_n egy25 ha1 (ne_o (i := i) (c := 1) (d := 0) rfl)
  have hgy30 := (hfvy27 (i + 1) (ne_o (i := i) (c := 1) (d := 0) rfl)).trans hgy29
  have hFy31 : ∀ f, f ≠ 12 → Fvy27 f = F f := fun f n12 => ((hFvy27 f n12).trans ((uZ_n _ _ n12).trans rfl))
  have hey32 : Fvy27 13 = F 13 := ((hFvy27 13 (by decide)).trans (fn rfl (by decide)))
  have hey33 : Fvy27 14 = F 14 := ((hFvy27 14 (by decide)).trans (fn rfl (by decide)))
  have hey34 : Fvy27 15 = F 15 := ((hFvy27 15 (by decide)).trans (fn rfl (by decide)))
  have hey35 : Fvy27 16 = F 16 := ((hFvy27 16 (by decide)).trans (fn rfl (by decide)))
  have hey36 : Fvy27 17 = F 17 := ((hFvy27 17 (by decide)).trans (fn rfl (by decide)))
  have hey37 : Fvy27 18 = F 18 := ((hFvy27 18 (by decide)).trans (fn rfl (by decide)))
  have hey38 : Fvy27 19 = F 19 := ((hFvy27 19 (by decide)).trans (fn rfl (by decide)))
  have hey39 : Fvy27 20 = F 20 := ((hFvy27 20 (by decide)).trans (fn rfl (by decide)))
  have hey40 : Fvy27 23 = F 23 := ((hFvy27 23 (by decide)).trans (fn rfl (by decide)))
  have hey41 : Fvy27 25 = F 25 := ((hFvy27 25 (by decide)).trans (fn rfl (by decide)))
  have hey42 : Fvy27 27 = F 27 := ((hFvy27 27 (by decide)).trans (fn rfl (by decide)))
  have hey43 : Fvy27 28 = F 28 := ((hFvy27 28 (by decide)).trans (fn rfl (by decide)))
  have hey44 : Fvy27 29 = F 29 := ((hFvy27 29 (by decide)).trans (fn rfl (by decide)))
  have hKy45 : okF Fvy27 := by unfold okF; omega
  have hMy46 : okMr cs ad gvy27 i (x + 1) Fvy27 r := okMr.upd hM hcvy27 hKy45 (fun f a => hFy31 f (by omega)) hgy30 (hA.mono (by omega)) (fun j a b => by
      exact Or.inl (by rw [hfvy27 _ (by omega)]; rw [egy25, va_up_ne _ _ (by omega)]))
  have h23 : Fvy27 23 = F 23 := ((hFvy27 23 (by decide)).trans (fn rfl (by decide)))
  exact z_iret C hr hlk dX10_odds_47 (by decide) (by decide) ⟨0, rfl, rfl, rfl, by omega, ⟨_, _, hMy46, by omega⟩, fun j j1 => by rw [hfvy27 _ (by omega)]; rw [egy25, va_up_ne _ _ (by omega)]⟩

set_option maxRecDepth 100000 in
set_option maxHeartbeats 4000000 in
theorem c_X10_odds (l : Launch) (D : va_G) (A : Nat → Prop) (cs : Nat → ClassId) (tt : Nat) (N : Nat) (ad : Nat → Nat) (g : Nat → va_E) (i : Nat) (hN : i + 30 ≤ N) (x : Int) (hx : 0 ≤ x ∧ x ≤ 512) (F r : Nat → Int) (hM : okMr cs ad g i x F r) (z : Int) (hz : -2147483648 ≤ z ∧ z ≤ 2147483647) (z1 : Int) (hz1 : -2147483648 ≤ z1 ∧ z1 ≤ 2147483647) (z2 : Int) (hz2 : -2147483648 ≤ z2 ∧ z2 ≤ 2147483647) : zM l yX10_odds cX10_odds 8 (some .int) ({ frames := 11, cells := 0, slots := 0, locals := 660 } : Room) D A cs tt N ad g [.ref (ad i), .int (zI (z)), .int (zI (z1)), .int (zI (z2))] (rI0 N ad fun q g' => (-2147483648 ≤ q ∧ q ≤ 2147483647) ∧ (∃ F' r' : Nat → Int, okMr cs ad g' i (x + 1) F' r' ∧ F' 23 = F 23) ∧ ∀ j, j < i ∨ i + 30 ≤ j → g' j = g j) := by
  by_cases h9 : 0 ≤ z ∧ z ≤ 3
  · obtain ⟨n, rfl⟩ : ∃ n : Nat, z = (n : Int) := ⟨z.toNat, by omega⟩
    exact c_X10_odds_a l D A cs tt N ad g i hN x hx F r hM n (by omega) z1 hz1 z2 hz2
  · exact c_X10_odds_b l D A cs tt N ad g i hN x hx F r hM z hz (by omega) z1 hz1 z2 hz2

set_option maxRecDepth 100000 in
set_option maxHeartbeats 4000000 in
theorem c_X10_draw (l : Launch) (D : va_G) (A : Nat → Prop) (cs : Nat → ClassId) (tt : Nat) (N : Nat) (ad : Nat → Nat) (g : Nat → va_E) (i : Nat) (hN : i + 30 ≤ N) (F : Nat → Int) (hg : g i = mC ad i F) (z : Int) (hz : 1 ≤ z ∧ z ≤ 100) : zM l yX10_draw cX10_draw 2 (some .int) ({ frames := 1, cells := 0, slots := 0, locals := 60 } : Room) D A cs tt N ad g [.ref (ad i), .int (zI (z))] (rI0 N ad fun q g' => (0 ≤ q ∧ q < z) ∧ (∃ F' : Nat → Int, g' i = mC ad i F' ∧ (∀ f, f ≠ 59 → F' f = F f)) ∧ ∀ j, j ≠ i → g' j = g j) := by
  have hay1 : zAt ad (i) (ad i) := rfl
  refine z_of (by decide) (Nat.le_of_ble_eq_true rfl) ?_
  intro pZ eZ sZ mZ below meth cZ C hr hlk hnm
  refine z_lv (lv' := [(0, .ref (ad i)), (1, .int (zI (z)))]) [0, 1] rfl ?_
  refine z_aload_n C 0 dX10_draw_0 rfl ?_
  refine z_aload_n C 0 dX10_draw_1 rfl ?_
  refine z_get (v := .int (zI (F 59))) C (by omega) hay1 hg rfl inA_X10 59 (by decide) q_1518 rfl (fv (F := F) (f := 59) rfl) dX10_draw_2 ?_
  refine z_ldcw (z := 1103515245) C dX10_draw_5 q_2107 (by decide) ?_
  refine z_imul C dX10_draw_8 ?_
  refine z_sipush (z := 12345) C dX10_draw_9 (by decide) ?_
  refine z_iadd C dX10_draw_12 ?_
  refine z_put (fs' := mF ad (i) (uZ F 59 (((F 59) * 1103515245) + 12345))) C (by omega) hay1 hg tyX10 tyX10_ok nmX10 rfl inA_X10 59 (by decide) q_1518 rfl rfl rfl rfl (Nat.le_of_ble_eq_true rfl) rfl dX10_draw_13 (fun gy2 egy3 => ?_)
  have hgy4 := up_s egy3
  refine z_aload_n C 0 dX10_draw_16 rfl ?_
  refine z_get (v := .int (zI (((F 59) * 1103515245) + 12345))) C (by omega) hay1 hgy4 rfl inA_X10 59 (by decide) q_1518 rfl (fv (F := (uZ F 59 (((F 59) * 1103515245) + 12345))) (f := 59) (uZ_s _ _ _)) dX10_draw_17 ?_
  refine z_bipush (z := 16) C dX10_draw_20 (by decide) ?_
  obtain ⟨xy5, exy6, hxy7⟩ := zI_of (zI (((F 59) * 1103515245) + 12345) >>> (zI (16) &&& 31))
  refine z_ishr (z := xy5) C dX10_draw_22 exy6 ?_
  refine z_sipush (z := 32767) C dX10_draw_23 (by decide) ?_
  obtain ⟨xy8, exy9, hxy10⟩ := zI_and (zI (xy5)) (m := zI 32767) 15 (by decide)
  refine z_iand (z := xy8) C dX10_draw_26 exy9 ?_
  refine z_iload_n C 1 dX10_draw_27 rfl ?_
  refine z_irem C dX10_draw_28 (by omega) (by omega) (by omega) ?_
  obtain ⟨xy11, exy11, hxy11⟩ := tmd (a := xy8) (k := z) (by omega) (by omega)
  rw [exy11]
  have hFy12 : ∀ f, f ≠ 59 → (uZ F 59 (((F 59) * 1103515245) + 12345)) f = F f := fun f n59 => ((uZ_n _ _ n59).trans rfl)
  exact z_iret C hr hlk dX10_draw_29 (by decide) (by decide) ⟨xy11, rfl, rfl, rfl, by omega, ⟨_, hgy4, hFy12⟩, fun j j1 => by rw [egy3, va_up_ne _ _ (by omega)]⟩

set_option maxRecDepth 100000 in
set_option maxHeartbeats 4000000 in
theorem c_X10_year (l : Launch) (D : va_G) (A : Nat → Prop) (cs : Nat → ClassId) (tt : Nat) (N : Nat) (ad : Nat → Nat) (g : Nat → va_E) (i : Nat) (hN : i + 30 ≤ N) (x : Int) (hx : 0 ≤ x ∧ x ≤ 512) (F r : Nat → Int) (hM : okMr cs ad g i x F r) (y : Int) (hy : 0 ≤ y ∧ y ≤ 541) (hW : okW r 350 y) (ht : r 350 + 6 ≤ 2180) : zM l yX10_year cX10_year 3 none ({ frames := 12, cells := 0, slots := 0, locals := 720 } : Room) D A cs tt N ad g [.ref (ad i)] (rV0 N ad fun g' => (∃ F' r' : Nat → Int, okMr cs ad g' i x F' r' ∧ (∀ f, f ≠ 59 → F' f = F f) ∧ okW r' 350 (y + 1) ∧ r' 350 ≤ r 350 + 6) ∧ ∀ j, j < i ∨ i + 30 ≤ j → g' j = g j) := by
  obtain ⟨hg, ⟨⟨e13, e14, e25, e27, e29⟩, k15, k16, k17, k18, k19, k20, k23⟩, hRD, hTx, hA, st, op, ai, fa, mu, tb, ns, nh, nd, rf, pi, tp, te, ki, li, ok1, ok2, fo, dd, dps, ⟨ha1, ha2, ha3, ha4, ha5, ha6, ha7, ha8, ha9, ha10, ha11, ha12, ha13, ha14, ha15, ha24, ha25, ha26, ha27, ha28, ha29⟩, hEv, hPt, hns, htp⟩ := id hM
  obtain ⟨-, hop, hai, hfa, hT, hT1⟩ := id hEv
  have hay1 : zAt ad (i) (ad i) := rfl
  have hay2 : zAt ad (i + 1) (ad (i + 1)) := rfl
  have hay3 : zAt ad (i + 2) (ad (i + 2)) := rfl
  have hay4 : zAt ad (i + 3) (ad (i + 3)) := rfl
  have hay5 : zAt ad (i + 4) (ad (i + 4)) := rfl
  have hay6 : zAt ad (i + 5) (ad (i + 5)) := rfl
  have hay7 : zAt ad (i + 6) (ad (i + 6)) := rfl
  have hay8 : zAt ad (i + 7) (ad (i + 7)) := rfl
  have hay9 : zAt ad (i + 8) (ad (i + 8)) := rfl
  have hay10 : zAt ad (i + 9) (ad (i + 9)) := rfl
  have hay11 : zAt ad (i + 10) (ad (i + 10)) := rfl
  have hay12 : zAt ad (i + 11) (ad (i + 11)) := rfl
  have hay13 : zAt ad (i + 12) (ad (i + 12)) := rfl
  have hay14 : zAt ad (i + 13) (ad (i + 13)) := rfl
  have hay15 : zAt ad (i + 14) (ad (i + 14)) := rfl
  have hay16 : zAt ad (i + 15) (ad (i + 15)) := rfl
  have hay17 : zAt ad (i + 24) (ad (i + 24)) := rfl
  have hay18 : zAt ad (i + 25) (ad (i + 25)) := rfl
  have hay19 : zAt ad (i + 26) (ad (i + 26)) := rfl
  have hay20 : zAt ad (i + 27) (ad (i + 27)) := rfl
  have hay21 : zAt ad (i + 28) (ad (i + 28)) := rfl
  have hay22 : zAt ad (i + 29) (ad (i + 29)) := rfl
  obtain ⟨⟨hsyy23, htyy23, hnyy23, hpyy23⟩, hlyy23⟩ := okA.at0 hA
  simp only [Nat.zero_add] at hsyy23 hnyy23 hpyy23
  have hmn : ∀ s, s < 4 → 0 ≤ r (6 + 86 * s) ∧ r (6 + 86 * s) ≤ 12 := fun s hs => (hsyy23 s hs).1
  have h5 : 0 ≤ r 5 ∧ r 5 ≤ 6 := hpyy23
  have hW2 := hW.2.1
  refine z_of (by decide) (Nat.le_of_ble_eq_true rfl) ?_
  intro pZ eZ sZ mZ below meth cZ C hr hlk hnm
  refine z_lv (lv' := [(0, .ref (ad i))]) [0] rfl ?_
  refine z_aload_n C 0 dX10_year_0 rfl ?_
  refine z_bipush (z := 6) C dX10_year_1 (by decide) ?_
  refine z_cV (As := [.int (zI (6))]) (rest := []) (ci := 12) C (c_X10_draw l D A cs tt N ad _ i hN _ hg (6) (by omega)) (by omega) hay1 hg rfl rfl mv_yX10_draw q_2103 hd_yX10_draw (by decide) (Nat.le_of_ble_eq_true rfl) (by decide) dX10_year_3 rfl (kI0 fun vy24 gvy24 hvy24 => ?_)
  obtain ⟨hrvy24, ⟨Fvy24, hcvy24, hFvy24⟩, hfvy24⟩ := hvy24
  refine z_istore_n (lv' := [(1, .int (zI (vy24))), (0, .ref (ad i))]) C dX10_year_6 rfl (by decide) rfl ?_
  refine z_iload_n C 0 dX10_year_7 rfl ?_
  refine z_iconst (z := 2) C dX10_year_8 rfl ?_
  refine z_icmp_ge (tgt := 30) C dX10_year_9 (by decide) (by omega) (by omega) (fun hby25 => ?_) (fun hby25 => ?_)
  · refine z_iload_n C 0 dX10_year_30 rfl ?_
    refine z_iconst (z := 5) C dX10_year_31 rfl ?_
    refine z_icmp_ne (tgt := 74) C dX10_year_32 (by decide) (by omega) (by omega) (fun hby26 => ?_) (fun hby26 => ?_)
    · refine z_aload_n C 1 dX10_year_74 rfl ?_
      refine z_get (v := .int (zI (F 13))) C (by omega) hay1 hcvy24 rfl inA_X10 13 (by decide) q_1472 rfl (fv (F := Fvy24) (f := 13) (hFvy24 13 (by decide))) dX10_year_75 ?_
      refine z_if_le (tgt := 143) C dX10_year_78 (by decide) (by omega) (fun hby27 => ?_) (fun hby27 => ?_)
      · have hgy28 := (hfvy24 (i + 1) (ne_o (i := i) (c := 1) (d := 0) rfl)).trans ha1
        have hFy29 : ∀ f, f ≠ 59 → Fvy24 f = F f := fun f n59 => (hFvy24 f n59)
        have hey30 : Fvy24 13 = F 13 := (hFvy24 13 (by decide))
        have hey31 : Fvy24 14 = F 14 := (hFvy24 14 (by decide))
        have hey32 : Fvy24 15 = F 15 := (hFvy24 15 (by decide))
        have hey33 : Fvy24 16 = F 16 := (hFvy24 16 (by decide))
        have hey34 : Fvy24 17 = F 17 := (hFvy24 17 (by decide))
        have hey35 : Fvy24 18 = F 18 := (hFvy24 18 (by decide))
        have hey36 : Fvy24 19 = F 19 := (hFvy24 19 (by decide))
        have hey37 : Fvy24 20 = F 20 := (hFvy24 20 (by decide))
        have hey38 : Fvy24 23 = F 23 := (hFvy24 23 (by decide))
        have hey39 : Fvy24 25 = F 25 := (hFvy24 25 (by decide))
        have hey40 : Fvy24 27 = F 27 := (hFvy24 27 (by decide))
        have hey41 : Fvy24 28 = F 28 := (hFvy24 28 (by decide))
        have hey42 : Fvy24 29 = F 29 := (hFvy24 29 (by decide))
        have hKy43 : okF Fvy24 := by unfold okF; omega
        have hMy44 : okMr cs ad gvy24 i (x) Fvy24 r := okMr.upd hM hcvy24 hKy43 (fun f a => hFy29 f (by omega)) hgy28 (hA.mono (by omega)) (fun j a b => by
            exact Or.inl (by rw [hfvy24 _ (by omega)]))
        have hFy45 : ∀ f, f ≠ 59 → Fvy24 f = F f := fun f n59 => (hFvy24 f n59)
        exact z_vret C hr hlk dX10_year_143 (by decide) (by decide) ⟨rfl, rfl, rfl, ⟨_, _, hMy44, fun f n59 => (hFy45 f n59), hW.mono (by omega), by omega⟩, fun j j1 => by rw [hfvy24 _ (by omega)]⟩
      · refine z_aload_n C 1 dX10_year_81 rfl ?_
        refine z_aload_n C 1 dX10_year_82 rfl ?_
        refine z_get (v := .int (zI (F 13))) C (by omega) hay1 hcvy24 rfl inA_X10 13 (by decide) q_1472 rfl (fv (F := Fvy24) (f := 13) (hFvy24 13 (by decide))) dX10_year_83 ?_
        refine z_cV (As := [.int (zI (F 13))]) (rest := []) (ci := 12) C (c_X10_draw l D A cs tt N ad _ i hN _ hcvy24 (F 13) (by omega)) (by omega) hay1 hcvy24 rfl rfl mv_yX10_draw q_2103 hd_yX10_draw (by decide) (Nat.le_of_ble_eq_true rfl) (by decide) dX10_year_86 rfl (kI0 fun vy46 gvy46 hvy46 => ?_)
        obtain ⟨hrvy46, ⟨Fvy46, hcvy46, hFvy46⟩, hfvy46⟩ := hvy46
        refine z_istore_n (lv' := [(2, .int (zI (vy46))), (1, .int (zI (vy24))), (0, .ref (ad i))]) C dX10_year_89 rfl (by decide) rfl ?_
        refine z_iload_n C 1 dX10_year_90 rfl ?_
        refine z_iconst (z := 4) C dX10_year_91 rfl ?_
        refine z_icmp_ne (tgt := 117) C dX10_year_92 (by decide) (by omega) (by omega) (fun hby47 => ?_) (fun hby47 => ?_)
        · refine z_aload_n C 2 dX10_year_117 rfl ?_
          refine z_sipush (z := 350) C dX10_year_118 (by decide) ?_
          refine z_iload_n C 0 dX10_year_121 rfl ?_
          refine z_iload_n C 1 dX10_year_122 rfl ?_
          refine z_iconst (z := 1) C dX10_year_123 rfl ?_
          refine z_isub C dX10_year_124 ?_
          refine z_aload_n C 2 dX10_year_125 rfl ?_
          refine z_bipush (z := 20) C dX10_year_126 (by decide) ?_
          refine z_cV (As := [.int (zI (20))]) (rest := [.int (zI (vy24 - 1)), .int (zI (vy46)), .int (zI (350)), .ref (ad i)]) (ci := 12) C (c_X10_draw l D A cs tt N ad _ i hN _ hcvy46 (20) (by omega)) (by omega) hay1 hcvy46 rfl rfl mv_yX10_draw q_2103 hd_yX10_draw (by decide) (Nat.le_of_ble_eq_true rfl) (by decide) dX10_year_128 rfl (kI0 fun vy48 gvy48 hvy48 => ?_)
          obtain ⟨hrvy48, ⟨Fvy48, hcvy48, hFvy48⟩, hfvy48⟩ := hvy48
          refine z_iconst (z := 1) C dX10_year_131 rfl ?_
          refine z_iadd C dX10_year_132 ?_
          refine z_aload_n C 2 dX10_year_133 rfl ?_
          refine z_sipush (z := 350) C dX10_year_134 (by decide) ?_
          have hgy49 := (hfvy24 (i + 1) (ne_o (i := i) (c := 1) (d := 0) rfl)).trans ha1
          have hgy50 := (hfvy46 (i + 1) (ne_o (i := i) (c := 1) (d := 0) rfl)).trans hgy49
          have hgy51 := (hfvy48 (i + 1) (ne_o (i := i) (c := 1) (d := 0) rfl)).trans hgy50
          have hey53 : Fvy48 14 = F 14 := ((hFvy48 14 (by decide)).trans ((hFvy46 14 (by decide)).trans (hFvy24 14 (by decide))))
          have hey54 : Fvy48 25 = F 25 := ((hFvy48 25 (by decide)).trans ((hFvy46 25 (by decide)).trans (hFvy24 25 (by decide))))
          have hgy55 := (hfvy24 (i + 4) (ne_o (i := i) (c := 4) (d := 0) rfl)).trans ha4
          have hgy56 := (hfvy46 (i + 4) (ne_o (i := i) (c := 4) (d := 0) rfl)).trans hgy55
          have hgy57 := (hfvy48 (i + 4) (ne_o (i := i) (c := 4) (d := 0) rfl)).trans hgy56
          refine z_cV (As := [.int (zI (350))]) (rest := [.int (zI (vy48 + 1)), .int (zI (vy24 - 1)), .int (zI (vy46)), .int (zI (350)), .ref (ad i)]) (ci := 12) C (c_X10_airOf l D A cs tt N ad _ i hN _ hcvy48 _ hgy51 _ hgy57 350 (by omega) (by omega) (by omega) (by omega) hai) (by omega) hay1 hcvy48 rfl rfl mv_yX10_airOf q_1827 hd_yX10_airOf (by decide) (Nat.le_of_ble_eq_true rfl) (by decide) dX10_year_137 rfl (kI0 fun vy52 gvy52 hvy52 => ?_)
          obtain ⟨hvy52, rfl⟩ := hvy52
          obtain ⟨ny58, hny58⟩ : ∃ n9 : Nat, vy46 = (n9 : Int) := ⟨(vy46).toNat, by omega⟩
          rw [hny58]
          obtain ⟨py59, hpy59⟩ : ∃ p9 : Nat, 350 + 6 + 86 * ny58 = p9 := ⟨_, rfl⟩
          have hSy60 := (hW.1 ny58 (by omega)).of (p2 := py59) (by omega)
          obtain ⟨b1hSy60, b2hSy60, b3hSy60, b4hSy60⟩ := mBb (t := r 350 + y) (by omega)
          have hmky61 := hSy60.1
          have hcy62n := hW.2.2.1
          have hcy62t := hW.2.1
          refine z_cV (As := [.int (zI (350)), .int (zI ((ny58 : Int))), .int (zI (vy24 - 1)), .int (zI (vy48 + 1)), .int (zI (vy52))]) (rest := []) (ci := 12) C (c_X10_drops l D A cs tt N ad _ i hN _ hcvy48 _ hgy51  350 ny58 py59 hpy59 (by omega) (by omega) (by omega) (mB (r 350 + y)) (eB (r 350 + y)) (by omega) (by omega) hSy60 (by omega) (by omega) (vy24 - 1) (by omega) (vy48 + 1) (by omega) (vy52) (by omega)) (by omega) hay1 hcvy48 rfl rfl mv_yX10_drops q_1893 hd_yX10_drops (by decide) (Nat.le_of_ble_eq_true rfl) (by decide) dX10_year_140 rfl (kV0 fun gvy63 hvy63 => ?_)
          obtain ⟨⟨rvy63, hcvy63, hovy63, hnvy63, hyvy63⟩, hfvy63⟩ := hvy63
          have hkvy63 := hovy63.1
          have hcy620 : rvy63 350 = r 350 := (hyvy63 350 (by omega) (by omega))
          have hcy625 : rvy63 (350 + 5) = r (350 + 5) := (hyvy63 (350 + 5) (by omega) (by omega))
          have hcy626 := hW.2.2.2
          have hcy62 : okW rvy63 350 (y + 1) := okW.slope hW (s := ny58) (p := py59) (by omega) (by omega) (hovy63.mono (by omega) (by omega)) hnvy63 hcy620 (by omega) (fun j a1 a2 a3 => (hyvy63 j (by omega) (by omega)))
          have hAy64 : okA rvy63 (x) := okA.tried hA (fun j a => (hyvy63 j (by omega) (by omega)))
          obtain ⟨⟨hsyy65, htyy65, hnyy65, hpyy65⟩, hlyy65⟩ := okA.at0 hAy64
          simp only [Nat.zero_add] at hsyy65 hnyy65 hpyy65
          have hmn : ∀ s, s < 4 → 0 ≤ rvy63 (6 + 86 * s) ∧ rvy63 (6 + 86 * s) ≤ 12 := fun s hs => (hsyy65 s hs).1
          have h5 : 0 ≤ rvy63 5 ∧ rvy63 5 ≤ 6 := hpyy65
          have hgy66 := (hfvy63 (i) (ne_o (i := i) (c := 0) (d := 1) rfl)).trans hcvy48
          have hFy67 : ∀ f, f ≠ 59 → Fvy48 f = F f := fun f n59 => ((hFvy48 f n59).trans ((hFvy46 f n59).trans (hFvy24 f n59)))
          have hey68 : Fvy48 13 = F 13 := ((hFvy48 13 (by decide)).trans ((hFvy46 13 (by decide)).trans (hFvy24 13 (by decide))))
          have hey69 : Fvy48 14 = F 14 := ((hFvy48 14 (by decide)).trans ((hFvy46 14 (by decide)).trans (hFvy24 14 (by decide))))
          have hey70 : Fvy48 15 = F 15 := ((hFvy48 15 (by decide)).trans ((hFvy46 15 (by decide)).trans (hFvy24 15 (by decide))))
          have hey71 : Fvy48 16 = F 16 := ((hFvy48 16 (by decide)).trans ((hFvy46 16 (by decide)).trans (hFvy24 16 (by decide))))
          have hey72 : Fvy48 17 = F 17 := ((hFvy48 17 (by decide)).trans ((hFvy46 17 (by decide)).trans (hFvy24 17 (by decide))))
          have hey73 : Fvy48 18 = F 18 := ((hFvy48 18 (by decide)).trans ((hFvy46 18 (by decide)).trans (hFvy24 18 (by decide))))
          have hey74 : Fvy48 19 = F 19 := ((hFvy48 19 (by decide)).trans ((hFvy46 19 (by decide)).trans (hFvy24 19 (by decide))))
          have hey75 : Fvy48 20 = F 20 := ((hFvy48 20 (by decide)).trans ((hFvy46 20 (by decide)).trans (hFvy24 20 (by decide))))
          have hey76 : Fvy48 23 = F 23 := ((hFvy48 23 (by decide)).trans ((hFvy46 23 (by decide)).trans (hFvy24 23 (by decide))))
          have hey77 : Fvy48 25 = F 25 := ((hFvy48 25 (by decide)).trans ((hFvy46 25 (by decide)).trans (hFvy24 25 (by decide))))
          have hey78 : Fvy48 27 = F 27 := ((hFvy48 27 (by decide)).trans ((hFvy46 27 (by decide)).trans (hFvy24 27 (by decide))))
          have hey79 : Fvy48 28 = F 28 := ((hFvy48 28 (by decide)).trans ((hFvy46 28 (by decide)).trans (hFvy24 28 (by decide))))
          have hey80 : Fvy48 29 = F 29 := ((hFvy48 29 (by decide)).trans ((hFvy46 29 (by decide)).trans (hFvy24 29 (by decide))))
          have hKy81 : okF Fvy48 := by unfold okF; omega
          have hMy82 : okMr cs ad gvy63 i (x) Fvy48 rvy63 := okMr.upd hM hgy66 hKy81 (fun f a => hFy67 f (by omega)) hcvy63 (hAy64.mono (by omega)) (fun j a b => by
              exact Or.inl (by rw [hfvy63 _ (by omega)]; rw [hfvy48 _ (by omega)]; rw [hfvy46 _ (by omega)]; rw [hfvy24 _ (by omega)]))
          have hFy83 : ∀ f, f ≠ 59 → Fvy48 f = F f := fun f n59 => ((hFvy48 f n59).trans ((hFvy46 f n59).trans (hFvy24 f n59)))
          exact z_vret C hr hlk dX10_year_143 (by decide) (by decide) ⟨rfl, rfl, rfl, ⟨_, _, hMy82, fun f n59 => (hFy83 f n59), hcy62.mono (by omega), by omega⟩, fun j j1 => by rw [hfvy63 _ (by omega)]; rw [hfvy48 _ (by omega)]; rw [hfvy46 _ (by omega)]; rw [hfvy24 _ (by omega)]⟩
        · refine z_aload_n C 2 dX10_year_95 rfl ?_
          refine z_sipush (z := 350) C dX10_year_96 (by decide) ?_
          refine z_iload_n C 0 dX10_year_99 rfl ?_
          obtain ⟨ny84, hny84⟩ : ∃ n9 : Nat, vy46 = (n9 : Int) := ⟨(vy46).toNat, by omega⟩
          rw [hny84]
          obtain ⟨py85, hpy85⟩ : ∃ p9 : Nat, 350 + 6 + 86 * ny84 = p9 := ⟨_, rfl⟩
          have hmyy86 := (hW.1 ny84 (by omega)).1
          rw [hpy85] at hmyy86
          have hgy87 := (hfvy24 (i + 1) (ne_o (i := i) (c := 1) (d := 0) rfl)).trans ha1
          have hgy88 := (hfvy46 (i + 1) (ne_o (i := i) (c := 1) (d := 0) rfl)).trans hgy87
          refine z_cV (As := [.int (zI (350)), .int (zI ((ny84 : Int)))]) (rest := []) (ci := 12) C (c_X10_many l D A cs tt N ad _ i hN _ hcvy46 _ hgy88 350 ny84 py85 hpy85 (by omega) (by omega)) (by omega) hay1 hcvy46 rfl rfl mv_yX10_many q_1733 hd_yX10_many (by decide) (Nat.le_of_ble_eq_true rfl) (by decide) dX10_year_100 rfl (kI0 fun vy89 gvy89 hvy89 => ?_)
          obtain ⟨rfl, rfl⟩ := hvy89
          refine z_if_le (tgt := 143) C dX10_year_103 (by decide) (by omega) (fun hby90 => ?_) (fun hby90 => ?_)
          · have hFy91 : ∀ f, f ≠ 59 → Fvy46 f = F f := fun f n59 => ((hFvy46 f n59).trans (hFvy24 f n59))
            have hey92 : Fvy46 13 = F 13 := ((hFvy46 13 (by decide)).trans (hFvy24 13 (by decide)))
            have hey93 : Fvy46 14 = F 14 := ((hFvy46 14 (by decide)).trans (hFvy24 14 (by decide)))
            have hey94 : Fvy46 15 = F 15 := ((hFvy46 15 (by decide)).trans (hFvy24 15 (by decide)))
            have hey95 : Fvy46 16 = F 16 := ((hFvy46 16 (by decide)).trans (hFvy24 16 (by decide)))
            have hey96 : Fvy46 17 = F 17 := ((hFvy46 17 (by decide)).trans (hFvy24 17 (by decide)))
            have hey97 : Fvy46 18 = F 18 := ((hFvy46 18 (by decide)).trans (hFvy24 18 (by decide)))
            have hey98 : Fvy46 19 = F 19 := ((hFvy46 19 (by decide)).trans (hFvy24 19 (by decide)))
            have hey99 : Fvy46 20 = F 20 := ((hFvy46 20 (by decide)).trans (hFvy24 20 (by decide)))
            have hey100 : Fvy46 23 = F 23 := ((hFvy46 23 (by decide)).trans (hFvy24 23 (by decide)))
            have hey101 : Fvy46 25 = F 25 := ((hFvy46 25 (by decide)).trans (hFvy24 25 (by decide)))
            have hey102 : Fvy46 27 = F 27 := ((hFvy46 27 (by decide)).trans (hFvy24 27 (by decide)))
            have hey103 : Fvy46 28 = F 28 := ((hFvy46 28 (by decide)).trans (hFvy24 28 (by decide)))
            have hey104 : Fvy46 29 = F 29 := ((hFvy46 29 (by decide)).trans (hFvy24 29 (by decide)))
            have hKy105 : okF Fvy46 := by unfold okF; omega
            have hMy106 : okMr cs ad gvy46 i (x) Fvy46 r := okMr.upd hM hcvy46 hKy105 (fun f a => hFy91 f (by omega)) hgy88 (hA.mono (by omega)) (fun j a b => by
                exact Or.inl (by rw [hfvy46 _ (by omega)]; rw [hfvy24 _ (by omega)]))
            have hFy107 : ∀ f, f ≠ 59 → Fvy46 f = F f := fun f n59 => ((hFvy46 f n59).trans (hFvy24 f n59))
            exact z_vret C hr hlk dX10_year_143 (by decide) (by decide) ⟨rfl, rfl, rfl, ⟨_, _, hMy106, fun f n59 => (hFy107 f n59), hW.mono (by omega), by omega⟩, fun j j1 => by rw [hfvy46 _ (by omega)]; rw [hfvy24 _ (by omega)]⟩
          · refine z_aload_n C 2 dX10_year_106 rfl ?_
            refine z_sipush (z := 350) C dX10_year_107 (by decide) ?_
            refine z_iload_n C 0 dX10_year_110 rfl ?_
            have hSy108 := (hW.1 ny84 (by omega)).of (p2 := py85) (by omega)
            obtain ⟨b1hSy108, b2hSy108, b3hSy108, b4hSy108⟩ := mBb (t := r 350 + y) (by omega)
            have hmky109 := hSy108.1
            have hcy110n := hW.2.2.1
            have hcy110t := hW.2.1
            refine z_cV (As := [.int (zI (350)), .int (zI ((ny84 : Int)))]) (rest := []) (ci := 12) C (c_X10_digs l D A cs tt N ad _ i hN _ hcvy46 _ hgy88 350 ny84 py85 hpy85 (by omega) (by omega) (mB (r 350 + y)) (eB (r 350 + y)) (by omega) (by omega) hSy108 (by omega)) (by omega) hay1 hcvy46 rfl rfl mv_yX10_digs q_1956 hd_yX10_digs (by decide) (Nat.le_of_ble_eq_true rfl) (by decide) dX10_year_111 rfl (kV0 fun gvy111 hvy111 => ?_)
            obtain ⟨⟨rvy111, hcvy111, hovy111, hyvy111⟩, hfvy111⟩ := hvy111
            have hcy1100 : rvy111 350 = r 350 := (hyvy111 350 (by omega) (by omega) (by omega) (by omega))
            have hcy110 : okW rvy111 350 (y) := okW.slope0 hW (s := ny84) (p := py85) (by omega) (by omega) hovy111 (fun j a1 a2 a3 a4 a5 a6 => hyvy111 j a3 a4 a5 a6)
            have hAy112 : okA rvy111 (x) := okA.tried hA (fun j a => (hyvy111 j (by omega) (by omega) (by omega) (by omega)))
            obtain ⟨⟨hsyy113, htyy113, hnyy113, hpyy113⟩, hlyy113⟩ := okA.at0 hAy112
            simp only [Nat.zero_add] at hsyy113 hnyy113 hpyy113
            have hmn : ∀ s, s < 4 → 0 ≤ rvy111 (6 + 86 * s) ∧ rvy111 (6 + 86 * s) ≤ 12 := fun s hs => (hsyy113 s hs).1
            have h5 : 0 ≤ rvy111 5 ∧ rvy111 5 ≤ 6 := hpyy113
            refine z_goto (tgt := 143) C dX10_year_114 (by decide) ?_
            have hgy114 := (hfvy111 (i) (ne_o (i := i) (c := 0) (d := 1) rfl)).trans hcvy46
            have hFy115 : ∀ f, f ≠ 59 → Fvy46 f = F f := fun f n59 => ((hFvy46 f n59).trans (hFvy24 f n59))
            have hey116 : Fvy46 13 = F 13 := ((hFvy46 13 (by decide)).trans (hFvy24 13 (by decide)))
            have hey117 : Fvy46 14 = F 14 := ((hFvy46 14 (by decide)).trans (hFvy24 14 (by decide)))
            have hey118 : Fvy46 15 = F 15 := ((hFvy46 15 (by decide)).trans (hFvy24 15 (by decide)))
            have hey119 : Fvy46 16 = F 16 := ((hFvy46 16 (by decide)).trans (hFvy24 16 (by decide)))
            have hey120 : Fvy46 17 = F 17 := ((hFvy46 17 (by decide)).trans (hFvy24 17 (by decide)))
            have hey121 : Fvy46 18 = F 18 := ((hFvy46 18 (by decide)).trans (hFvy24 18 (by decide)))
            have hey122 : Fvy46 19 = F 19 := ((hFvy46 19 (by decide)).trans (hFvy24 19 (by decide)))
            have hey123 : Fvy46 20 = F 20 := ((hFvy46 20 (by decide)).trans (hFvy24 20 (by decide)))
            have hey124 : Fvy46 23 = F 23 := ((hFvy46 23 (by decide)).trans (hFvy24 23 (by decide)))
            have hey125 : Fvy46 25 = F 25 := ((hFvy46 25 (by decide)).trans (hFvy24 25 (by decide)))
            have hey126 : Fvy46 27 = F 27 := ((hFvy46 27 (by decide)).trans (hFvy24 27 (by decide)))
            have hey127 : Fvy46 28 = F 28 := ((hFvy46 28 (by decide)).trans (hFvy24 28 (by decide)))
            have hey128 : Fvy46 29 = F 29 := ((hFvy46 29 (by decide)).trans (hFvy24 29 (by decide)))
            have hKy129 : okF Fvy46 := by unfold okF; omega
            have hMy130 : okMr cs ad gvy111 i (x) Fvy46 rvy111 := okMr.upd hM hgy114 hKy129 (fun f a => hFy115 f (by omega)) hcvy111 (hAy112.mono (by omega)) (fun j a b => by
                exact Or.inl (by rw [hfvy111 _ (by omega)]; rw [hfvy46 _ (by omega)]; rw [hfvy24 _ (by omega)]))
            have hFy131 : ∀ f, f ≠ 59 → Fvy46 f = F f := fun f n59 => ((hFvy46 f n59).trans (hFvy24 f n59))
            exact z_vret C hr hlk dX10_year_143 (by decide) (by decide) ⟨rfl, rfl, rfl, ⟨_, _, hMy130, fun f n59 => (hFy131 f n59), hcy110.mono (by omega), by omega⟩, fun j j1 => by rw [hfvy111 _ (by omega)]; rw [hfvy46 _ (by omega)]; rw [hfvy24 _ (by omega)]⟩
    · refine z_iconst (z := 0) C dX10_year_35 rfl ?_
      refine z_istore_n (lv' := [(2, .int (zI (0))), (1, .int (zI (vy24))), (0, .ref (ad i))]) C dX10_year_36 rfl (by decide) rfl ?_
      have lp1 : ∀ (n9 : Nat) (ss : Int) (F9 : Nat → Int) (r9 : Nat → Int) (g1 : Nat → va_E), (5 - ss).toNat = n9 → (okMr cs ad g1 i x F9 r9) → ((∀ f, f ≠ 59 → F9 f = F f)) → (okW r9 350 (y)) → (∀ j, j < i ∨ i + 30 ≤ j → g1 j = g j) → (0 ≤ ss ∧ ss ≤ F 13) → (r9 350 ≤ r 350) → zV pZ l eZ ({ frames := 12, cells := 0, slots := 0, locals := 720 } : Room) sZ mZ ([.ref (ad i)] : List Value).toArray below meth cZ (MQ below (zPost D A (rV0 N ad fun g' => (∃ F' r' : Nat → Int, okMr cs ad g' i x F' r' ∧ (∀ f, f ≠ 59 → F' f = F f) ∧ okW r' 350 (y + 1) ∧ r' 350 ≤ r 350 + 6) ∧ ∀ j, j < i ∨ i + 30 ≤ j → g' j = g j)) ([.ref (ad i)] : List Value).toArray sZ ({ frames := 12, cells := 0, slots := 0, locals := 720 } : Room).cells ({ frames := 12, cells := 0, slots := 0, locals := 720 } : Room).slots A) D A 3 (N) ad g1 (0) (0) 37 [(0, .ref (ad i)), (2, .int (zI (ss)))] [] := by
        intro n9
        induction n9 using Nat.strongRecOn with
        | ind n9 ih_lp1 =>
          intro ss F9 r9 g1 hm9 fM fF fW f3 hvlp10 hvlp11
          obtain ⟨hg_y132, ⟨⟨e13_y132, e14_y132, e25_y132, e27_y132, e29_y132⟩, k15_y132, k16_y132, k17_y132, k18_y132, k19_y132, k20_y132, k23_y132⟩, hRD_y132, hTx_y132, hA_y132, st_y132, op_y132, ai_y132, fa_y132, mu_y132, tb_y132, ns_y132, nh_y132, nd_y132, rf_y132, pi_y132, tp_y132, te_y132, ki_y132, li_y132, ok1_y132, ok2_y132, fo_y132, dd_y132, dps_y132, ⟨ha1_y132, ha2_y132, ha3_y132, ha4_y132, ha5_y132, ha6_y132, ha7_y132, ha8_y132, ha9_y132, ha10_y132, ha11_y132, ha12_y132, ha13_y132, ha14_y132, ha15_y132, ha24_y132, ha25_y132, ha26_y132, ha27_y132, ha28_y132, ha29_y132⟩, hEv_y132, hPt_y132, hns_y132, htp_y132⟩ := id fM
          obtain ⟨-, hop_y132, hai_y132, hfa_y132, hT_y132, hT1_y132⟩ := id hEv_y132
          have e14 := e14_y132
          have e25 := e25_y132
          have e27 := e27_y132
          have e29 := e29_y132
          have hop := hop_y132
          have hai := hai_y132
          have hfa := hfa_y132
          have hT := hT_y132
          have hT1 := hT1_y132
          have hEv := hEv_y132
          have htp := htp_y132
          have hns := hns_y132
          have hPt := hPt_y132
          have hay133 : zAt ad (i) (ad i) := rfl
          have hay134 : zAt ad (i + 1) (ad (i + 1)) := rfl
          have hay135 : zAt ad (i + 2) (ad (i + 2)) := rfl
          have hay136 : zAt ad (i + 3) (ad (i + 3)) := rfl
          have hay137 : zAt ad (i + 4) (ad (i + 4)) := rfl
          have hay138 : zAt ad (i + 5) (ad (i + 5)) := rfl
          have hay139 : zAt ad (i + 6) (ad (i + 6)) := rfl
          have hay140 : zAt ad (i + 7) (ad (i + 7)) := rfl
          have hay141 : zAt ad (i + 8) (ad (i + 8)) := rfl
          have hay142 : zAt ad (i + 9) (ad (i + 9)) := rfl
          have hay143 : zAt ad (i + 10) (ad (i + 10)) := rfl
          have hay144 : zAt ad (i + 11) (ad (i + 11)) := rfl
          have hay145 : zAt ad (i + 12) (ad (i + 12)) := rfl
          have hay146 : zAt ad (i + 13) (ad (i + 13)) := rfl
          have hay147 : zAt ad (i + 14) (ad (i + 14)) := rfl
          have hay148 : zAt ad (i + 15) (ad (i + 15)) := rfl
          have hay149 : zAt ad (i + 24) (ad (i + 24)) := rfl
          have hay150 : zAt ad (i + 25) (ad (i + 25)) := rfl
          have hay151 : zAt ad (i + 26) (ad (i + 26)) := rfl
          have hay152 : zAt ad (i + 27) (ad (i + 27)) := rfl
          have hay153 : zAt ad (i + 28) (ad (i + 28)) := rfl
          have hay154 : zAt ad (i + 29) (ad (i + 29)) := rfl
          obtain ⟨⟨hsyy155, htyy155, hnyy155, hpyy155⟩, hlyy155⟩ := okA.at0 hA_y132
          simp only [Nat.zero_add] at hsyy155 hnyy155 hpyy155
          have hmn : ∀ s, s < 4 → 0 ≤ r9 (6 + 86 * s) ∧ r9 (6 + 86 * s) ≤ 12 := fun s hs => (hsyy155 s hs).1
          have h5 : 0 ≤ r9 5 ∧ r9 5 ≤ 6 := hpyy155
          have h13e : F9 13 = F 13 := fF 13 (by decide)
          have h14e : F9 14 = F 14 := fF 14 (by decide)
          have h17e : F9 17 = F 17 := fF 17 (by decide)
          have h23e : F9 23 = F 23 := fF 23 (by decide)
          have hW2 := fW.2.1
          refine z_iload_n C 1 dX10_year_37 rfl ?_
          refine z_aload_n C 0 dX10_year_38 rfl ?_
          refine z_get (v := .int (zI (F9 13))) C (by omega) hay133 hg_y132 rfl inA_X10 13 (by decide) q_1472 rfl (fv (F := F9) (f := 13) rfl) dX10_year_39 ?_
          refine z_icmp_ge (tgt := 71) C dX10_year_42 (by decide) (by omega) (by omega) (fun hby156 => ?_) (fun hby156 => ?_)
          · refine z_goto (tgt := 143) C dX10_year_71 (by decide) ?_
            have hMy157 : okMr cs ad g1 i (x) F9 r9 := okMr.upd fM hg_y132 fM.2.1 (fun f _ => rfl) ha1_y132 (hA_y132.mono (by omega)) (fun j a b => by
                exact Or.inl (by rfl))
            exact z_vret C hr hlk dX10_year_143 (by decide) (by decide) ⟨rfl, rfl, rfl, ⟨_, _, hMy157, fun f n59 => (fF f n59), fW.mono (by omega), by omega⟩, fun j j1 => by exact f3 j j1⟩
          · refine z_aload_n C 0 dX10_year_45 rfl ?_
            refine z_sipush (z := 350) C dX10_year_46 (by decide) ?_
            refine z_iload_n C 1 dX10_year_49 rfl ?_
            obtain ⟨ny158, hny158⟩ : ∃ n9 : Nat, ss = (n9 : Int) := ⟨(ss).toNat, by omega⟩
            rw [hny158]
            obtain ⟨py159, hpy159⟩ : ∃ p9 : Nat, 350 + 6 + 86 * ny158 = p9 := ⟨_, rfl⟩
            have hqy161 : qS r9 py159 := ((fW.1 ny158 (by omega)).of (p2 := py159) (by omega)).q (by have hb9 := mBb (t := r9 350 + y) (by omega); omega)
            have hmky162 := hqy161.1
            refine z_cV (As := [.int (zI (350)), .int (zI ((ny158 : Int)))]) (rest := []) (ci := 12) C (c_X10_isUnstable l D A cs tt N ad _ i hN _ hg_y132 _ ha1_y132 _ ha2_y132 _ ha7_y132 350 ny158 py159 hpy159 (by omega) (by omega) hqy161) (by omega) hay133 hg_y132 rfl rfl mv_yX10_isUnstable q_1811 hd_yX10_isUnstable (by decide) (Nat.le_of_ble_eq_true rfl) (by decide) dX10_year_50 rfl (kI0 fun vy160 gvy160 hvy160 => ?_)
            obtain ⟨hvy160, rfl⟩ := hvy160
            refine z_if_eq (tgt := 65) C dX10_year_53 (by decide) (by omega) (fun hby163 => ?_) (fun hby163 => ?_)
            · refine z_iinc (z := (ny158 : Int) + 1) (lv' := [(2, .int (zI ((ny158 : Int) + 1))), (0, .ref (ad i))]) (j := 1) C dX10_year_65 rfl rfl (by decide) rfl ?_
              refine z_goto (tgt := 37) C dX10_year_68 (by decide) ?_
              have hMy164 : okMr cs ad g1 i (x) F9 r9 := okMr.upd fM hg_y132 fM.2.1 (fun f _ => rfl) ha1_y132 (hA_y132.mono (by omega)) (fun j a b => by
                  exact Or.inl (by rfl))
              have hFF : (∀ f, f ≠ 59 → F9 f = F f) := fun f n59 => fF f n59
              have hey165 : F9 13 = F9 13 := rfl
              have hey166 : F9 14 = F9 14 := rfl
              refine z_lv (lv' := [(0, .ref (ad i)), (2, .int (zI ((ny158 : Int) + 1)))]) [1, 0] rfl ?_
              exact ih_lp1 _ (by omega) ((ny158 : Int) + 1) _ _ g1 rfl hMy164 hFF fW (fun j j1 => by exact f3 j j1) (by omega) (by omega)
            · refine z_aload_n C 0 dX10_year_56 rfl ?_
              refine z_sipush (z := 350) C dX10_year_57 (by decide) ?_
              refine z_iload_n C 1 dX10_year_60 rfl ?_
              have hSy167 := (fW.1 ny158 (by omega)).of (p2 := py159) (by omega)
              obtain ⟨b1hSy167, b2hSy167, b3hSy167, b4hSy167⟩ := mBb (t := r9 350 + y) (by omega)
              have hmky168 := hSy167.1
              have hcy169n := fW.2.2.1
              have hcy169t := fW.2.1
              refine z_cV (As := [.int (zI (350)), .int (zI ((ny158 : Int)))]) (rest := []) (ci := 12) C (c_X10_slides l D A cs tt N ad _ i hN _ hg_y132 _ ha1_y132 _ ha2_y132 _ ha7_y132 350 ny158 py159 hpy159 (by omega) (by omega) (mB (r9 350 + y)) (eB (r9 350 + y)) (by omega) (by omega) hSy167) (by omega) hay133 hg_y132 rfl rfl mv_yX10_slides q_1964 hd_yX10_slides (by decide) (Nat.le_of_ble_eq_true rfl) (by decide) dX10_year_61 rfl (kI0 fun vy170 gvy170 hvy170 => ?_)
              obtain ⟨hrvy170, ⟨rvy170, hcvy170, hovy170, hyvy170⟩, hfvy170⟩ := hvy170
              have hcy1690 : rvy170 350 = r9 350 := (hyvy170 350 (by omega) (by omega) (by omega) (by omega))
              have hcy169 : okW rvy170 350 (y) := okW.slope0 fW (s := ny158) (p := py159) (by omega) (by omega) hovy170 (fun j a1 a2 a3 a4 a5 a6 => hyvy170 j a3 a4 a5 a6)
              have hAy171 : okA rvy170 (x) := okA.tried hA_y132 (fun j a => (hyvy170 j (by omega) (by omega) (by omega) (by omega)))
              obtain ⟨⟨hsyy172, htyy172, hnyy172, hpyy172⟩, hlyy172⟩ := okA.at0 hAy171
              simp only [Nat.zero_add] at hsyy172 hnyy172 hpyy172
              have hmn : ∀ s, s < 4 → 0 ≤ rvy170 (6 + 86 * s) ∧ rvy170 (6 + 86 * s) ≤ 12 := fun s hs => (hsyy172 s hs).1
              have h5 : 0 ≤ rvy170 5 ∧ rvy170 5 ≤ 6 := hpyy172
              refine z_pop C dX10_year_64 rfl ?_
              refine z_iinc (z := (ny158 : Int) + 1) (lv' := [(2, .int (zI ((ny158 : Int) + 1))), (0, .ref (ad i))]) (j := 1) C dX10_year_65 rfl rfl (by decide) rfl ?_
              refine z_goto (tgt := 37) C dX10_year_68 (by decide) ?_
              have hgy173 := (hfvy170 (i) (ne_o (i := i) (c := 0) (d := 1) rfl)).trans hg_y132
              have hMy174 : okMr cs ad gvy170 i (x) F9 rvy170 := okMr.upd fM hgy173 fM.2.1 (fun f _ => rfl) hcvy170 (hAy171.mono (by omega)) (fun j a b => by
                  exact Or.inl (by rw [hfvy170 _ (by omega)]))
              have hFF : (∀ f, f ≠ 59 → F9 f = F f) := fun f n59 => fF f n59
              have hey175 : F9 13 = F9 13 := rfl
              have hey176 : F9 14 = F9 14 := rfl
              refine z_lv (lv' := [(0, .ref (ad i)), (2, .int (zI ((ny158 : Int) + 1)))]) [1, 0] rfl ?_
              exact ih_lp1 _ (by omega) ((ny158 : Int) + 1) _ _ gvy170 rfl hMy174 hFF hcy169 (fun j j1 => by rw [hfvy170 _ (by omega)]; exact f3 j j1) (by omega) (by omega)
      have hgy177 := (hfvy24 (i + 1) (ne_o (i := i) (c := 1) (d := 0) rfl)).trans ha1
      have hFy178 : ∀ f, f ≠ 59 → Fvy24 f = F f := fun f n59 => (hFvy24 f n59)
      have hey179 : Fvy24 13 = F 13 := (hFvy24 13 (by decide))
      have hey180 : Fvy24 14 = F 14 := (hFvy24 14 (by decide))
      have hey181 : Fvy24 15 = F 15 := (hFvy24 15 (by decide))
      have hey182 : Fvy24 16 = F 16 := (hFvy24 16 (by decide))
      have hey183 : Fvy24 17 = F 17 := (hFvy24 17 (by decide))
      have hey184 : Fvy24 18 = F 18 := (hFvy24 18 (by decide))
      have hey185 : Fvy24 19 = F 19 := (hFvy24 19 (by decide))
      have hey186 : Fvy24 20 = F 20 := (hFvy24 20 (by decide))
      have hey187 : Fvy24 23 = F 23 := (hFvy24 23 (by decide))
      have hey188 : Fvy24 25 = F 25 := (hFvy24 25 (by decide))
      have hey189 : Fvy24 27 = F 27 := (hFvy24 27 (by decide))
      have hey190 : Fvy24 28 = F 28 := (hFvy24 28 (by decide))
      have hey191 : Fvy24 29 = F 29 := (hFvy24 29 (by decide))
      have hKy192 : okF Fvy24 := by unfold okF; omega
      have hMy193 : okMr cs ad gvy24 i (x) Fvy24 r := okMr.upd hM hcvy24 hKy192 (fun f a => hFy178 f (by omega)) hgy177 (hA.mono (by omega)) (fun j a b => by
          exact Or.inl (by rw [hfvy24 _ (by omega)]))
      have hFy194 : ∀ f, f ≠ 59 → Fvy24 f = F f := fun f n59 => (hFvy24 f n59)
      have hFF : (∀ f, f ≠ 59 → Fvy24 f = F f) := fun f n59 => (hFy194 f n59)
      have hey195 : Fvy24 13 = F 13 := (hFvy24 13 (by decide))
      have hey196 : Fvy24 14 = F 14 := (hFvy24 14 (by decide))
      refine z_lv (lv' := [(0, .ref (ad i)), (2, .int (zI (0)))]) [2, 0] rfl ?_
      exact lp1 _ (0) _ _ gvy24 rfl hMy193 hFF hW (fun j j1 => by rw [hfvy24 _ (by omega)]) (by omega) (by omega)
  · refine z_aload_n C 1 dX10_year_12 rfl ?_
    refine z_sipush (z := 350) C dX10_year_13 (by decide) ?_
    refine z_aload_n C 1 dX10_year_16 rfl ?_
    refine z_bipush (z := 6) C dX10_year_17 (by decide) ?_
    refine z_cV (As := [.int (zI (6))]) (rest := [.int (zI (350)), .ref (ad i)]) (ci := 12) C (c_X10_draw l D A cs tt N ad _ i hN _ hcvy24 (6) (by omega)) (by omega) hay1 hcvy24 rfl rfl mv_yX10_draw q_2103 hd_yX10_draw (by decide) (Nat.le_of_ble_eq_true rfl) (by decide) dX10_year_19 rfl (kI0 fun vy197 gvy197 hvy197 => ?_)
    obtain ⟨hrvy197, ⟨Fvy197, hcvy197, hFvy197⟩, hfvy197⟩ := hvy197
    refine z_iconst (z := 1) C dX10_year_22 rfl ?_
    refine z_iadd C dX10_year_23 ?_
    have hey199 : Fvy197 13 = F 13 := ((hFvy197 13 (by decide)).trans (hFvy24 13 (by decide)))
    have hey200 : Fvy197 14 = F 14 := ((hFvy197 14 (by decide)).trans (hFvy24 14 (by decide)))
    have hey201 : Fvy197 25 = F 25 := ((hFvy197 25 (by decide)).trans (hFvy24 25 (by decide)))
    have hey202 : Fvy197 27 = F 27 := ((hFvy197 27 (by decide)).trans (hFvy24 27 (by decide)))
    have hey203 : Fvy197 28 = F 28 := ((hFvy197 28 (by decide)).trans (hFvy24 28 (by decide)))
    have hey204 : Fvy197 29 = F 29 := ((hFvy197 29 (by decide)).trans (hFvy24 29 (by decide)))
    have hEvy198 : okEnv Fvy197 _ _ _ _ _ := ⟨by omega, hop, hai, hfa, hT, hT1⟩
    have hgy205 := (hfvy24 (i + 1) (ne_o (i := i) (c := 1) (d := 0) rfl)).trans ha1
    have hgy206 := (hfvy197 (i + 1) (ne_o (i := i) (c := 1) (d := 0) rfl)).trans hgy205
    have hgy208 := (hfvy24 (i + 3) (ne_o (i := i) (c := 3) (d := 0) rfl)).trans ha3
    have hgy209 := (hfvy197 (i + 3) (ne_o (i := i) (c := 3) (d := 0) rfl)).trans hgy208
    have hgy210 := (hfvy24 (i + 4) (ne_o (i := i) (c := 4) (d := 0) rfl)).trans ha4
    have hgy211 := (hfvy197 (i + 4) (ne_o (i := i) (c := 4) (d := 0) rfl)).trans hgy210
    have hgy212 := (hfvy24 (i + 5) (ne_o (i := i) (c := 5) (d := 0) rfl)).trans ha5
    have hgy213 := (hfvy197 (i + 5) (ne_o (i := i) (c := 5) (d := 0) rfl)).trans hgy212
    have hgy214 := (hfvy24 (i + 6) (ne_o (i := i) (c := 6) (d := 0) rfl)).trans ha6
    have hgy215 := (hfvy197 (i + 6) (ne_o (i := i) (c := 6) (d := 0) rfl)).trans hgy214
    have hgy216 := (hfvy24 (i + 7) (ne_o (i := i) (c := 7) (d := 0) rfl)).trans ha7
    have hgy217 := (hfvy197 (i + 7) (ne_o (i := i) (c := 7) (d := 0) rfl)).trans hgy216
    have hgy218 := (hfvy24 (i + 14) (ne_o (i := i) (c := 14) (d := 0) rfl)).trans ha14
    have hgy219 := (hfvy197 (i + 14) (ne_o (i := i) (c := 14) (d := 0) rfl)).trans hgy218
    have hgy220 := (hfvy24 (i + 15) (ne_o (i := i) (c := 15) (d := 0) rfl)).trans ha15
    have hgy221 := (hfvy197 (i + 15) (ne_o (i := i) (c := 15) (d := 0) rfl)).trans hgy220
    refine z_cV (As := [.int (zI (350)), .int (zI (vy197 + 1))]) (rest := []) (ci := 12) C (c_X10_goes l D A cs tt N ad _ i hN _ hcvy197 _ hgy206 _ hgy209 _ hgy211 _ hgy213 _ hgy215 _ hgy217 _ hgy219 _ hgy221 350 (by omega) hEvy198 (y) (by omega) hW (vy197 + 1) (by omega) (by omega) (by omega)) (by omega) hay1 hcvy197 rfl rfl mv_yX10_goes q_1881 hd_yX10_goes (by decide) (Nat.le_of_ble_eq_true rfl) (by decide) dX10_year_24 rfl (kV0 fun gvy207 hvy207 => ?_)
    obtain ⟨⟨rvy207, hcvy207, hwvy207, htvy207, hyvy207⟩, ⟨t4vy207, h4vy207⟩, ⟨t5vy207, h5vy207⟩, hfvy207⟩ := hvy207
    have hAy222 : okA rvy207 (x) := okA.tried hA (fun j a => hyvy207 j (by omega))
    obtain ⟨⟨hsyy223, htyy223, hnyy223, hpyy223⟩, hlyy223⟩ := okA.at0 hAy222
    simp only [Nat.zero_add] at hsyy223 hnyy223 hpyy223
    have hmn : ∀ s, s < 4 → 0 ≤ rvy207 (6 + 86 * s) ∧ rvy207 (6 + 86 * s) ≤ 12 := fun s hs => (hsyy223 s hs).1
    have h5 : 0 ≤ rvy207 5 ∧ rvy207 5 ≤ 6 := hpyy223
    refine z_goto (tgt := 143) C dX10_year_27 (by decide) ?_
    have hgy224 := (hfvy207 (i) (ne_o (i := i) (c := 0) (d := 1) rfl) (ne_o (i := i) (c := 0) (d := 14) rfl) (ne_o (i := i) (c := 0) (d := 15) rfl)).trans hcvy197
    have hFy225 : ∀ f, f ≠ 59 → Fvy197 f = F f := fun f n59 => ((hFvy197 f n59).trans (hFvy24 f n59))
    have hey226 : Fvy197 13 = F 13 := ((hFvy197 13 (by decide)).trans (hFvy24 13 (by decide)))
    have hey227 : Fvy197 14 = F 14 := ((hFvy197 14 (by decide)).trans (hFvy24 14 (by decide)))
    have hey228 : Fvy197 15 = F 15 := ((hFvy197 15 (by decide)).trans (hFvy24 15 (by decide)))
    have hey229 : Fvy197 16 = F 16 := ((hFvy197 16 (by decide)).trans (hFvy24 16 (by decide)))
    have hey230 : Fvy197 17 = F 17 := ((hFvy197 17 (by decide)).trans (hFvy24 17 (by decide)))
    have hey231 : Fvy197 18 = F 18 := ((hFvy197 18 (by decide)).trans (hFvy24 18 (by decide)))
    have hey232 : Fvy197 19 = F 19 := ((hFvy197 19 (by decide)).trans (hFvy24 19 (by decide)))
    have hey233 : Fvy197 20 = F 20 := ((hFvy197 20 (by decide)).trans (hFvy24 20 (by decide)))
    have hey234 : Fvy197 23 = F 23 := ((hFvy197 23 (by decide)).trans (hFvy24 23 (by decide)))
    have hey235 : Fvy197 25 = F 25 := ((hFvy197 25 (by decide)).trans (hFvy24 25 (by decide)))
    have hey236 : Fvy197 27 = F 27 := ((hFvy197 27 (by decide)).trans (hFvy24 27 (by decide)))
    have hey237 : Fvy197 28 = F 28 := ((hFvy197 28 (by decide)).trans (hFvy24 28 (by decide)))
    have hey238 : Fvy197 29 = F 29 := ((hFvy197 29 (by decide)).trans (hFvy24 29 (by decide)))
    have hKy239 : okF Fvy197 := by unfold okF; omega
    have hMy240 : okMr cs ad gvy207 i (x) Fvy197 rvy207 := okMr.upd hM hgy224 hKy239 (fun f a => hFy225 f (by omega)) hcvy207 (hAy222.mono (by omega)) (fun j a b => by
        by_cases e0 : j = i + 14
        · exact Or.inr ⟨14, _, e0, lsP.l (by decide), by rw [e0]; exact h4vy207⟩
        by_cases e1 : j = i + 15
        · exact Or.inr ⟨15, _, e1, lsP.l (by decide), by rw [e1]; exact h5vy207⟩
        exact Or.inl (by rw [hfvy207 _ (by omega) (by omega) (by omega)]; rw [hfvy197 _ (by omega)]; rw [hfvy24 _ (by omega)]))
    have hFy241 : ∀ f, f ≠ 59 → Fvy197 f = F f := fun f n59 => ((hFvy197 f n59).trans (hFvy24 f n59))
    exact z_vret C hr hlk dX10_year_143 (by decide) (by decide) ⟨rfl, rfl, rfl, ⟨_, _, hMy240, fun f n59 => (hFy241 f n59), hwvy207.mono (by omega), by omega⟩, fun j j1 => by rw [hfvy207 _ (by omega) (by omega) (by omega)]; rw [hfvy197 _ (by omega)]; rw [hfvy24 _ (by omega)]⟩

set_option maxRecDepth 100000 in
set_option maxHeartbeats 4000000 in
theorem c_X10_years (l : Launch) (D : va_G) (A : Nat → Prop) (cs : Nat → ClassId) (tt : Nat) (N : Nat) (ad : Nat → Nat) (g : Nat → va_E) (i : Nat) (hN : i + 30 ≤ N) (x : Int) (hx : 0 ≤ x ∧ x ≤ 512) (F r : Nat → Int) (hM : okMr cs ad g i x F r) (z : Int) (hz : -2147483648 ≤ z ∧ z ≤ 2147483647) (z1 : Int) (hz1 : -2147483648 ≤ z1 ∧ z1 ≤ 2147483647) (z2 : Int) (hz2 : -2147483648 ≤ z2 ∧ z2 ≤ 2147483647) : zM l yX10_years cX10_years 6 (some .int) ({ frames := 13, cells := 0, slots := 0, locals := 780 } : Room) D A cs tt N ad g [.ref (ad i), .int (zI (z)), .int (zI (z1)), .int (zI (z2))] (rI0 N ad fun q g' => (-2147483648 ≤ q ∧ q ≤ 2147483647) ∧ (∃ F' r' : Nat → Int, okMr cs ad g' i (x + 1) F' r' ∧ F' 23 = F 23) ∧ ∀ j, j < i ∨ i + 30 ≤ j → g' j = g j) := by
  obtain ⟨hg, ⟨⟨e13, e14, e25, e27, e29⟩, k15, k16, k17, k18, k19, k20, k23⟩, hRD, hTx, hA, st, op, ai, fa, mu, tb, ns, nh, nd, rf, pi, tp, te, ki, li, ok1, ok2, fo, dd, dps, ⟨ha1, ha2, ha3, ha4, ha5, ha6, ha7, ha8, ha9, ha10, ha11, ha12, ha13, ha14, ha15, ha24, ha25, ha26, ha27, ha28, ha29⟩, hEv, hPt, hns, htp⟩ := id hM
  obtain ⟨-, hop, hai, hfa, hT, hT1⟩ := id hEv
  have hay1 : zAt ad (i) (ad i) := rfl
  have hay2 : zAt ad (i + 1) (ad (i + 1)) := rfl
  have hay3 : zAt ad (i + 2) (ad (i + 2)) := rfl
  have hay4 : zAt ad (i + 3) (ad (i + 3)) := rfl
  have hay5 : zAt ad (i + 4) (ad (i + 4)) := rfl
  have hay6 : zAt ad (i + 5) (ad (i + 5)) := rfl
  have hay7 : zAt ad (i + 6) (ad (i + 6)) := rfl
  have hay8 : zAt ad (i + 7) (ad (i + 7)) := rfl
  have hay9 : zAt ad (i + 8) (ad (i + 8)) := rfl
  have hay10 : zAt ad (i + 9) (ad (i + 9)) := rfl
  have hay11 : zAt ad (i + 10) (ad (i + 10)) := rfl
  have hay12 : zAt ad (i + 11) (ad (i + 11)) := rfl
  have hay13 : zAt ad (i + 12) (ad (i + 12)) := rfl
  have hay14 : zAt ad (i + 13) (ad (i + 13)) := rfl
  have hay15 : zAt ad (i + 14) (ad (i + 14)) := rfl
  have hay16 : zAt ad (i + 15) (ad (i + 15)) := rfl
  have hay17 : zAt ad (i + 24) (ad (i + 24)) := rfl
  have hay18 : zAt ad (i + 25) (ad (i + 25)) := rfl
  have hay19 : zAt ad (i + 26) (ad (i + 26)) := rfl
  have hay20 : zAt ad (i + 27) (ad (i + 27)) := rfl
  have hay21 : zAt ad (i + 28) (ad (i + 28)) := rfl
  have hay22 : zAt ad (i + 29) (ad (i + 29)) := rfl
  obtain ⟨⟨hsyy23, htyy23, hnyy23, hpyy23⟩, hlyy23⟩ := okA.at0 hA
  simp only [Nat.zero_add] at hsyy23 hnyy23 hpyy23
  have hmn : ∀ s, s < 4 → 0 ≤ r (6 + 86 * s) ∧ r (6 + 86 * s) ≤ 12 := fun s hs => (hsyy23 s hs).1
  have h5 : 0 ≤ r 5 ∧ r 5 ≤ 6 := hpyy23
  refine z_of (by decide) (Nat.le_of_ble_eq_true rfl) ?_
  intro pZ eZ sZ mZ below meth cZ C hr hlk hnm
  refine z_lv (lv' := [(0, .ref (ad i)), (1, .int (zI (z))), (2, .int (zI (z1))), (3, .int (zI (z2)))]) [0, 1, 2, 3] rfl ?_
  refine z_aload_n C 0 dX10_years_0 rfl ?_
  refine z_iconst (z := 0) C dX10_years_1 rfl ?_
  refine z_put (fs' := mF ad (i) (uZ F 12 (0))) C (by omega) hay1 hg tyX10 tyX10_ok nmX10 rfl inA_X10 12 (by decide) q_1471 rfl rfl rfl rfl (Nat.le_of_ble_eq_true rfl) rfl dX10_years_2 (fun gy24 egy25 => ?_)
  have hgy26 := up_s egy25
  refine z_aload_n C 0 dX10_years_5 rfl ?_
  refine z_iload_n C 3 dX10_years_6 rfl ?_
  refine z_iconst (z := 0) C dX10_years_7 rfl ?_
  refine z_iconst (z := 2) C dX10_years_8 rfl ?_
  refine z_cS (As := [.int (zI (z2)), .int (zI (0)), .int (zI (2))]) (rest := [.ref (ad i)]) C (c_X10_within l D A cs tt N ad _ (z2) (by omega) (0) (by omega) (2) (by omega)) ms_yX10_within q_1686 hd_yX10_within (by decide) (Nat.le_of_ble_eq_true rfl) (by decide) dX10_years_9 rfl (kI0 fun vy27 gvy27 hvy27 => ?_)
  obtain ⟨hvy27, rfl⟩ := hvy27
  rcases hvy27 with ⟨rfl, hxvy27⟩ | ⟨rfl, hxvy27⟩
  · refine z_iconst (z := 1) C dX10_years_12 rfl ?_
    have hey29 : (uZ F 12 (0)) 12 = 0 := (uZ_s _ _ _)
    refine z_cV (As := [.int (zI (1)), .int (zI (1))]) (rest := []) (ci := 12) C (c_X10_right l D A cs tt N ad _ i hN _ hgy26 (by omega) (1) (by omega) (1) (by omega)) (by omega) hay1 hgy26 rfl rfl mv_yX10_right q_1648 hd_yX10_right (by decide) (Nat.le_of_ble_eq_true rfl) (by decide) dX10_years_13 rfl (kI0 fun vy28 gvy28 hvy28 => ?_)
    obtain ⟨hrvy28, ⟨Fvy28, hcvy28, htvy28, hFvy28⟩, hfvy28⟩ := hvy28
    rcases (show vy28 = 1 ∨ vy28 = 0 by omega) with rfl | rfl
    · refine z_if_eq (tgt := 34) C dX10_years_16 (by decide) (by omega) (fun h => absurd h (by omega)) (fun _ => ?_)
      refine z_aload_n C 0 dX10_years_19 rfl ?_
      refine z_iload_n C 2 dX10_years_20 rfl ?_
      refine z_iconst (z := 0) C dX10_years_21 rfl ?_
      refine z_bipush (z := 30) C dX10_years_22 (by decide) ?_
      refine z_cS (As := [.int (zI (z1)), .int (zI (0)), .int (zI (30))]) (rest := [.ref (ad i)]) C (c_X10_within l D A cs tt N ad _ (z1) (by omega) (0) (by omega) (30) (by omega)) ms_yX10_within q_1686 hd_yX10_within (by decide) (Nat.le_of_ble_eq_true rfl) (by decide) dX10_years_24 rfl (kI0 fun vy30 gvy30 hvy30 => ?_)
      obtain ⟨hvy30, rfl⟩ := hvy30
      rcases hvy30 with ⟨rfl, hxvy30⟩ | ⟨rfl, hxvy30⟩
      · refine z_iconst (z := 2) C dX10_years_27 rfl ?_
        have hey32 : Fvy28 12 = Fvy28 12 := rfl
        refine z_cV (As := [.int (zI (1)), .int (zI (2))]) (rest := []) (ci := 12) C (c_X10_right l D A cs tt N ad _ i hN _ hcvy28 (by omega) (1) (by omega) (2) (by omega)) (by omega) hay1 hcvy28 rfl rfl mv_yX10_right q_1648 hd_yX10_right (by decide) (Nat.le_of_ble_eq_true rfl) (by decide) dX10_years_28 rfl (kI0 fun vy31 gvy31 hvy31 => ?_)
        obtain ⟨hrvy31, ⟨Fvy31, hcvy31, htvy31, hFvy31⟩, hfvy31⟩ := hvy31
        rcases (show vy31 = 1 ∨ vy31 = 0 by omega) with rfl | rfl
        · refine z_if_ne (tgt := 36) C dX10_years_31 (by decide) (by omega) (fun _ => ?_) (fun h => absurd h (by omega))
          refine z_aload_n C 0 dX10_years_36 rfl ?_
          have hgy33 := up_n egy25 ha1 (ne_o (i := i) (c := 1) (d := 0) rfl)
          have hgy34 := (hfvy28 (i + 1) (ne_o (i := i) (c := 1) (d := 0) rfl)).trans hgy33
          have hgy35 := (hfvy31 (i + 1) (ne_o (i := i) (c := 1) (d := 0) rfl)).trans hgy34
          refine z_cV (As := []) (rest := []) (ci := 12) C (c_X10_tries l D A cs tt N ad _ i hN _ hcvy31 _ hgy35 (x) hA) (by omega) hay1 hcvy31 rfl rfl mv_yX10_tries q_1980 hd_yX10_tries (by decide) (Nat.le_of_ble_eq_true rfl) (by decide) dX10_years_37 rfl (kV0 fun gvy36 hvy36 => ?_)
          obtain ⟨⟨rvy36, hdvy36, hAvy36, hWvy36, h0vy36, hyvy36⟩, hfvy36⟩ := hvy36
          obtain ⟨⟨hsyy37, htyy37, hnyy37, hpyy37⟩, hlyy37⟩ := okA.at0 hAvy36
          simp only [Nat.zero_add] at hsyy37 hnyy37 hpyy37
          have hmn : ∀ s, s < 4 → 0 ≤ rvy36 (6 + 86 * s) ∧ rvy36 (6 + 86 * s) ≤ 12 := fun s hs => (hsyy37 s hs).1
          have h5 : 0 ≤ rvy36 5 ∧ rvy36 5 ≤ 6 := hpyy37
          refine z_aload_n C 0 dX10_years_40 rfl ?_
          refine z_iload_n C 1 dX10_years_41 rfl ?_
          have hgy38 := (hfvy36 (i) (ne_o (i := i) (c := 0) (d := 1) rfl)).trans hcvy31
          refine z_put (fs' := mF ad (i) (uZ Fvy31 59 (z))) C (by omega) hay1 hgy38 tyX10 tyX10_ok nmX10 rfl inA_X10 59 (by decide) q_1518 rfl rfl rfl rfl (Nat.le_of_ble_eq_true rfl) rfl dX10_years_42 (fun gy39 egy40 => ?_)
          have hgy41 := up_s egy40
          refine z_iconst (z := 0) C dX10_years_45 rfl ?_
          refine z_istore (lv' := [(4, .int (zI (0))), (0, .ref (ad i)), (1, .int (zI (z))), (2, .int (zI (z1))), (3, .int (zI (z2)))]) C dX10_years_46 (by decide) rfl ?_
          have lp1 : ∀ (n9 : Nat) (kk : Int) (F9 : Nat → Int) (r9 : Nat → Int) (g1 : Nat → va_E), (31 - kk).toNat = n9 → (okMr cs ad g1 i x F9 r9) → ((∀ f, f ≠ 12 → f ≠ 59 → F9 f = F f)) → (okW r9 350 (x + kk)) → (∀ j, j < i ∨ i + 30 ≤ j → g1 j = g j) → (0 ≤ kk ∧ kk ≤ z1) → (r9 350 ≤ 2000 + 6 * kk) → zV pZ l eZ ({ frames := 13, cells := 0, slots := 0, locals := 780 } : Room) sZ mZ ([.ref (ad i), .int (zI (z)), .int (zI (z1)), .int (zI (z2))] : List Value).toArray below meth cZ (MQ below (zPost D A (rI0 N ad fun q g' => (-2147483648 ≤ q ∧ q ≤ 2147483647) ∧ (∃ F' r' : Nat → Int, okMr cs ad g' i (x + 1) F' r' ∧ F' 23 = F 23) ∧ ∀ j, j < i ∨ i + 30 ≤ j → g' j = g j)) ([.ref (ad i), .int (zI (z)), .int (zI (z1)), .int (zI (z2))] : List Value).toArray sZ ({ frames := 13, cells := 0, slots := 0, locals := 780 } : Room).cells ({ frames := 13, cells := 0, slots := 0, locals := 780 } : Room).slots A) D A 6 (N) ad g1 (0) (0) 48 [(0, .ref (ad i)), (2, .int (zI (z1))), (3, .int (zI (z2))), (4, .int (zI (kk)))] [] := by
            intro n9
            induction n9 using Nat.strongRecOn with
            | ind n9 ih_lp1 =>
              intro kk F9 r9 g1 hm9 fM fF fW f3 hvlp10 hvlp11
              obtain ⟨hg_y42, ⟨⟨e13_y42, e14_y42, e25_y42, e27_y42, e29_y42⟩, k15_y42, k16_y42, k17_y42, k18_y42, k19_y42, k20_y42, k23_y42⟩, hRD_y42, hTx_y42, hA_y42, st_y42, op_y42, ai_y42, fa_y42, mu_y42, tb_y42, ns_y42, nh_y42, nd_y42, rf_y42, pi_y42, tp_y42, te_y42, ki_y42, li_y42, ok1_y42, ok2_y42, fo_y42, dd_y42, dps_y42, ⟨ha1_y42, ha2_y42, ha3_y42, ha4_y42, ha5_y42, ha6_y42, ha7_y42, ha8_y42, ha9_y42, ha10_y42, ha11_y42, ha12_y42, ha13_y42, ha14_y42, ha15_y42, ha24_y42, ha25_y42, ha26_y42, ha27_y42, ha28_y42, ha29_y42⟩, hEv_y42, hPt_y42, hns_y42, htp_y42⟩ := id fM
              obtain ⟨-, hop_y42, hai_y42, hfa_y42, hT_y42, hT1_y42⟩ := id hEv_y42
              have e14 := e14_y42
              have e25 := e25_y42
              have e27 := e27_y42
              have e29 := e29_y42
              have hop := hop_y42
              have hai := hai_y42
              have hfa := hfa_y42
              have hT := hT_y42
              have hT1 := hT1_y42
              have hEv := hEv_y42
              have htp := htp_y42
              have hns := hns_y42
              have hPt := hPt_y42
              have hay43 : zAt ad (i) (ad i) := rfl
              have hay44 : zAt ad (i + 1) (ad (i + 1)) := rfl
              have hay45 : zAt ad (i + 2) (ad (i + 2)) := rfl
              have hay46 : zAt ad (i + 3) (ad (i + 3)) := rfl
              have hay47 : zAt ad (i + 4) (ad (i + 4)) := rfl
              have hay48 : zAt ad (i + 5) (ad (i + 5)) := rfl
              have hay49 : zAt ad (i + 6) (ad (i + 6)) := rfl
              have hay50 : zAt ad (i + 7) (ad (i + 7)) := rfl
              have hay51 : zAt ad (i + 8) (ad (i + 8)) := rfl
              have hay52 : zAt ad (i + 9) (ad (i + 9)) := rfl
              have hay53 : zAt ad (i + 10) (ad (i + 10)) := rfl
              have hay54 : zAt ad (i + 11) (ad (i + 11)) := rfl
              have hay55 : zAt ad (i + 12) (ad (i + 12)) := rfl
              have hay56 : zAt ad (i + 13) (ad (i + 13)) := rfl
              have hay57 : zAt ad (i + 14) (ad (i + 14)) := rfl
              have hay58 : zAt ad (i + 15) (ad (i + 15)) := rfl
              have hay59 : zAt ad (i + 24) (ad (i + 24)) := rfl
              have hay60 : zAt ad (i + 25) (ad (i + 25)) := rfl
              have hay61 : zAt ad (i + 26) (ad (i + 26)) := rfl
              have hay62 : zAt ad (i + 27) (ad (i + 27)) := rfl
              have hay63 : zAt ad (i + 28) (ad (i + 28)) := rfl
              have hay64 : zAt ad (i + 29) (ad (i + 29)) := rfl
              obtain ⟨⟨hsyy65, htyy65, hnyy65, hpyy65⟩, hlyy65⟩ := okA.at0 hA_y42
              simp only [Nat.zero_add] at hsyy65 hnyy65 hpyy65
              have hmn : ∀ s, s < 4 → 0 ≤ r9 (6 + 86 * s) ∧ r9 (6 + 86 * s) ≤ 12 := fun s hs => (hsyy65 s hs).1
              have h5 : 0 ≤ r9 5 ∧ r9 5 ≤ 6 := hpyy65
              have h13e : F9 13 = F 13 := fF 13 (by decide) (by decide)
              have h14e : F9 14 = F 14 := fF 14 (by decide) (by decide)
              have h17e : F9 17 = F 17 := fF 17 (by decide) (by decide)
              have h23e : F9 23 = F 23 := fF 23 (by decide) (by decide)
              have hW2 := fW.2.1
              refine z_iload C 3 dX10_years_48 rfl ?_
              refine z_iload_n C 1 dX10_years_50 rfl ?_
              refine z_icmp_ge (tgt := 64) C dX10_years_51 (by decide) (by omega) (by omega) (fun hby66 => ?_) (fun hby66 => ?_)
              · refine z_iload_n C 2 dX10_years_64 rfl ?_
                refine z_iconst (z := 2) C dX10_years_65 rfl ?_
                refine z_icmp_ge (tgt := 107) C dX10_years_66 (by decide) (by omega) (by omega) (fun hby67 => ?_) (fun hby67 => ?_)
                · refine z_iconst (z := 0) C dX10_years_107 rfl ?_
                  refine z_istore (lv' := [(4, .int (zI (0))), (0, .ref (ad i)), (2, .int (zI (z1))), (3, .int (zI (z2)))]) C dX10_years_108 (by decide) rfl ?_
                  refine z_iconst (z := 0) C dX10_years_110 rfl ?_
                  refine z_istore (lv' := [(5, .int (zI (0))), (4, .int (zI (0))), (0, .ref (ad i)), (2, .int (zI (z1))), (3, .int (zI (z2)))]) C dX10_years_111 (by decide) rfl ?_
                  have lp2 : ∀ (n9 : Nat) (de : Int) (ss : Int) (F9b : Nat → Int) (r9b : Nat → Int) (g1 : Nat → va_E), (5 - ss).toNat = n9 → (okMr cs ad g1 i x F9b r9b) → ((∀ f, f ≠ 12 → f ≠ 59 → F9b f = F f)) → (okW r9b 350 (x + 30)) → (∀ j, j < i ∨ i + 30 ≤ j → g1 j = g j) → (-2147483648 ≤ de ∧ de ≤ 2147483647) → (0 ≤ ss ∧ ss ≤ F 13) → zV pZ l eZ ({ frames := 13, cells := 0, slots := 0, locals := 780 } : Room) sZ mZ ([.ref (ad i), .int (zI (z)), .int (zI (z1)), .int (zI (z2))] : List Value).toArray below meth cZ (MQ below (zPost D A (rI0 N ad fun q g' => (-2147483648 ≤ q ∧ q ≤ 2147483647) ∧ (∃ F' r' : Nat → Int, okMr cs ad g' i (x + 1) F' r' ∧ F' 23 = F 23) ∧ ∀ j, j < i ∨ i + 30 ≤ j → g' j = g j)) ([.ref (ad i), .int (zI (z)), .int (zI (z1)), .int (zI (z2))] : List Value).toArray sZ ({ frames := 13, cells := 0, slots := 0, locals := 780 } : Room).cells ({ frames := 13, cells := 0, slots := 0, locals := 780 } : Room).slots A) D A 6 (N) ad g1 (0) (0) 113 [(0, .ref (ad i)), (4, .int (zI (de))), (5, .int (zI (ss)))] [] := by
                    intro n9
                    induction n9 using Nat.strongRecOn with
                    | ind n9 ih_lp2 =>
                      intro de ss F9b r9b g1 hm9 fMb fFb fWb f3 hvlp20 hvlp21
                      obtain ⟨hg_y68, ⟨⟨e13_y68, e14_y68, e25_y68, e27_y68, e29_y68⟩, k15_y68, k16_y68, k17_y68, k18_y68, k19_y68, k20_y68, k23_y68⟩, hRD_y68, hTx_y68, hA_y68, st_y68, op_y68, ai_y68, fa_y68, mu_y68, tb_y68, ns_y68, nh_y68, nd_y68, rf_y68, pi_y68, tp_y68, te_y68, ki_y68, li_y68, ok1_y68, ok2_y68, fo_y68, dd_y68, dps_y68, ⟨ha1_y68, ha2_y68, ha3_y68, ha4_y68, ha5_y68, ha6_y68, ha7_y68, ha8_y68, ha9_y68, ha10_y68, ha11_y68, ha12_y68, ha13_y68, ha14_y68, ha15_y68, ha24_y68, ha25_y68, ha26_y68, ha27_y68, ha28_y68, ha29_y68⟩, hEv_y68, hPt_y68, hns_y68, htp_y68⟩ := id fMb
                      obtain ⟨-, hop_y68, hai_y68, hfa_y68, hT_y68, hT1_y68⟩ := id hEv_y68
                      have e14 := e14_y68
                      have e25 := e25_y68
                      have e27 := e27_y68
                      have e29 := e29_y68
                      have hop := hop_y68
                      have hai := hai_y68
                      have hfa := hfa_y68
                      have hT := hT_y68
                      have hT1 := hT1_y68
                      have hEv := hEv_y68
                      have htp := htp_y68
                      have hns := hns_y68
                      have hPt := hPt_y68
                      have hay69 : zAt ad (i) (ad i) := rfl
                      have hay70 : zAt ad (i + 1) (ad (i + 1)) := rfl
                      have hay71 : zAt ad (i + 2) (ad (i + 2)) := rfl
                      have hay72 : zAt ad (i + 3) (ad (i + 3)) := rfl
                      have hay73 : zAt ad (i + 4) (ad (i + 4)) := rfl
                      have hay74 : zAt ad (i + 5) (ad (i + 5)) := rfl
                      have hay75 : zAt ad (i + 6) (ad (i + 6)) := rfl
                      have hay76 : zAt ad (i + 7) (ad (i + 7)) := rfl
                      have hay77 : zAt ad (i + 8) (ad (i + 8)) := rfl
                      have hay78 : zAt ad (i + 9) (ad (i + 9)) := rfl
                      have hay79 : zAt ad (i + 10) (ad (i + 10)) := rfl
                      have hay80 : zAt ad (i + 11) (ad (i + 11)) := rfl
                      have hay81 : zAt ad (i + 12) (ad (i + 12)) := rfl
                      have hay82 : zAt ad (i + 13) (ad (i + 13)) := rfl
                      have hay83 : zAt ad (i + 14) (ad (i + 14)) := rfl
                      have hay84 : zAt ad (i + 15) (ad (i + 15)) := rfl
                      have hay85 : zAt ad (i + 24) (ad (i + 24)) := rfl
                      have hay86 : zAt ad (i + 25) (ad (i + 25)) := rfl
                      have hay87 : zAt ad (i + 26) (ad (i + 26)) := rfl
                      have hay88 : zAt ad (i + 27) (ad (i + 27)) := rfl
                      have hay89 : zAt ad (i + 28) (ad (i + 28)) := rfl
                      have hay90 : zAt ad (i + 29) (ad (i + 29)) := rfl
                      obtain ⟨⟨hsyy91, htyy91, hnyy91, hpyy91⟩, hlyy91⟩ := okA.at0 hA_y68
                      simp only [Nat.zero_add] at hsyy91 hnyy91 hpyy91
                      have hmn : ∀ s, s < 4 → 0 ≤ r9b (6 + 86 * s) ∧ r9b (6 + 86 * s) ≤ 12 := fun s hs => (hsyy91 s hs).1
                      have h5 : 0 ≤ r9b 5 ∧ r9b 5 ≤ 6 := hpyy91
                      have h13be : F9b 13 = F 13 := fFb 13 (by decide) (by decide)
                      have h14be : F9b 14 = F 14 := fFb 14 (by decide) (by decide)
                      have h17be : F9b 17 = F 17 := fFb 17 (by decide) (by decide)
                      have h23be : F9b 23 = F 23 := fFb 23 (by decide) (by decide)
                      have hW2b := fWb.2.1
                      refine z_iload C 2 dX10_years_113 rfl ?_
                      refine z_aload_n C 0 dX10_years_115 rfl ?_
                      refine z_get (v := .int (zI (F9b 13))) C (by omega) hay69 hg_y68 rfl inA_X10 13 (by decide) q_1472 rfl (fv (F := F9b) (f := 13) rfl) dX10_years_116 ?_
                      refine z_icmp_ge (tgt := 143) C dX10_years_119 (by decide) (by omega) (by omega) (fun hby92 => ?_) (fun hby92 => ?_)
                      · refine z_iload C 1 dX10_years_143 rfl ?_
                        have hMy93 : okMr cs ad g1 i (x + 1) F9b r9b := okMr.upd fMb hg_y68 fMb.2.1 (fun f _ => rfl) ha1_y68 (hA_y68.mono (by omega)) (fun j a b => by
                            exact Or.inl (by rfl))
                        have h23 : F9b 23 = F9b 23 := rfl
                        exact z_iret C hr hlk dX10_years_145 (by decide) (by decide) ⟨de, rfl, rfl, rfl, by omega, ⟨_, _, hMy93, by omega⟩, fun j j1 => by exact f3 j j1⟩
                      · refine z_iload C 1 dX10_years_122 rfl ?_
                        refine z_aload_n C 0 dX10_years_124 rfl ?_
                        refine z_sipush (z := 350) C dX10_years_125 (by decide) ?_
                        refine z_iload C 2 dX10_years_128 rfl ?_
                        refine z_iconst (z := 3) C dX10_years_130 rfl ?_
                        obtain ⟨ny94, hny94⟩ : ∃ n9 : Nat, ss = (n9 : Int) := ⟨(ss).toNat, by omega⟩
                        rw [hny94]
                        obtain ⟨py95, hpy95⟩ : ∃ p9 : Nat, 350 + 6 + 86 * ny94 = p9 := ⟨_, rfl⟩
                        have hqy97 : qS r9b py95 := ((fWb.1 ny94 (by omega)).of (p2 := py95) (by omega)).q (by have hb9 := mBb (t := r9b 350 + (x + 30)) (by omega); omega)
                        have hmky98 := hqy97.1
                        refine z_cV (As := [.int (zI (350)), .int (zI ((ny94 : Int))), .int (zI (3))]) (rest := [.int (zI (de))]) (ci := 12) C (c_X10_sumA l D A cs tt N ad _ i hN _ hg_y68 _ ha1_y68 350 ny94 py95 hpy95 (by omega) (by omega) hqy97 3 (by omega)) (by omega) hay69 hg_y68 rfl rfl mv_yX10_sum q_1745 hd_yX10_sum (by decide) (Nat.le_of_ble_eq_true rfl) (by decide) dX10_years_131 rfl (kI0 fun vy96 gvy96 hvy96 => ?_)
                        obtain ⟨hvy96, rfl⟩ := hvy96
                        refine z_iadd C dX10_years_134 ?_
                        refine z_istore (lv' := [(4, .int (zI (de + vy96))), (0, .ref (ad i)), (5, .int (zI ((ny94 : Int))))]) C dX10_years_135 (by decide) rfl ?_
                        refine z_iinc (z := (ny94 : Int) + 1) (lv' := [(5, .int (zI ((ny94 : Int) + 1))), (4, .int (zI (de + vy96))), (0, .ref (ad i))]) (j := 2) C dX10_years_137 rfl rfl (by decide) rfl ?_
                        refine z_goto (tgt := 113) C dX10_years_140 (by decide) ?_
                        obtain ⟨xy99, exy100, hxy101⟩ := zI_of (zI (de + vy96))
                        rw [exy100]
                        have hMy102 : okMr cs ad g1 i (x) F9b r9b := okMr.upd fMb hg_y68 fMb.2.1 (fun f _ => rfl) ha1_y68 (hA_y68.mono (by omega)) (fun j a b => by
                            exact Or.inl (by rfl))
                        have hFFb : (∀ f, f ≠ 12 → f ≠ 59 → F9b f = F f) := fun f n12 n59 => fFb f n12 n59
                        have hey103 : F9b 13 = F9b 13 := rfl
                        have hey104 : F9b 14 = F9b 14 := rfl
                        refine z_lv (lv' := [(0, .ref (ad i)), (4, .int (zI (xy99))), (5, .int (zI ((ny94 : Int) + 1)))]) [2, 1, 0] rfl ?_
                        exact ih_lp2 _ (by omega) (xy99) ((ny94 : Int) + 1) _ _ g1 rfl hMy102 hFFb fWb (fun j j1 => by exact f3 j j1) (by omega) (by omega)
                  have hMy105 : okMr cs ad g1 i (x) F9 r9 := okMr.upd fM hg_y42 fM.2.1 (fun f _ => rfl) ha1_y42 (hA_y42.mono (by omega)) (fun j a b => by
                      exact Or.inl (by rfl))
                  have hFFb : (∀ f, f ≠ 12 → f ≠ 59 → F9 f = F f) := fun f n12 n59 => fF f n12 n59
                  have hey106 : F9 13 = F9 13 := rfl
                  have hey107 : F9 14 = F9 14 := rfl
                  refine z_lv (lv' := [(0, .ref (ad i)), (4, .int (zI (0))), (5, .int (zI (0)))]) [2, 1, 0] rfl ?_
                  exact lp2 _ (0) (0) _ _ g1 rfl hMy105 hFFb (fW.mono (by omega)) (fun j j1 => by exact f3 j j1) (by omega) (by omega)
                · refine z_iload_n C 2 dX10_years_69 rfl ?_
                  refine z_if_ne (tgt := 91) C dX10_years_70 (by decide) (by omega) (fun hby108 => ?_) (fun hby108 => ?_)
                  · refine z_aload_n C 0 dX10_years_91 rfl ?_
                    refine z_get (v := .ref (ad (i + 1))) C (by omega) hay43 hg_y42 rfl inA_X10 0 (by decide) q_1459 rfl rfl dX10_years_92 ?_
                    refine z_sipush (z := 353) C dX10_years_95 (by decide) ?_
                    refine z_iald C (by omega) hay44 ha1_y42 (353) (by omega) (by omega) (by decide) dX10_years_98 ?_
                    refine z_aload_n C 0 dX10_years_99 rfl ?_
                    refine z_get (v := .ref (ad (i + 1))) C (by omega) hay43 hg_y42 rfl inA_X10 0 (by decide) q_1459 rfl rfl dX10_years_100 ?_
                    refine z_iconst (z := 3) C dX10_years_103 rfl ?_
                    refine z_iald C (by omega) hay44 ha1_y42 (3) (by omega) (by omega) (by decide) dX10_years_104 ?_
                    refine z_isub C dX10_years_105 ?_
                    obtain ⟨xy109, exy110, hxy111⟩ := zI_of (zI ((r9 (353)) - (r9 (3))))
                    rw [exy110]
                    have hMy112 : okMr cs ad g1 i (x + 1) F9 r9 := okMr.upd fM hg_y42 fM.2.1 (fun f _ => rfl) ha1_y42 (hA_y42.mono (by omega)) (fun j a b => by
                        exact Or.inl (by rfl))
                    have h23 : F9 23 = F9 23 := rfl
                    exact z_iret C hr hlk dX10_years_106 (by decide) (by decide) ⟨xy109, rfl, rfl, rfl, by omega, ⟨_, _, hMy112, by omega⟩, fun j j1 => by exact f3 j j1⟩
                  · refine z_aload_n C 0 dX10_years_73 rfl ?_
                    refine z_get (v := .ref (ad (i + 1))) C (by omega) hay43 hg_y42 rfl inA_X10 0 (by decide) q_1459 rfl rfl dX10_years_74 ?_
                    refine z_sipush (z := 354) C dX10_years_77 (by decide) ?_
                    refine z_iald C (by omega) hay44 ha1_y42 (354) (by omega) (by omega) (by decide) dX10_years_80 ?_
                    refine z_aload_n C 0 dX10_years_81 rfl ?_
                    refine z_get (v := .ref (ad (i + 1))) C (by omega) hay43 hg_y42 rfl inA_X10 0 (by decide) q_1459 rfl rfl dX10_years_82 ?_
                    refine z_iconst (z := 4) C dX10_years_85 rfl ?_
                    refine z_iald C (by omega) hay44 ha1_y42 (4) (by omega) (by omega) (by decide) dX10_years_86 ?_
                    refine z_isub C dX10_years_87 ?_
                    refine z_goto (tgt := 106) C dX10_years_88 (by decide) ?_
                    obtain ⟨xy113, exy114, hxy115⟩ := zI_of (zI ((r9 (354)) - (r9 (4))))
                    rw [exy114]
                    have hMy116 : okMr cs ad g1 i (x + 1) F9 r9 := okMr.upd fM hg_y42 fM.2.1 (fun f _ => rfl) ha1_y42 (hA_y42.mono (by omega)) (fun j a b => by
                        exact Or.inl (by rfl))
                    have h23 : F9 23 = F9 23 := rfl
                    exact z_iret C hr hlk dX10_years_106 (by decide) (by decide) ⟨xy113, rfl, rfl, rfl, by omega, ⟨_, _, hMy116, by omega⟩, fun j j1 => by exact f3 j j1⟩
              · refine z_aload_n C 0 dX10_years_54 rfl ?_
                have hMy117 : okMr cs ad g1 i (x) F9 r9 := okMr.upd fM hg_y42 fM.2.1 (fun f _ => rfl) ha1_y42 (hA_y42.mono (by omega)) (fun j a b => by
                    exact Or.inl (by rfl))
                refine z_cV (As := []) (rest := []) (ci := 12) C (c_X10_year l D A cs tt N ad _ i hN x hx _ _ hMy117 (x + kk) (by omega) fW (by omega)) (by omega) hay43 hg_y42 rfl rfl mv_yX10_year q_2099 hd_yX10_year (by decide) (Nat.le_of_ble_eq_true rfl) (by decide) dX10_years_55 rfl (kV0 fun gvy118 hvy118 => ?_)
                obtain ⟨⟨Fvy118, rvy118, hMvy118, hFvy118, hWvy118, hTvy118⟩, hfvy118⟩ := hvy118
                have hBvy118 : (∀ f, f ≠ 59 → Fvy118 f = F9 f) := fun f n59 => (hFvy118 f n59)
                have hCvy118 : (∀ f, f ≠ 12 → f ≠ 59 → Fvy118 f = F f) := fun f n12 n59 => (hBvy118 f n59).trans (fF f n12 n59)
                have hq13vy118 : Fvy118 13 = F9 13 := (hFvy118 13 (by decide)).trans rfl
                have hq14vy118 : Fvy118 14 = F9 14 := (hFvy118 14 (by decide)).trans rfl
                have hq15vy118 : Fvy118 15 = F9 15 := (hFvy118 15 (by decide)).trans rfl
                have hq17vy118 : Fvy118 17 = F9 17 := (hFvy118 17 (by decide)).trans rfl
                have hq23vy118 : Fvy118 23 = F9 23 := (hFvy118 23 (by decide)).trans rfl
                obtain ⟨hg_y119, ⟨⟨e13_y119, e14_y119, e25_y119, e27_y119, e29_y119⟩, k15_y119, k16_y119, k17_y119, k18_y119, k19_y119, k20_y119, k23_y119⟩, hRD_y119, hTx_y119, hA_y119, st_y119, op_y119, ai_y119, fa_y119, mu_y119, tb_y119, ns_y119, nh_y119, nd_y119, rf_y119, pi_y119, tp_y119, te_y119, ki_y119, li_y119, ok1_y119, ok2_y119, fo_y119, dd_y119, dps_y119, ⟨ha1_y119, ha2_y119, ha3_y119, ha4_y119, ha5_y119, ha6_y119, ha7_y119, ha8_y119, ha9_y119, ha10_y119, ha11_y119, ha12_y119, ha13_y119, ha14_y119, ha15_y119, ha24_y119, ha25_y119, ha26_y119, ha27_y119, ha28_y119, ha29_y119⟩, hEv_y119, hPt_y119, hns_y119, htp_y119⟩ := id hMvy118
                obtain ⟨-, hop_y119, hai_y119, hfa_y119, hT_y119, hT1_y119⟩ := id hEv_y119
                have e14 := e14_y119
                have e25 := e25_y119
                have e27 := e27_y119
                have e29 := e29_y119
                have hop := hop_y119
                have hai := hai_y119
                have hfa := hfa_y119
                have hT := hT_y119
                have hT1 := hT1_y119
                have hEv := hEv_y119
                have htp := htp_y119
                have hns := hns_y119
                have hPt := hPt_y119
                obtain ⟨⟨hsyy120, htyy120, hnyy120, hpyy120⟩, hlyy120⟩ := okA.at0 hA_y119
                simp only [Nat.zero_add] at hsyy120 hnyy120 hpyy120
                have hmn : ∀ s, s < 4 → 0 ≤ rvy118 (6 + 86 * s) ∧ rvy118 (6 + 86 * s) ≤ 12 := fun s hs => (hsyy120 s hs).1
                have h5 : 0 ≤ rvy118 5 ∧ rvy118 5 ≤ 6 := hpyy120
                have hW2vy118 := hWvy118.2.1
                refine z_iinc (z := kk + 1) (lv' := [(4, .int (zI (kk + 1))), (0, .ref (ad i)), (2, .int (zI (z1))), (3, .int (zI (z2)))]) (j := 3) C dX10_years_58 rfl rfl (by decide) rfl ?_
                refine z_goto (tgt := 48) C dX10_years_61 (by decide) ?_
                have hMy121 : okMr cs ad gvy118 i (x) Fvy118 rvy118 := okMr.upd hMvy118 hg_y119 hMvy118.2.1 (fun f _ => rfl) ha1_y119 (hA_y119.mono (by omega)) (fun j a b => by
                    exact Or.inl (by rfl))
                have hFF : (∀ f, f ≠ 12 → f ≠ 59 → Fvy118 f = F f) := fun f n12 n59 => hCvy118 f n12 n59
                have hey122 : Fvy118 13 = F9 13 := hq13vy118
                have hey123 : Fvy118 14 = F9 14 := hq14vy118
                refine z_lv (lv' := [(0, .ref (ad i)), (2, .int (zI (z1))), (3, .int (zI (z2))), (4, .int (zI (kk + 1)))]) [1, 2, 3, 0] rfl ?_
                exact ih_lp1 _ (by omega) (kk + 1) _ _ gvy118 rfl hMy121 hFF (hWvy118.mono (by omega)) (fun j j1 => by rw [hfvy118 _ (by omega)]; exact f3 j j1) (by omega) (by omega)
          have hgy124 := up_n egy40 hdvy36 (ne_o (i := i) (c := 1) (d := 0) rfl)
          have hFy125 : ∀ f, f ≠ 12 → f ≠ 59 → (uZ Fvy31 59 (z)) f = F f := fun f n12 n59 => ((uZ_n _ _ n59).trans ((hFvy31 f n12).trans ((hFvy28 f n12).trans ((uZ_n _ _ n12).trans rfl))))
          have hey126 : (uZ Fvy31 59 (z)) 13 = F 13 := (fn ((hFvy31 13 (by decide)).trans ((hFvy28 13 (by decide)).trans (fn rfl (by decide)))) (by decide))
          have hey127 : (uZ Fvy31 59 (z)) 14 = F 14 := (fn ((hFvy31 14 (by decide)).trans ((hFvy28 14 (by decide)).trans (fn rfl (by decide)))) (by decide))
          have hey128 : (uZ Fvy31 59 (z)) 15 = F 15 := (fn ((hFvy31 15 (by decide)).trans ((hFvy28 15 (by decide)).trans (fn rfl (by decide)))) (by decide))
          have hey129 : (uZ Fvy31 59 (z)) 16 = F 16 := (fn ((hFvy31 16 (by decide)).trans ((hFvy28 16 (by decide)).trans (fn rfl (by decide)))) (by decide))
          have hey130 : (uZ Fvy31 59 (z)) 17 = F 17 := (fn ((hFvy31 17 (by decide)).trans ((hFvy28 17 (by decide)).trans (fn rfl (by decide)))) (by decide))
          have hey131 : (uZ Fvy31 59 (z)) 18 = F 18 := (fn ((hFvy31 18 (by decide)).trans ((hFvy28 18 (by decide)).trans (fn rfl (by decide)))) (by decide))
          have hey132 : (uZ Fvy31 59 (z)) 19 = F 19 := (fn ((hFvy31 19 (by decide)).trans ((hFvy28 19 (by decide)).trans (fn rfl (by decide)))) (by decide))
          have hey133 : (uZ Fvy31 59 (z)) 20 = F 20 := (fn ((hFvy31 20 (by decide)).trans ((hFvy28 20 (by decide)).trans (fn rfl (by decide)))) (by decide))
          have hey134 : (uZ Fvy31 59 (z)) 23 = F 23 := (fn ((hFvy31 23 (by decide)).trans ((hFvy28 23 (by decide)).trans (fn rfl (by decide)))) (by decide))
          have hey135 : (uZ Fvy31 59 (z)) 25 = F 25 := (fn ((hFvy31 25 (by decide)).trans ((hFvy28 25 (by decide)).trans (fn rfl (by decide)))) (by decide))
          have hey136 : (uZ Fvy31 59 (z)) 27 = F 27 := (fn ((hFvy31 27 (by decide)).trans ((hFvy28 27 (by decide)).trans (fn rfl (by decide)))) (by decide))
          have hey137 : (uZ Fvy31 59 (z)) 28 = F 28 := (fn ((hFvy31 28 (by decide)).trans ((hFvy28 28 (by decide)).trans (fn rfl (by decide)))) (by decide))
          have hey138 : (uZ Fvy31 59 (z)) 29 = F 29 := (fn ((hFvy31 29 (by decide)).trans ((hFvy28 29 (by decide)).trans (fn rfl (by decide)))) (by decide))
          have hKy139 : okF (uZ Fvy31 59 (z)) := by unfold okF; omega
          have hMy140 : okMr cs ad gy39 i (x) (uZ Fvy31 59 (z)) rvy36 := okMr.upd hM hgy41 hKy139 (fun f a => hFy125 f (by omega) (by omega)) hgy124 (hAvy36.mono (by omega)) (fun j a b => by
              exact Or.inl (by rw [egy40, va_up_ne _ _ (by omega)]; rw [hfvy36 _ (by omega)]; rw [hfvy31 _ (by omega)]; rw [hfvy28 _ (by omega)]; rw [egy25, va_up_ne _ _ (by omega)]))
          have hFy141 : ∀ f, f ≠ 12 → f ≠ 59 → (uZ Fvy31 59 (z)) f = F f := fun f n12 n59 => ((uZ_n _ _ n59).trans ((hFvy31 f n12).trans ((hFvy28 f n12).trans ((uZ_n _ _ n12).trans rfl))))
          have hFF : (∀ f, f ≠ 12 → f ≠ 59 → (uZ Fvy31 59 (z)) f = F f) := fun f n12 n59 => (hFy141 f n12 n59)
          have hey142 : (uZ Fvy31 59 (z)) 13 = F 13 := (fn ((hFvy31 13 (by decide)).trans ((hFvy28 13 (by decide)).trans (fn rfl (by decide)))) (by decide))
          have hey143 : (uZ Fvy31 59 (z)) 14 = F 14 := (fn ((hFvy31 14 (by decide)).trans ((hFvy28 14 (by decide)).trans (fn rfl (by decide)))) (by decide))
          refine z_lv (lv' := [(0, .ref (ad i)), (2, .int (zI (z1))), (3, .int (zI (z2))), (4, .int (zI (0)))]) [1, 3, 4, 0] rfl ?_
          exact lp1 _ (0) _ _ gy39 rfl hMy140 hFF (hWvy36.mono (by omega)) (fun j j1 => by rw [egy40, va_up_ne _ _ (by omega)]; rw [hfvy36 _ (by omega)]; rw [hfvy31 _ (by omega)]; rw [hfvy28 _ (by omega)]; rw [egy25, va_up_ne _ _ (by omega)]) (by omega) (by omega)
        · refine z_if_ne (tgt := 36) C dX10_years_31 (by decide) (by omega) (fun h => absurd h (by omega)) (fun _ => ?_)
          refine z_iconst (z := 0) C dX10_years_34 rfl ?_
          have hgy144 := up_n egy25 ha1 (ne_o (i := i) (c := 1) (d := 0) rfl)
          have hgy145 := (hfvy28 (i + 1) (ne_o (i := i) (c := 1) (d := 0) rfl)).trans hgy144
          have hgy146 := (hfvy31 (i + 1) (ne_o (i := i) (c := 1) (d := 0) rfl)).trans hgy145
          have hFy147 : ∀ f, f ≠ 12 → Fvy31 f = F f := fun f n12 => ((hFvy31 f n12).trans ((hFvy28 f n12).trans ((uZ_n _ _ n12).trans rfl)))
          have hey148 : Fvy31 13 = F 13 := ((hFvy31 13 (by decide)).trans ((hFvy28 13 (by decide)).trans (fn rfl (by decide))))
          have hey149 : Fvy31 14 = F 14 := ((hFvy31 14 (by decide)).trans ((hFvy28 14 (by decide)).trans (fn rfl (by decide))))
          have hey150 : Fvy31 15 = F 15 := ((hFvy31 15 (by decide)).trans ((hFvy28 15 (by decide)).trans (fn rfl (by decide))))
          have hey151 : Fvy31 16 = F 16 := ((hFvy31 16 (by decide)).trans ((hFvy28 16 (by decide)).trans (fn rfl (by decide))))
          have hey152 : Fvy31 17 = F 17 := ((hFvy31 17 (by decide)).trans ((hFvy28 17 (by decide)).trans (fn rfl (by decide))))
          have hey153 : Fvy31 18 = F 18 := ((hFvy31 18 (by decide)).trans ((hFvy28 18 (by decide)).trans (fn rfl (by decide))))
          have hey154 : Fvy31 19 = F 19 := ((hFvy31 19 (by decide)).trans ((hFvy28 19 (by decide)).trans (fn rfl (by decide))))
          have hey155 : Fvy31 20 = F 20 := ((hFvy31 20 (by decide)).trans ((hFvy28 20 (by decide)).trans (fn rfl (by decide))))
          have hey156 : Fvy31 23 = F 23 := ((hFvy31 23 (by decide)).trans ((hFvy28 23 (by decide)).trans (fn rfl (by decide))))
          have hey157 : Fvy31 25 = F 25 := ((hFvy31 25 (by decide)).trans ((hFvy28 25 (by decide)).trans (fn rfl (by decide))))
          have hey158 : Fvy31 27 = F 27 := ((hFvy31 27 (by decide)).trans ((hFvy28 27 (by decide)).trans (fn rfl (by decide))))
          have hey159 : Fvy31 28 = F 28 := ((hFvy31 28 (by decide)).trans ((hFvy28 28 (by decide)).trans (fn rfl (by decide))))
          have hey160 : Fvy31 29 = F 29 := ((hFvy31 29 (by decide)).trans ((hFvy28 29 (by decide)).trans (fn rfl (by decide))))
          have hKy161 : okF Fvy31 := by unfold okF; omega
          have hMy162 : okMr cs ad gvy31 i (x + 1) Fvy31 r := okMr.upd hM hcvy31 hKy161 (fun f a => hFy147 f (by omega)) hgy146 (hA.mono (by omega)) (fun j a b => by
              exact Or.inl (by rw [hfvy31 _ (by omega)]; rw [hfvy28 _ (by omega)]; rw [egy25, va_up_ne _ _ (by omega)]))
          have h23 : Fvy31 23 = F 23 := ((hFvy31 23 (by decide)).trans ((hFvy28 23 (by decide)).trans (fn rfl (by decide))))
          exact z_iret C hr hlk dX10_years_35 (by decide) (by decide) ⟨0, rfl, rfl, rfl, by omega, ⟨_, _, hMy162, by omega⟩, fun j j1 => by rw [hfvy31 _ (by omega)]; rw [hfvy28 _ (by omega)]; rw [egy25, va_up_ne _ _ (by omega)]⟩
      · refine z_iconst (z := 2) C dX10_years_27 rfl ?_
        have hey164 : Fvy28 12 = Fvy28 12 := rfl
        refine z_cV (As := [.int (zI (0)), .int (zI (2))]) (rest := []) (ci := 12) C (c_X10_right l D A cs tt N ad _ i hN _ hcvy28 (by omega) (0) (by omega) (2) (by omega)) (by omega) hay1 hcvy28 rfl rfl mv_yX10_right q_1648 hd_yX10_right (by decide) (Nat.le_of_ble_eq_true rfl) (by decide) dX10_years_28 rfl (kI0 fun vy163 gvy163 hvy163 => ?_)
        obtain ⟨hrvy163, ⟨Fvy163, hcvy163, htvy163, hFvy163⟩, hfvy163⟩ := hvy163
        obtain rfl : vy163 = 0 := by omega
        refine z_if_ne (tgt := 36) C dX10_years_31 (by decide) (by omega) (fun h => absurd h (by omega)) (fun _ => ?_)
        refine z_iconst (z := 0) C dX10_years_34 rfl ?_
        have hgy165 := up_n egy25 ha1 (ne_o (i := i) (c := 1) (d := 0) rfl)
        have hgy166 := (hfvy28 (i + 1) (ne_o (i := i) (c := 1) (d := 0) rfl)).trans hgy165
        have hgy167 := (hfvy163 (i + 1) (ne_o (i := i) (c := 1) (d := 0) rfl)).trans hgy166
        have hFy168 : ∀ f, f ≠ 12 → Fvy163 f = F f := fun f n12 => ((hFvy163 f n12).trans ((hFvy28 f n12).trans ((uZ_n _ _ n12).trans rfl)))
        have hey169 : Fvy163 13 = F 13 := ((hFvy163 13 (by decide)).trans ((hFvy28 13 (by decide)).trans (fn rfl (by decide))))
        have hey170 : Fvy163 14 = F 14 := ((hFvy163 14 (by decide)).trans ((hFvy28 14 (by decide)).trans (fn rfl (by decide))))
        have hey171 : Fvy163 15 = F 15 := ((hFvy163 15 (by decide)).trans ((hFvy28 15 (by decide)).trans (fn rfl (by decide))))
        have hey172 : Fvy163 16 = F 16 := ((hFvy163 16 (by decide)).trans ((hFvy28 16 (by decide)).trans (fn rfl (by decide))))
        have hey173 : Fvy163 17 = F 17 := ((hFvy163 17 (by decide)).trans ((hFvy28 17 (by decide)).trans (fn rfl (by decide))))
        have hey174 : Fvy163 18 = F 18 := ((hFvy163 18 (by decide)).trans ((hFvy28 18 (by decide)).trans (fn rfl (by decide))))
        have hey175 : Fvy163 19 = F 19 := ((hFvy163 19 (by decide)).trans ((hFvy28 19 (by decide)).trans (fn rfl (by decide))))
        have hey176 : Fvy163 20 = F 20 := ((hFvy163 20 (by decide)).trans ((hFvy28 20 (by decide)).trans (fn rfl (by decide))))
        have hey177 : Fvy163 23 = F 23 := ((hFvy163 23 (by decide)).trans ((hFvy28 23 (by decide)).trans (fn rfl (by decide))))
        have hey178 : Fvy163 25 = F 25 := ((hFvy163 25 (by decide)).trans ((hFvy28 25 (by decide)).trans (fn rfl (by decide))))
        have hey179 : Fvy163 27 = F 27 := ((hFvy163 27 (by decide)).trans ((hFvy28 27 (by decide)).trans (fn rfl (by decide))))
        have hey180 : Fvy163 28 = F 28 := ((hFvy163 28 (by decide)).trans ((hFvy28 28 (by decide)).trans (fn rfl (by decide))))
        have hey181 : Fvy163 29 = F 29 := ((hFvy163 29 (by decide)).trans ((hFvy28 29 (by decide)).trans (fn rfl (by decide))))
        have hKy182 : okF Fvy163 := by unfold okF; omega
        have hMy183 : okMr cs ad gvy163 i (x + 1) Fvy163 r := okMr.upd hM hcvy163 hKy182 (fun f a => hFy168 f (by omega)) hgy167 (hA.mono (by omega)) (fun j a b => by
            exact Or.inl (by rw [hfvy163 _ (by omega)]; rw [hfvy28 _ (by omega)]; rw [egy25, va_up_ne _ _ (by omega)]))
        have h23 : Fvy163 23 = F 23 := ((hFvy163 23 (by decide)).trans ((hFvy28 23 (by decide)).trans (fn rfl (by decide))))
        exact z_iret C hr hlk dX10_years_35 (by decide) (by decide) ⟨0, rfl, rfl, rfl, by omega, ⟨_, _, hMy183, by omega⟩, fun j j1 => by rw [hfvy163 _ (by omega)]; rw [hfvy28 _ (by omega)]; rw [egy25, va_up_ne _ _ (by omega)]⟩
    · refine z_if_eq (tgt := 34) C dX10_years_16 (by decide) (by omega) (fun _ => ?_) (fun h => absurd h (by omega))
      refine z_iconst (z := 0) C dX10_years_34 rfl ?_
      have hgy184 := up_n egy25 ha1 (ne_o (i := i) (c := 1) (d := 0) rfl)
      have hgy185 := (hfvy28 (i + 1) (ne_o (i := i) (c := 1) (d := 0) rfl)).trans hgy184
      have hFy186 : ∀ f, f ≠ 12 → Fvy28 f = F f := fun f n12 => ((hFvy28 f n12).trans ((uZ_n _ _ n12).trans rfl))
      have hey187 : Fvy28 13 = F 13 := ((hFvy28 13 (by decide)).trans (fn rfl (by decide)))
      have hey188 : Fvy28 14 = F 14 := ((hFvy28 14 (by decide)).trans (fn rfl (by decide)))
      have hey189 : Fvy28 15 = F 15 := ((hFvy28 15 (by decide)).trans (fn rfl (by decide)))
      have hey190 : Fvy28 16 = F 16 := ((hFvy28 16 (by decide)).trans (fn rfl (by decide)))
      have hey191 : Fvy28 17 = F 17 := ((hFvy28 17 (by decide)).trans (fn rfl (by decide)))
      have hey192 : Fvy28 18 = F 18 := ((hFvy28 18 (by decide)).trans (fn rfl (by decide)))
      have hey193 : Fvy28 19 = F 19 := ((hFvy28 19 (by decide)).trans (fn rfl (by decide)))
      have hey194 : Fvy28 20 = F 20 := ((hFvy28 20 (by decide)).trans (fn rfl (by decide)))
      have hey195 : Fvy28 23 = F 23 := ((hFvy28 23 (by decide)).trans (fn rfl (by decide)))
      have hey196 : Fvy28 25 = F 25 := ((hFvy28 25 (by decide)).trans (fn rfl (by decide)))
      have hey197 : Fvy28 27 = F 27 := ((hFvy28 27 (by decide)).trans (fn rfl (by decide)))
      have hey198 : Fvy28 28 = F 28 := ((hFvy28 28 (by decide)).trans (fn rfl (by decide)))
      have hey199 : Fvy28 29 = F 29 := ((hFvy28 29 (by decide)).trans (fn rfl (by decide)))
      have hKy200 : okF Fvy28 := by unfold okF; omega
      have hMy201 : okMr cs ad gvy28 i (x + 1) Fvy28 r := okMr.upd hM hcvy28 hKy200 (fun f a => hFy186 f (by omega)) hgy185 (hA.mono (by omega)) (fun j a b => by
          exact Or.inl (by rw [hfvy28 _ (by omega)]; rw [egy25, va_up_ne _ _ (by omega)]))
      have h23 : Fvy28 23 = F 23 := ((hFvy28 23 (by decide)).trans (fn rfl (by decide)))
      exact z_iret C hr hlk dX10_years_35 (by decide) (by decide) ⟨0, rfl, rfl, rfl, by omega, ⟨_, _, hMy201, by omega⟩, fun j j1 => by rw [hfvy28 _ (by omega)]; rw [egy25, va_up_ne _ _ (by omega)]⟩
  · refine z_iconst (z := 1) C dX10_years_12 rfl ?_
    have hey203 : (uZ F 12 (0)) 12 = 0 := (uZ_s _ _ _)
    refine z_cV (As := [.int (zI (0)), .int (zI (1))]) (rest := []) (ci := 12) C (c_X10_right l D A cs tt N ad _ i hN _ hgy26 (by omega) (0) (by omega) (1) (by omega)) (by omega) hay1 hgy26 rfl rfl mv_yX10_right q_1648 hd_yX10_right (by decide) (Nat.le_of_ble_eq_true rfl) (by decide) dX10_years_13 rfl (kI0 fun vy202 gvy202 hvy202 => ?_)
    obtain ⟨hrvy202, ⟨Fvy202, hcvy202, htvy202, hFvy202⟩, hfvy202⟩ := hvy202
    obtain rfl : vy202 = 0 := by omega
    refine z_if_eq (tgt := 34) C dX10_years_16 (by decide) (by omega) (fun _ => ?_) (fun h => absurd h (by omega))
    refine z_iconst (z := 0) C dX10_years_34 rfl ?_
    have hgy204 := up_n egy25 ha1 (ne_o (i := i) (c := 1) (d := 0) rfl)
    have hgy205 := (hfvy202 (i + 1) (ne_o (i := i) (c := 1) (d := 0) rfl)).trans hgy204
    have hFy206 : ∀ f, f ≠ 12 → Fvy202 f = F f := fun f n12 => ((hFvy202 f n12).trans ((uZ_n _ _ n12).trans rfl))
    have hey207 : Fvy202 13 = F 13 := ((hFvy202 13 (by decide)).trans (fn rfl (by decide)))
    have hey208 : Fvy202 14 = F 14 := ((hFvy202 14 (by decide)).trans (fn rfl (by decide)))
    have hey209 : Fvy202 15 = F 15 := ((hFvy202 15 (by decide)).trans (fn rfl (by decide)))
    have hey210 : Fvy202 16 = F 16 := ((hFvy202 16 (by decide)).trans (fn rfl (by decide)))
    have hey211 : Fvy202 17 = F 17 := ((hFvy202 17 (by decide)).trans (fn rfl (by decide)))
    have hey212 : Fvy202 18 = F 18 := ((hFvy202 18 (by decide)).trans (fn rfl (by decide)))
    have hey213 : Fvy202 19 = F 19 := ((hFvy202 19 (by decide)).trans (fn rfl (by decide)))
    have hey214 : Fvy202 20 = F 20 := ((hFvy202 20 (by decide)).trans (fn rfl (by decide)))
    have hey215 : Fvy202 23 = F 23 := ((hFvy202 23 (by decide)).trans (fn rfl (by decide)))
    have hey216 : Fvy202 25 = F 25 := ((hFvy202 25 (by decide)).trans (fn rfl (by decide)))
    have hey217 : Fvy202 27 = F 27 := ((hFvy202 27 (by decide)).trans (fn rfl (by decide)))
    have hey218 : Fvy202 28 = F 28 := ((hFvy202 28 (by decide)).trans (fn rfl (by decide)))
    have hey219 : Fvy202 29 = F 29 := ((hFvy202 29 (by decide)).trans (fn rfl (by decide)))
    have hKy220 : okF Fvy202 := by unfold okF; omega
    have hMy221 : okMr cs ad gvy202 i (x + 1) Fvy202 r := okMr.upd hM hcvy202 hKy220 (fun f a => hFy206 f (by omega)) hgy205 (hA.mono (by omega)) (fun j a b => by
        exact Or.inl (by rw [hfvy202 _ (by omega)]; rw [egy25, va_up_ne _ _ (by omega)]))
    have h23 : Fvy202 23 = F 23 := ((hFvy202 23 (by decide)).trans (fn rfl (by decide)))
    exact z_iret C hr hlk dX10_years_35 (by decide) (by decide) ⟨0, rfl, rfl, rfl, by omega, ⟨_, _, hMy221, by omega⟩, fun j j1 => by rw [hfvy202 _ (by omega)]; rw [egy25, va_up_ne _ _ (by omega)]⟩

set_option maxRecDepth 100000 in
set_option maxHeartbeats 4000000 in
theorem c_X10_isNoted (l : Launch) (D : va_G) (A : Nat → Prop) (cs : Nat → ClassId) (tt : Nat) (N : Nat) (ad : Nat → Nat) (g : Nat → va_E) (i : Nat) (hN : i + 30 ≤ N) (x : Int) (hx : 0 ≤ x ∧ x ≤ 512) (F r : Nat → Int) (hM : okMr cs ad g i x F r) : zM l yX10_isNoted cX10_isNoted 4 (some .boolean) ({ frames := 10, cells := 0, slots := 0, locals := 600 } : Room) D A cs tt N ad g [.ref (ad i)] (rI0 N ad fun q g' => (0 ≤ q ∧ q ≤ 1) ∧ (∃ F' r' : Nat → Int, okMr cs ad g' i x F' r' ∧ (∀ f, F' f = F f)) ∧ ∀ j, j < i ∨ i + 30 ≤ j → g' j = g j) := by
  obtain ⟨hg, ⟨⟨e13, e14, e25, e27, e29⟩, k15, k16, k17, k18, k19, k20, k23⟩, hRD, hTx, hA, st, op, ai, fa, mu, tb, ns, nh, nd, rf, pi, tp, te, ki, li, ok1, ok2, fo, dd, dps, ⟨ha1, ha2, ha3, ha4, ha5, ha6, ha7, ha8, ha9, ha10, ha11, ha12, ha13, ha14, ha15, ha24, ha25, ha26, ha27, ha28, ha29⟩, hEv, hPt, hns, htp⟩ := id hM
  obtain ⟨-, hop, hai, hfa, hT, hT1⟩ := id hEv
  have hay1 : zAt ad (i) (ad i) := rfl
  have hay2 : zAt ad (i + 1) (ad (i + 1)) := rfl
  have hay3 : zAt ad (i + 2) (ad (i + 2)) := rfl
  have hay4 : zAt ad (i + 3) (ad (i + 3)) := rfl
  have hay5 : zAt ad (i + 4) (ad (i + 4)) := rfl
  have hay6 : zAt ad (i + 5) (ad (i + 5)) := rfl
  have hay7 : zAt ad (i + 6) (ad (i + 6)) := rfl
  have hay8 : zAt ad (i + 7) (ad (i + 7)) := rfl
  have hay9 : zAt ad (i + 8) (ad (i + 8)) := rfl
  have hay10 : zAt ad (i + 9) (ad (i + 9)) := rfl
  have hay11 : zAt ad (i + 10) (ad (i + 10)) := rfl
  have hay12 : zAt ad (i + 11) (ad (i + 11)) := rfl
  have hay13 : zAt ad (i + 12) (ad (i + 12)) := rfl
  have hay14 : zAt ad (i + 13) (ad (i + 13)) := rfl
  have hay15 : zAt ad (i + 14) (ad (i + 14)) := rfl
  have hay16 : zAt ad (i + 15) (ad (i + 15)) := rfl
  have hay17 : zAt ad (i + 24) (ad (i + 24)) := rfl
  have hay18 : zAt ad (i + 25) (ad (i + 25)) := rfl
  have hay19 : zAt ad (i + 26) (ad (i + 26)) := rfl
  have hay20 : zAt ad (i + 27) (ad (i + 27)) := rfl
  have hay21 : zAt ad (i + 28) (ad (i + 28)) := rfl
  have hay22 : zAt ad (i + 29) (ad (i + 29)) := rfl
  obtain ⟨⟨hsyy23, htyy23, hnyy23, hpyy23⟩, hlyy23⟩ := okA.at0 hA
  simp only [Nat.zero_add] at hsyy23 hnyy23 hpyy23
  have hmn : ∀ s, s < 4 → 0 ≤ r (6 + 86 * s) ∧ r (6 + 86 * s) ≤ 12 := fun s hs => (hsyy23 s hs).1
  have h5 : 0 ≤ r 5 ∧ r 5 ≤ 6 := hpyy23
  refine z_of (by decide) (Nat.le_of_ble_eq_true rfl) ?_
  intro pZ eZ sZ mZ below meth cZ C hr hlk hnm
  refine z_lv (lv' := [(0, .ref (ad i))]) [0] rfl ?_
  refine z_iconst (z := 1) C dX10_isNoted_0 rfl ?_
  refine z_istore_n (lv' := [(1, .int (zI (1))), (0, .ref (ad i))]) C dX10_isNoted_1 rfl (by decide) rfl ?_
  refine z_aload_n C 1 dX10_isNoted_2 rfl ?_
  refine z_cV (As := []) (rest := []) (ci := 12) C (c_X10_tries l D A cs tt N ad _ i hN _ hg _ ha1 (x) hA) (by omega) hay1 hg rfl rfl mv_yX10_tries q_1980 hd_yX10_tries (by decide) (Nat.le_of_ble_eq_true rfl) (by decide) dX10_isNoted_3 rfl (kV0 fun gvy24 hvy24 => ?_)
  obtain ⟨⟨rvy24, hdvy24, hAvy24, hWvy24, h0vy24, hyvy24⟩, hfvy24⟩ := hvy24
  obtain ⟨⟨hsyy25, htyy25, hnyy25, hpyy25⟩, hlyy25⟩ := okA.at0 hAvy24
  simp only [Nat.zero_add] at hsyy25 hnyy25 hpyy25
  have hmn : ∀ s, s < 4 → 0 ≤ rvy24 (6 + 86 * s) ∧ rvy24 (6 + 86 * s) ≤ 12 := fun s hs => (hsyy25 s hs).1
  have h5 : 0 ≤ rvy24 5 ∧ rvy24 5 ≤ 6 := hpyy25
  refine z_iconst (z := 0) C dX10_isNoted_6 rfl ?_
  refine z_istore_n (lv' := [(2, .int (zI (0))), (1, .int (zI (1))), (0, .ref (ad i))]) C dX10_isNoted_7 rfl (by decide) rfl ?_
  have lp1 : ∀ (n9 : Nat) (so : Int) (nn : Int) (F9 : Nat → Int) (r9 : Nat → Int) (g1 : Nat → va_E), (49 - nn).toNat = n9 → (okMr cs ad g1 i x F9 r9) → ((∀ f, F9 f = F f)) → (okW r9 350 (x)) → (∀ j, j < i ∨ i + 30 ≤ j → g1 j = g j) → (0 ≤ so ∧ so ≤ 1) → (0 ≤ nn ∧ nn ≤ 49) → (r9 350 ≤ 2000 + nn) → zV pZ l eZ ({ frames := 10, cells := 0, slots := 0, locals := 600 } : Room) sZ mZ ([.ref (ad i)] : List Value).toArray below meth cZ (MQ below (zPost D A (rI0 N ad fun q g' => (0 ≤ q ∧ q ≤ 1) ∧ (∃ F' r' : Nat → Int, okMr cs ad g' i x F' r' ∧ (∀ f, F' f = F f)) ∧ ∀ j, j < i ∨ i + 30 ≤ j → g' j = g j)) ([.ref (ad i)] : List Value).toArray sZ ({ frames := 10, cells := 0, slots := 0, locals := 600 } : Room).cells ({ frames := 10, cells := 0, slots := 0, locals := 600 } : Room).slots A) D A 4 (N) ad g1 (0) (0) 8 [(0, .ref (ad i)), (1, .int (zI (so))), (2, .int (zI (nn)))] [] := by
    intro n9
    induction n9 using Nat.strongRecOn with
    | ind n9 ih_lp1 =>
      intro so nn F9 r9 g1 hm9 fM fF fW f3 hvlp10 hvlp11 hvlp12
      obtain ⟨hg_y26, ⟨⟨e13_y26, e14_y26, e25_y26, e27_y26, e29_y26⟩, k15_y26, k16_y26, k17_y26, k18_y26, k19_y26, k20_y26, k23_y26⟩, hRD_y26, hTx_y26, hA_y26, st_y26, op_y26, ai_y26, fa_y26, mu_y26, tb_y26, ns_y26, nh_y26, nd_y26, rf_y26, pi_y26, tp_y26, te_y26, ki_y26, li_y26, ok1_y26, ok2_y26, fo_y26, dd_y26, dps_y26, ⟨ha1_y26, ha2_y26, ha3_y26, ha4_y26, ha5_y26, ha6_y26, ha7_y26, ha8_y26, ha9_y26, ha10_y26, ha11_y26, ha12_y26, ha13_y26, ha14_y26, ha15_y26, ha24_y26, ha25_y26, ha26_y26, ha27_y26, ha28_y26, ha29_y26⟩, hEv_y26, hPt_y26, hns_y26, htp_y26⟩ := id fM
      obtain ⟨-, hop_y26, hai_y26, hfa_y26, hT_y26, hT1_y26⟩ := id hEv_y26
      have e14 := e14_y26
      have e25 := e25_y26
      have e27 := e27_y26
      have e29 := e29_y26
      have hop := hop_y26
      have hai := hai_y26
      have hfa := hfa_y26
      have hT := hT_y26
      have hT1 := hT1_y26
      have hEv := hEv_y26
      have htp := htp_y26
      have hns := hns_y26
      have hPt := hPt_y26
      have hay27 : zAt ad (i) (ad i) := rfl
      have hay28 : zAt ad (i + 1) (ad (i + 1)) := rfl
      have hay29 : zAt ad (i + 2) (ad (i + 2)) := rfl
      have hay30 : zAt ad (i + 3) (ad (i + 3)) := rfl
      have hay31 : zAt ad (i + 4) (ad (i + 4)) := rfl
      have hay32 : zAt ad (i + 5) (ad (i + 5)) := rfl
      have hay33 : zAt ad (i + 6) (ad (i + 6)) := rfl
      have hay34 : zAt ad (i + 7) (ad (i + 7)) := rfl
      have hay35 : zAt ad (i + 8) (ad (i + 8)) := rfl
      have hay36 : zAt ad (i + 9) (ad (i + 9)) := rfl
      have hay37 : zAt ad (i + 10) (ad (i + 10)) := rfl
      have hay38 : zAt ad (i + 11) (ad (i + 11)) := rfl
      have hay39 : zAt ad (i + 12) (ad (i + 12)) := rfl
      have hay40 : zAt ad (i + 13) (ad (i + 13)) := rfl
      have hay41 : zAt ad (i + 14) (ad (i + 14)) := rfl
      have hay42 : zAt ad (i + 15) (ad (i + 15)) := rfl
      have hay43 : zAt ad (i + 24) (ad (i + 24)) := rfl
      have hay44 : zAt ad (i + 25) (ad (i + 25)) := rfl
      have hay45 : zAt ad (i + 26) (ad (i + 26)) := rfl
      have hay46 : zAt ad (i + 27) (ad (i + 27)) := rfl
      have hay47 : zAt ad (i + 28) (ad (i + 28)) := rfl
      have hay48 : zAt ad (i + 29) (ad (i + 29)) := rfl
      obtain ⟨⟨hsyy49, htyy49, hnyy49, hpyy49⟩, hlyy49⟩ := okA.at0 hA_y26
      simp only [Nat.zero_add] at hsyy49 hnyy49 hpyy49
      have hmn : ∀ s, s < 4 → 0 ≤ r9 (6 + 86 * s) ∧ r9 (6 + 86 * s) ≤ 12 := fun s hs => (hsyy49 s hs).1
      have h5 : 0 ≤ r9 5 ∧ r9 5 ≤ 6 := hpyy49
      have h13e : F9 13 = F 13 := fF 13
      have h14e : F9 14 = F 14 := fF 14
      have h17e : F9 17 = F 17 := fF 17
      have h23e : F9 23 = F 23 := fF 23
      have hW2 := fW.2.1
      have h17a : F9 17 = F 17 := fF 17
      refine z_iload_n C 2 dX10_isNoted_8 rfl ?_
      refine z_bipush (z := 48) C dX10_isNoted_9 (by decide) ?_
      refine z_icmp_gt (tgt := 123) C dX10_isNoted_11 (by decide) (by omega) (by omega) (fun hby50 => ?_) (fun hby50 => ?_)
      · refine z_iload_n C 1 dX10_isNoted_123 rfl ?_
        have hMy51 : okMr cs ad g1 i (x) F9 r9 := okMr.upd fM hg_y26 fM.2.1 (fun f _ => rfl) ha1_y26 (hA_y26.mono (by omega)) (fun j a b => by
            exact Or.inl (by rfl))
        exact z_zret C hr hlk dX10_isNoted_124 (nb01 (by omega)) (by decide) (by decide) ⟨so, rfl, rfl, rfl, by omega, ⟨_, _, hMy51, fun f  => (fF f )⟩, fun j j1 => by exact f3 j j1⟩
      · refine z_iconst (z := 0) C dX10_isNoted_14 rfl ?_
        refine z_istore_n (lv' := [(3, .int (zI (0))), (0, .ref (ad i)), (1, .int (zI (so))), (2, .int (zI (nn)))]) C dX10_isNoted_15 rfl (by decide) rfl ?_
        have lp2 : ∀ (n9 : Nat) (so : Int) (ii : Int) (F9b : Nat → Int) (r9b : Nat → Int) (g1 : Nat → va_E), (9 - ii).toNat = n9 → (okMr cs ad g1 i x F9b r9b) → ((∀ f, F9b f = F f)) → (okW r9b 350 (x)) → (∀ j, j < i ∨ i + 30 ≤ j → g1 j = g j) → (0 ≤ so ∧ so ≤ 1) → (0 ≤ ii ∧ ii ≤ F 17) → (r9b 350 ≤ 2000 + nn) → zV pZ l eZ ({ frames := 10, cells := 0, slots := 0, locals := 600 } : Room) sZ mZ ([.ref (ad i)] : List Value).toArray below meth cZ (MQ below (zPost D A (rI0 N ad fun q g' => (0 ≤ q ∧ q ≤ 1) ∧ (∃ F' r' : Nat → Int, okMr cs ad g' i x F' r' ∧ (∀ f, F' f = F f)) ∧ ∀ j, j < i ∨ i + 30 ≤ j → g' j = g j)) ([.ref (ad i)] : List Value).toArray sZ ({ frames := 10, cells := 0, slots := 0, locals := 600 } : Room).cells ({ frames := 10, cells := 0, slots := 0, locals := 600 } : Room).slots A) D A 4 (N) ad g1 (0) (0) 16 [(0, .ref (ad i)), (1, .int (zI (so))), (2, .int (zI (nn))), (3, .int (zI (ii)))] [] := by
          intro n9
          induction n9 using Nat.strongRecOn with
          | ind n9 ih_lp2 =>
            intro so ii F9b r9b g1 hm9 fMb fFb fWb f3 hvlp20 hvlp21 hvlp22
            obtain ⟨hg_y52, ⟨⟨e13_y52, e14_y52, e25_y52, e27_y52, e29_y52⟩, k15_y52, k16_y52, k17_y52, k18_y52, k19_y52, k20_y52, k23_y52⟩, hRD_y52, hTx_y52, hA_y52, st_y52, op_y52, ai_y52, fa_y52, mu_y52, tb_y52, ns_y52, nh_y52, nd_y52, rf_y52, pi_y52, tp_y52, te_y52, ki_y52, li_y52, ok1_y52, ok2_y52, fo_y52, dd_y52, dps_y52, ⟨ha1_y52, ha2_y52, ha3_y52, ha4_y52, ha5_y52, ha6_y52, ha7_y52, ha8_y52, ha9_y52, ha10_y52, ha11_y52, ha12_y52, ha13_y52, ha14_y52, ha15_y52, ha24_y52, ha25_y52, ha26_y52, ha27_y52, ha28_y52, ha29_y52⟩, hEv_y52, hPt_y52, hns_y52, htp_y52⟩ := id fMb
            obtain ⟨-, hop_y52, hai_y52, hfa_y52, hT_y52, hT1_y52⟩ := id hEv_y52
            have e14 := e14_y52
            have e25 := e25_y52
            have e27 := e27_y52
            have e29 := e29_y52
            have hop := hop_y52
            have hai := hai_y52
            have hfa := hfa_y52
            have hT := hT_y52
            have hT1 := hT1_y52
            have hEv := hEv_y52
            have htp := htp_y52
            have hns := hns_y52
            have hPt := hPt_y52
            have hay53 : zAt ad (i) (ad i) := rfl
            have hay54 : zAt ad (i + 1) (ad (i + 1)) := rfl
            have hay55 : zAt ad (i + 2) (ad (i + 2)) := rfl
            have hay56 : zAt ad (i + 3) (ad (i + 3)) := rfl
            have hay57 : zAt ad (i + 4) (ad (i + 4)) := rfl
            have hay58 : zAt ad (i + 5) (ad (i + 5)) := rfl
            have hay59 : zAt ad (i + 6) (ad (i + 6)) := rfl
            have hay60 : zAt ad (i + 7) (ad (i + 7)) := rfl
            have hay61 : zAt ad (i + 8) (ad (i + 8)) := rfl
            have hay62 : zAt ad (i + 9) (ad (i + 9)) := rfl
            have hay63 : zAt ad (i + 10) (ad (i + 10)) := rfl
            have hay64 : zAt ad (i + 11) (ad (i + 11)) := rfl
            have hay65 : zAt ad (i + 12) (ad (i + 12)) := rfl
            have hay66 : zAt ad (i + 13) (ad (i + 13)) := rfl
            have hay67 : zAt ad (i + 14) (ad (i + 14)) := rfl
            have hay68 : zAt ad (i + 15) (ad (i + 15)) := rfl
            have hay69 : zAt ad (i + 24) (ad (i + 24)) := rfl
            have hay70 : zAt ad (i + 25) (ad (i + 25)) := rfl
            have hay71 : zAt ad (i + 26) (ad (i + 26)) := rfl
            have hay72 : zAt ad (i + 27) (ad (i + 27)) := rfl
            have hay73 : zAt ad (i + 28) (ad (i + 28)) := rfl
            have hay74 : zAt ad (i + 29) (ad (i + 29)) := rfl
            obtain ⟨⟨hsyy75, htyy75, hnyy75, hpyy75⟩, hlyy75⟩ := okA.at0 hA_y52
            simp only [Nat.zero_add] at hsyy75 hnyy75 hpyy75
            have hmn : ∀ s, s < 4 → 0 ≤ r9b (6 + 86 * s) ∧ r9b (6 + 86 * s) ≤ 12 := fun s hs => (hsyy75 s hs).1
            have h5 : 0 ≤ r9b 5 ∧ r9b 5 ≤ 6 := hpyy75
            have h13be : F9b 13 = F 13 := fFb 13
            have h14be : F9b 14 = F 14 := fFb 14
            have h17be : F9b 17 = F 17 := fFb 17
            have h23be : F9b 23 = F 23 := fFb 23
            have hW2b := fWb.2.1
            have h17b : F9b 17 = F 17 := fFb 17
            refine z_iload_n C 3 dX10_isNoted_16 rfl ?_
            refine z_aload_n C 0 dX10_isNoted_17 rfl ?_
            refine z_get (v := .int (zI (F9b 17))) C (by omega) hay53 hg_y52 rfl inA_X10 17 (by decide) q_1476 rfl (fv (F := F9b) (f := 17) rfl) dX10_isNoted_18 ?_
            refine z_icmp_ge (tgt := 73) C dX10_isNoted_21 (by decide) (by omega) (by omega) (fun hby76 => ?_) (fun hby76 => ?_)
            · refine z_iload_n C 2 dX10_isNoted_73 rfl ?_
              refine z_bipush (z := 24) C dX10_isNoted_74 (by decide) ?_
              refine z_icmp_ne (tgt := 110) C dX10_isNoted_76 (by decide) (by omega) (by omega) (fun hby77 => ?_) (fun hby77 => ?_)
              · refine z_aload_n C 0 dX10_isNoted_110 rfl ?_
                refine z_sipush (z := 350) C dX10_isNoted_111 (by decide) ?_
                have hey79 : F9b 13 = F9b 13 := rfl
                have hey80 : F9b 14 = F9b 14 := rfl
                have hey81 : F9b 25 = F9b 25 := rfl
                have hey82 : F9b 27 = F9b 27 := rfl
                have hey83 : F9b 28 = F9b 28 := rfl
                have hey84 : F9b 29 = F9b 29 := rfl
                have hEvy78 : okEnv F9b _ _ _ _ _ := ⟨by omega, hop, hai, hfa, hT, hT1⟩
                refine z_cV (As := [.int (zI (350))]) (rest := []) (ci := 12) C (c_X10_hour l D A cs tt N ad _ i hN _ hg_y52 _ ha1_y52 _ ha3_y52 _ ha4_y52 _ ha5_y52 _ ha6_y52 _ ha7_y52 _ ha14_y52 _ ha15_y52 350 (by omega) hEvy78 (x) (by omega) fWb (by omega) (by omega)) (by omega) hay53 hg_y52 rfl rfl mv_yX10_hour q_1885 hd_yX10_hour (by decide) (Nat.le_of_ble_eq_true rfl) (by decide) dX10_isNoted_114 rfl (kV0 fun gvy85 hvy85 => ?_)
                obtain ⟨⟨rvy85, hcvy85, hwvy85, htvy85, hyvy85⟩, ⟨t4vy85, h4vy85⟩, ⟨t5vy85, h5vy85⟩, hfvy85⟩ := hvy85
                have hAy86 : okA rvy85 (x) := okA.tried hA_y52 (fun j a => hyvy85 j (by omega))
                obtain ⟨⟨hsyy87, htyy87, hnyy87, hpyy87⟩, hlyy87⟩ := okA.at0 hAy86
                simp only [Nat.zero_add] at hsyy87 hnyy87 hpyy87
                have hmn : ∀ s, s < 4 → 0 ≤ rvy85 (6 + 86 * s) ∧ rvy85 (6 + 86 * s) ≤ 12 := fun s hs => (hsyy87 s hs).1
                have h5 : 0 ≤ rvy85 5 ∧ rvy85 5 ≤ 6 := hpyy87
                refine z_iinc (z := nn + 1) (lv' := [(2, .int (zI (nn + 1))), (0, .ref (ad i)), (1, .int (zI (so))), (3, .int (zI (ii)))]) (j := 2) C dX10_isNoted_117 rfl rfl (by decide) rfl ?_
                refine z_goto (tgt := 8) C dX10_isNoted_120 (by decide) ?_
                have hgy88 := (hfvy85 (i) (ne_o (i := i) (c := 0) (d := 1) rfl) (ne_o (i := i) (c := 0) (d := 14) rfl) (ne_o (i := i) (c := 0) (d := 15) rfl)).trans hg_y52
                have hMy89 : okMr cs ad gvy85 i (x) F9b rvy85 := okMr.upd fMb hgy88 fMb.2.1 (fun f _ => rfl) hcvy85 (hAy86.mono (by omega)) (fun j a b => by
                    by_cases e0 : j = i + 14
                    · exact Or.inr ⟨14, _, e0, lsP.l (by decide), by rw [e0]; exact h4vy85⟩
                    by_cases e1 : j = i + 15
                    · exact Or.inr ⟨15, _, e1, lsP.l (by decide), by rw [e1]; exact h5vy85⟩
                    exact Or.inl (by rw [hfvy85 _ (by omega) (by omega) (by omega)]))
                have hFF : (∀ f, F9b f = F f) := fun f  => fFb f 
                have hey90 : F9b 13 = F9b 13 := rfl
                have hey91 : F9b 14 = F9b 14 := rfl
                refine z_lv (lv' := [(0, .ref (ad i)), (1, .int (zI (so))), (2, .int (zI (nn + 1)))]) [1, 2, 0] rfl ?_
                exact ih_lp1 _ (by omega) (so) (nn + 1) _ _ gvy85 rfl hMy89 hFF hwvy85 (fun j j1 => by rw [hfvy85 _ (by omega) (by omega) (by omega)]; exact f3 j j1) (by omega) (by omega) (by omega)
              · refine z_iconst (z := 0) C dX10_isNoted_79 rfl ?_
                refine z_istore_n (lv' := [(3, .int (zI (0))), (0, .ref (ad i)), (1, .int (zI (so))), (2, .int (zI (nn)))]) C dX10_isNoted_80 rfl (by decide) rfl ?_
                have lp3 : ∀ (n9 : Nat) (ss : Int) (F9c : Nat → Int) (r9c : Nat → Int) (g1 : Nat → va_E), (5 - ss).toNat = n9 → (okMr cs ad g1 i x F9c r9c) → ((∀ f, F9c f = F f)) → (okW r9c 350 (x)) → (∀ j, j < i ∨ i + 30 ≤ j → g1 j = g j) → (0 ≤ ss ∧ ss ≤ F 13) → (r9c 350 ≤ 2000 + nn) → (0 ≤ so ∧ so ≤ 1) → zV pZ l eZ ({ frames := 10, cells := 0, slots := 0, locals := 600 } : Room) sZ mZ ([.ref (ad i)] : List Value).toArray below meth cZ (MQ below (zPost D A (rI0 N ad fun q g' => (0 ≤ q ∧ q ≤ 1) ∧ (∃ F' r' : Nat → Int, okMr cs ad g' i x F' r' ∧ (∀ f, F' f = F f)) ∧ ∀ j, j < i ∨ i + 30 ≤ j → g' j = g j)) ([.ref (ad i)] : List Value).toArray sZ ({ frames := 10, cells := 0, slots := 0, locals := 600 } : Room).cells ({ frames := 10, cells := 0, slots := 0, locals := 600 } : Room).slots A) D A 4 (N) ad g1 (0) (0) 81 [(0, .ref (ad i)), (1, .int (zI (so))), (2, .int (zI (nn))), (3, .int (zI (ss)))] [] := by
                  intro n9
                  induction n9 using Nat.strongRecOn with
                  | ind n9 ih_lp3 =>
                    intro ss F9c r9c g1 hm9 fMc fFc fWc f3 hvlp30 hvlp31 hvlp32
                    obtain ⟨hg_y92, ⟨⟨e13_y92, e14_y92, e25_y92, e27_y92, e29_y92⟩, k15_y92, k16_y92, k17_y92, k18_y92, k19_y92, k20_y92, k23_y92⟩, hRD_y92, hTx_y92, hA_y92, st_y92, op_y92, ai_y92, fa_y92, mu_y92, tb_y92, ns_y92, nh_y92, nd_y92, rf_y92, pi_y92, tp_y92, te_y92, ki_y92, li_y92, ok1_y92, ok2_y92, fo_y92, dd_y92, dps_y92, ⟨ha1_y92, ha2_y92, ha3_y92, ha4_y92, ha5_y92, ha6_y92, ha7_y92, ha8_y92, ha9_y92, ha10_y92, ha11_y92, ha12_y92, ha13_y92, ha14_y92, ha15_y92, ha24_y92, ha25_y92, ha26_y92, ha27_y92, ha28_y92, ha29_y92⟩, hEv_y92, hPt_y92, hns_y92, htp_y92⟩ := id fMc
                    obtain ⟨-, hop_y92, hai_y92, hfa_y92, hT_y92, hT1_y92⟩ := id hEv_y92
                    have e14 := e14_y92
                    have e25 := e25_y92
                    have e27 := e27_y92
                    have e29 := e29_y92
                    have hop := hop_y92
                    have hai := hai_y92
                    have hfa := hfa_y92
                    have hT := hT_y92
                    have hT1 := hT1_y92
                    have hEv := hEv_y92
                    have htp := htp_y92
                    have hns := hns_y92
                    have hPt := hPt_y92
                    have hay93 : zAt ad (i) (ad i) := rfl
                    have hay94 : zAt ad (i + 1) (ad (i + 1)) := rfl
                    have hay95 : zAt ad (i + 2) (ad (i + 2)) := rfl
                    have hay96 : zAt ad (i + 3) (ad (i + 3)) := rfl
                    have hay97 : zAt ad (i + 4) (ad (i + 4)) := rfl
                    have hay98 : zAt ad (i + 5) (ad (i + 5)) := rfl
                    have hay99 : zAt ad (i + 6) (ad (i + 6)) := rfl
                    have hay100 : zAt ad (i + 7) (ad (i + 7)) := rfl
                    have hay101 : zAt ad (i + 8) (ad (i + 8)) := rfl
                    have hay102 : zAt ad (i + 9) (ad (i + 9)) := rfl
                    have hay103 : zAt ad (i + 10) (ad (i + 10)) := rfl
                    have hay104 : zAt ad (i + 11) (ad (i + 11)) := rfl
                    have hay105 : zAt ad (i + 12) (ad (i + 12)) := rfl
                    have hay106 : zAt ad (i + 13) (ad (i + 13)) := rfl
                    have hay107 : zAt ad (i + 14) (ad (i + 14)) := rfl
                    have hay108 : zAt ad (i + 15) (ad (i + 15)) := rfl
                    have hay109 : zAt ad (i + 24) (ad (i + 24)) := rfl
                    have hay110 : zAt ad (i + 25) (ad (i + 25)) := rfl
                    have hay111 : zAt ad (i + 26) (ad (i + 26)) := rfl
                    have hay112 : zAt ad (i + 27) (ad (i + 27)) := rfl
                    have hay113 : zAt ad (i + 28) (ad (i + 28)) := rfl
                    have hay114 : zAt ad (i + 29) (ad (i + 29)) := rfl
                    obtain ⟨⟨hsyy115, htyy115, hnyy115, hpyy115⟩, hlyy115⟩ := okA.at0 hA_y92
                    simp only [Nat.zero_add] at hsyy115 hnyy115 hpyy115
                    have hmn : ∀ s, s < 4 → 0 ≤ r9c (6 + 86 * s) ∧ r9c (6 + 86 * s) ≤ 12 := fun s hs => (hsyy115 s hs).1
                    have h5 : 0 ≤ r9c 5 ∧ r9c 5 ≤ 6 := hpyy115
                    have h13ce : F9c 13 = F 13 := fFc 13
                    have h14ce : F9c 14 = F 14 := fFc 14
                    have h17ce : F9c 17 = F 17 := fFc 17
                    have h23ce : F9c 23 = F 23 := fFc 23
                    have hW2c := fWc.2.1
                    refine z_iload_n C 3 dX10_isNoted_81 rfl ?_
                    refine z_aload_n C 0 dX10_isNoted_82 rfl ?_
                    refine z_get (v := .int (zI (F9c 13))) C (by omega) hay93 hg_y92 rfl inA_X10 13 (by decide) q_1472 rfl (fv (F := F9c) (f := 13) rfl) dX10_isNoted_83 ?_
                    refine z_icmp_ge (tgt := 110) C dX10_isNoted_86 (by decide) (by omega) (by omega) (fun hby116 => ?_) (fun hby116 => ?_)
                    · refine z_aload_n C 0 dX10_isNoted_110 rfl ?_
                      refine z_sipush (z := 350) C dX10_isNoted_111 (by decide) ?_
                      have hey118 : F9c 13 = F9c 13 := rfl
                      have hey119 : F9c 14 = F9c 14 := rfl
                      have hey120 : F9c 25 = F9c 25 := rfl
                      have hey121 : F9c 27 = F9c 27 := rfl
                      have hey122 : F9c 28 = F9c 28 := rfl
                      have hey123 : F9c 29 = F9c 29 := rfl
                      have hEvy117 : okEnv F9c _ _ _ _ _ := ⟨by omega, hop, hai, hfa, hT, hT1⟩
                      refine z_cV (As := [.int (zI (350))]) (rest := []) (ci := 12) C (c_X10_hour l D A cs tt N ad _ i hN _ hg_y92 _ ha1_y92 _ ha3_y92 _ ha4_y92 _ ha5_y92 _ ha6_y92 _ ha7_y92 _ ha14_y92 _ ha15_y92 350 (by omega) hEvy117 (x) (by omega) fWc (by omega) (by omega)) (by omega) hay93 hg_y92 rfl rfl mv_yX10_hour q_1885 hd_yX10_hour (by decide) (Nat.le_of_ble_eq_true rfl) (by decide) dX10_isNoted_114 rfl (kV0 fun gvy124 hvy124 => ?_)
                      obtain ⟨⟨rvy124, hcvy124, hwvy124, htvy124, hyvy124⟩, ⟨t4vy124, h4vy124⟩, ⟨t5vy124, h5vy124⟩, hfvy124⟩ := hvy124
                      have hAy125 : okA rvy124 (x) := okA.tried hA_y92 (fun j a => hyvy124 j (by omega))
                      obtain ⟨⟨hsyy126, htyy126, hnyy126, hpyy126⟩, hlyy126⟩ := okA.at0 hAy125
                      simp only [Nat.zero_add] at hsyy126 hnyy126 hpyy126
                      have hmn : ∀ s, s < 4 → 0 ≤ rvy124 (6 + 86 * s) ∧ rvy124 (6 + 86 * s) ≤ 12 := fun s hs => (hsyy126 s hs).1
                      have h5 : 0 ≤ rvy124 5 ∧ rvy124 5 ≤ 6 := hpyy126
                      refine z_iinc (z := nn + 1) (lv' := [(2, .int (zI (nn + 1))), (0, .ref (ad i)), (1, .int (zI (so))), (3, .int (zI (ss)))]) (j := 2) C dX10_isNoted_117 rfl rfl (by decide) rfl ?_
                      refine z_goto (tgt := 8) C dX10_isNoted_120 (by decide) ?_
                      have hgy127 := (hfvy124 (i) (ne_o (i := i) (c := 0) (d := 1) rfl) (ne_o (i := i) (c := 0) (d := 14) rfl) (ne_o (i := i) (c := 0) (d := 15) rfl)).trans hg_y92
                      have hMy128 : okMr cs ad gvy124 i (x) F9c rvy124 := okMr.upd fMc hgy127 fMc.2.1 (fun f _ => rfl) hcvy124 (hAy125.mono (by omega)) (fun j a b => by
                          by_cases e0 : j = i + 14
                          · exact Or.inr ⟨14, _, e0, lsP.l (by decide), by rw [e0]; exact h4vy124⟩
                          by_cases e1 : j = i + 15
                          · exact Or.inr ⟨15, _, e1, lsP.l (by decide), by rw [e1]; exact h5vy124⟩
                          exact Or.inl (by rw [hfvy124 _ (by omega) (by omega) (by omega)]))
                      have hFF : (∀ f, F9c f = F f) := fun f  => fFc f 
                      have hey129 : F9c 13 = F9c 13 := rfl
                      have hey130 : F9c 14 = F9c 14 := rfl
                      refine z_lv (lv' := [(0, .ref (ad i)), (1, .int (zI (so))), (2, .int (zI (nn + 1)))]) [1, 2, 0] rfl ?_
                      exact ih_lp1 _ (by omega) (so) (nn + 1) _ _ gvy124 rfl hMy128 hFF hwvy124 (fun j j1 => by rw [hfvy124 _ (by omega) (by omega) (by omega)]; exact f3 j j1) (by omega) (by omega) (by omega)
                    · refine z_aload_n C 0 dX10_isNoted_89 rfl ?_
                      refine z_get (v := .ref (ad (i + 28))) C (by omega) hay93 hg_y92 rfl inA_X10 57 (by decide) q_1516 rfl rfl dX10_isNoted_90 ?_
                      refine z_iload_n C 3 dX10_isNoted_93 rfl ?_
                      refine z_aload_n C 0 dX10_isNoted_94 rfl ?_
                      refine z_sipush (z := 350) C dX10_isNoted_95 (by decide) ?_
                      refine z_iload_n C 3 dX10_isNoted_98 rfl ?_
                      refine z_iconst (z := 3) C dX10_isNoted_99 rfl ?_
                      obtain ⟨ny131, hny131⟩ : ∃ n9 : Nat, ss = (n9 : Int) := ⟨(ss).toNat, by omega⟩
                      rw [hny131]
                      obtain ⟨py132, hpy132⟩ : ∃ p9 : Nat, 350 + 6 + 86 * ny131 = p9 := ⟨_, rfl⟩
                      have hqy134 : qS r9c py132 := ((fWc.1 ny131 (by omega)).of (p2 := py132) (by omega)).q (by have hb9 := mBb (t := r9c 350 + x) (by omega); omega)
                      have hmky135 := hqy134.1
                      refine z_cV (As := [.int (zI (350)), .int (zI ((ny131 : Int))), .int (zI (3))]) (rest := [.int (zI ((ny131 : Int))), .ref (ad (i + 28))]) (ci := 12) C (c_X10_sumA l D A cs tt N ad _ i hN _ hg_y92 _ ha1_y92 350 ny131 py132 hpy132 (by omega) (by omega) hqy134 3 (by omega)) (by omega) hay93 hg_y92 rfl rfl mv_yX10_sum q_1745 hd_yX10_sum (by decide) (Nat.le_of_ble_eq_true rfl) (by decide) dX10_isNoted_100 rfl (kI0 fun vy133 gvy133 hvy133 => ?_)
                      obtain ⟨hvy133, rfl⟩ := hvy133
                      refine z_iast C (by omega) hay113 ha28_y92 (ny131) (by omega) (by omega) (by decide) dX10_isNoted_103 (fun gy136 egy137 => ?_)
                      have hgy138 := up_s egy137
                      refine z_iinc (z := (ny131 : Int) + 1) (lv' := [(3, .int (zI ((ny131 : Int) + 1))), (0, .ref (ad i)), (1, .int (zI (so))), (2, .int (zI (nn)))]) (j := 3) C dX10_isNoted_104 rfl rfl (by decide) rfl ?_
                      refine z_goto (tgt := 81) C dX10_isNoted_107 (by decide) ?_
                      have hgy139 := up_n egy137 hg_y92 (ne_o (i := i) (c := 0) (d := 28) rfl)
                      have hgy140 := up_n egy137 ha1_y92 (ne_o (i := i) (c := 1) (d := 28) rfl)
                      have hMy141 : okMr cs ad gy136 i (x) F9c r9c := okMr.upd fMc hgy139 fMc.2.1 (fun f _ => rfl) hgy140 (hA_y92.mono (by omega)) (fun j a b => by
                          by_cases e0 : j = i + 28
                          · exact Or.inr ⟨28, _, e0, lsP.l (by decide), by rw [e0]; exact hgy138⟩
                          exact Or.inl (by rw [egy137, va_up_ne _ _ (by omega)]))
                      have hFFc : (∀ f, F9c f = F f) := fun f  => fFc f 
                      have hey142 : F9c 13 = F9c 13 := rfl
                      have hey143 : F9c 14 = F9c 14 := rfl
                      refine z_lv (lv' := [(0, .ref (ad i)), (1, .int (zI (so))), (2, .int (zI (nn))), (3, .int (zI ((ny131 : Int) + 1)))]) [1, 2, 3, 0] rfl ?_
                      exact ih_lp3 _ (by omega) ((ny131 : Int) + 1) _ _ gy136 rfl hMy141 hFFc fWc (fun j j1 => by rw [egy137, va_up_ne _ _ (by omega)]; exact f3 j j1) (by omega) (by omega) (by omega)
                have hMy144 : okMr cs ad g1 i (x) F9b r9b := okMr.upd fMb hg_y52 fMb.2.1 (fun f _ => rfl) ha1_y52 (hA_y52.mono (by omega)) (fun j a b => by
                    exact Or.inl (by rfl))
                have hFFc : (∀ f, F9b f = F f) := fun f  => fFb f 
                have hey145 : F9b 13 = F9b 13 := rfl
                have hey146 : F9b 14 = F9b 14 := rfl
                refine z_lv (lv' := [(0, .ref (ad i)), (1, .int (zI (so))), (2, .int (zI (nn))), (3, .int (zI (0)))]) [1, 2, 3, 0] rfl ?_
                exact lp3 _ (0) _ _ g1 rfl hMy144 hFFc fWb (fun j j1 => by exact f3 j j1) (by omega) (by omega) (by omega)
            · refine z_iload_n C 1 dX10_isNoted_24 rfl ?_
              refine z_if_eq (tgt := 65) C dX10_isNoted_25 (by decide) (by omega) (fun hby147 => ?_) (fun hby147 => ?_)
              · refine z_iconst (z := 0) C dX10_isNoted_65 rfl ?_
                refine z_istore_n (lv' := [(1, .int (zI (0))), (0, .ref (ad i)), (2, .int (zI (nn))), (3, .int (zI (ii)))]) C dX10_isNoted_66 rfl (by decide) rfl ?_
                refine z_iinc (z := ii + 1) (lv' := [(3, .int (zI (ii + 1))), (1, .int (zI (0))), (0, .ref (ad i)), (2, .int (zI (nn)))]) (j := 3) C dX10_isNoted_67 rfl rfl (by decide) rfl ?_
                refine z_goto (tgt := 16) C dX10_isNoted_70 (by decide) ?_
                have hMy148 : okMr cs ad g1 i (x) F9b r9b := okMr.upd fMb hg_y52 fMb.2.1 (fun f _ => rfl) ha1_y52 (hA_y52.mono (by omega)) (fun j a b => by
                    exact Or.inl (by rfl))
                have hFFb : (∀ f, F9b f = F f) := fun f  => fFb f 
                have hey149 : F9b 13 = F9b 13 := rfl
                have hey150 : F9b 14 = F9b 14 := rfl
                refine z_lv (lv' := [(0, .ref (ad i)), (1, .int (zI (0))), (2, .int (zI (nn))), (3, .int (zI (ii + 1)))]) [2, 1, 3, 0] rfl ?_
                exact ih_lp2 _ (by omega) (0) (ii + 1) _ _ g1 rfl hMy148 hFFb fWb (fun j j1 => by exact f3 j j1) (by omega) (by omega) (by omega)
              · refine z_aload_n C 0 dX10_isNoted_28 rfl ?_
                refine z_get (v := .ref (ad (i + 9))) C (by omega) hay53 hg_y52 rfl inA_X10 8 (by decide) q_1467 rfl rfl dX10_isNoted_29 ?_
                refine z_iload_n C 3 dX10_isNoted_32 rfl ?_
                refine z_iald C (by omega) hay62 ha9_y52 ((ii).toNat) (by omega) (by omega) (by decide) dX10_isNoted_33 ?_
                refine z_iload_n C 2 dX10_isNoted_34 rfl ?_
                obtain ⟨xy151, exy152, hxy153⟩ := zI_of (zI (nh_y52 ((ii).toNat)))
                rw [exy152]
                refine z_icmp_ne (tgt := 61) C dX10_isNoted_35 (by decide) (by omega) (by omega) (fun hby154 => ?_) (fun hby154 => ?_)
                · refine z_iconst (z := 1) C dX10_isNoted_61 rfl ?_
                  refine z_goto (tgt := 66) C dX10_isNoted_62 (by decide) ?_
                  refine z_istore_n (lv' := [(1, .int (zI (1))), (0, .ref (ad i)), (2, .int (zI (nn))), (3, .int (zI (ii)))]) C dX10_isNoted_66 rfl (by decide) rfl ?_
                  refine z_iinc (z := ii + 1) (lv' := [(3, .int (zI (ii + 1))), (1, .int (zI (1))), (0, .ref (ad i)), (2, .int (zI (nn)))]) (j := 3) C dX10_isNoted_67 rfl rfl (by decide) rfl ?_
                  refine z_goto (tgt := 16) C dX10_isNoted_70 (by decide) ?_
                  have hMy155 : okMr cs ad g1 i (x) F9b r9b := okMr.upd fMb hg_y52 fMb.2.1 (fun f _ => rfl) ha1_y52 (hA_y52.mono (by omega)) (fun j a b => by
                      exact Or.inl (by rfl))
                  have hFFb : (∀ f, F9b f = F f) := fun f  => fFb f 
                  have hey156 : F9b 13 = F9b 13 := rfl
                  have hey157 : F9b 14 = F9b 14 := rfl
                  refine z_lv (lv' := [(0, .ref (ad i)), (1, .int (zI (1))), (2, .int (zI (nn))), (3, .int (zI (ii + 1)))]) [2, 1, 3, 0] rfl ?_
                  exact ih_lp2 _ (by omega) (1) (ii + 1) _ _ g1 rfl hMy155 hFFb fWb (fun j j1 => by exact f3 j j1) (by omega) (by omega) (by omega)
                · refine z_aload_n C 0 dX10_isNoted_38 rfl ?_
                  refine z_sipush (z := 350) C dX10_isNoted_39 (by decide) ?_
                  refine z_aload_n C 0 dX10_isNoted_42 rfl ?_
                  refine z_get (v := .ref (ad (i + 8))) C (by omega) hay53 hg_y52 rfl inA_X10 7 (by decide) q_1466 rfl rfl dX10_isNoted_43 ?_
                  refine z_iload_n C 3 dX10_isNoted_46 rfl ?_
                  refine z_iald C (by omega) hay61 ha8_y52 ((ii).toNat) (by omega) (by omega) (by decide) dX10_isNoted_47 ?_
                  have hrfy158 := hns_y52 ((ii).toNat) (by omega)
                  refine z_iconst (z := 3) C dX10_isNoted_48 rfl ?_
                  obtain ⟨ny159, hny159⟩ : ∃ n9 : Nat, ns_y52 ((ii).toNat) = (n9 : Int) := ⟨(ns_y52 ((ii).toNat)).toNat, by omega⟩
                  rw [hny159]
                  obtain ⟨py160, hpy160⟩ : ∃ p9 : Nat, 350 + 6 + 86 * ny159 = p9 := ⟨_, rfl⟩
                  have hqy162 : qS r9b py160 := ((fWb.1 ny159 (by omega)).of (p2 := py160) (by omega)).q (by have hb9 := mBb (t := r9b 350 + x) (by omega); omega)
                  have hmky163 := hqy162.1
                  refine z_cV (As := [.int (zI (350)), .int (zI ((ny159 : Int))), .int (zI (3))]) (rest := []) (ci := 12) C (c_X10_sumA l D A cs tt N ad _ i hN _ hg_y52 _ ha1_y52 350 ny159 py160 hpy160 (by omega) (by omega) hqy162 3 (by omega)) (by omega) hay53 hg_y52 rfl rfl mv_yX10_sum q_1745 hd_yX10_sum (by decide) (Nat.le_of_ble_eq_true rfl) (by decide) dX10_isNoted_49 rfl (kI0 fun vy161 gvy161 hvy161 => ?_)
                  obtain ⟨hvy161, rfl⟩ := hvy161
                  refine z_aload_n C 0 dX10_isNoted_52 rfl ?_
                  refine z_get (v := .ref (ad (i + 10))) C (by omega) hay53 hg_y52 rfl inA_X10 9 (by decide) q_1468 rfl rfl dX10_isNoted_53 ?_
                  refine z_iload_n C 3 dX10_isNoted_56 rfl ?_
                  refine z_iald C (by omega) hay63 ha10_y52 ((ii).toNat) (by omega) (by omega) (by decide) dX10_isNoted_57 ?_
                  obtain ⟨xy164, exy165, hxy166⟩ := zI_of (zI (nd_y52 ((ii).toNat)))
                  rw [exy165]
                  refine z_icmp_ne (tgt := 65) C dX10_isNoted_58 (by decide) (by omega) (by omega) (fun hby167 => ?_) (fun hby167 => ?_)
                  · refine z_iconst (z := 0) C dX10_isNoted_65 rfl ?_
                    refine z_istore_n (lv' := [(1, .int (zI (0))), (0, .ref (ad i)), (2, .int (zI (nn))), (3, .int (zI (ii)))]) C dX10_isNoted_66 rfl (by decide) rfl ?_
                    refine z_iinc (z := ii + 1) (lv' := [(3, .int (zI (ii + 1))), (1, .int (zI (0))), (0, .ref (ad i)), (2, .int (zI (nn)))]) (j := 3) C dX10_isNoted_67 rfl rfl (by decide) rfl ?_
                    refine z_goto (tgt := 16) C dX10_isNoted_70 (by decide) ?_
                    have hMy168 : okMr cs ad g1 i (x) F9b r9b := okMr.upd fMb hg_y52 fMb.2.1 (fun f _ => rfl) ha1_y52 (hA_y52.mono (by omega)) (fun j a b => by
                        exact Or.inl (by rfl))
                    have hFFb : (∀ f, F9b f = F f) := fun f  => fFb f 
                    have hey169 : F9b 13 = F9b 13 := rfl
                    have hey170 : F9b 14 = F9b 14 := rfl
                    refine z_lv (lv' := [(0, .ref (ad i)), (1, .int (zI (0))), (2, .int (zI (nn))), (3, .int (zI (ii + 1)))]) [2, 1, 3, 0] rfl ?_
                    exact ih_lp2 _ (by omega) (0) (ii + 1) _ _ g1 rfl hMy168 hFFb fWb (fun j j1 => by exact f3 j j1) (by omega) (by omega) (by omega)
                  · refine z_iconst (z := 1) C dX10_isNoted_61 rfl ?_
                    refine z_goto (tgt := 66) C dX10_isNoted_62 (by decide) ?_
                    refine z_istore_n (lv' := [(1, .int (zI (1))), (0, .ref (ad i)), (2, .int (zI (nn))), (3, .int (zI (ii)))]) C dX10_isNoted_66 rfl (by decide) rfl ?_
                    refine z_iinc (z := ii + 1) (lv' := [(3, .int (zI (ii + 1))), (1, .int (zI (1))), (0, .ref (ad i)), (2, .int (zI (nn)))]) (j := 3) C dX10_isNoted_67 rfl rfl (by decide) rfl ?_
                    refine z_goto (tgt := 16) C dX10_isNoted_70 (by decide) ?_
                    have hMy171 : okMr cs ad g1 i (x) F9b r9b := okMr.upd fMb hg_y52 fMb.2.1 (fun f _ => rfl) ha1_y52 (hA_y52.mono (by omega)) (fun j a b => by
                        exact Or.inl (by rfl))
                    have hFFb : (∀ f, F9b f = F f) := fun f  => fFb f 
                    have hey172 : F9b 13 = F9b 13 := rfl
                    have hey173 : F9b 14 = F9b 14 := rfl
                    refine z_lv (lv' := [(0, .ref (ad i)), (1, .int (zI (1))), (2, .int (zI (nn))), (3, .int (zI (ii + 1)))]) [2, 1, 3, 0] rfl ?_
                    exact ih_lp2 _ (by omega) (1) (ii + 1) _ _ g1 rfl hMy171 hFFb fWb (fun j j1 => by exact f3 j j1) (by omega) (by omega) (by omega)
        have hMy174 : okMr cs ad g1 i (x) F9 r9 := okMr.upd fM hg_y26 fM.2.1 (fun f _ => rfl) ha1_y26 (hA_y26.mono (by omega)) (fun j a b => by
            exact Or.inl (by rfl))
        have hFFb : (∀ f, F9 f = F f) := fun f  => fF f 
        have hey175 : F9 13 = F9 13 := rfl
        have hey176 : F9 14 = F9 14 := rfl
        refine z_lv (lv' := [(0, .ref (ad i)), (1, .int (zI (so))), (2, .int (zI (nn))), (3, .int (zI (0)))]) [1, 2, 3, 0] rfl ?_
        exact lp2 _ (so) (0) _ _ g1 rfl hMy174 hFFb fW (fun j j1 => by exact f3 j j1) (by omega) (by omega) (by omega)
  have hgy177 := (hfvy24 (i) (ne_o (i := i) (c := 0) (d := 1) rfl)).trans hg
  have hMy178 : okMr cs ad gvy24 i (x) F rvy24 := okMr.upd hM hgy177 hM.2.1 (fun f _ => rfl) hdvy24 (hAvy24.mono (by omega)) (fun j a b => by
      exact Or.inl (by rw [hfvy24 _ (by omega)]))
  have hFF : (∀ f, F f = F f) := fun f  => rfl
  have hey179 : F 13 = F 13 := rfl
  have hey180 : F 14 = F 14 := rfl
  refine z_lv (lv' := [(0, .ref (ad i)), (1, .int (zI (1))), (2, .int (zI (0)))]) [2, 1, 0] rfl ?_
  exact lp1 _ (1) (0) _ _ gvy24 rfl hMy178 hFF hWvy24 (fun j j1 => by rw [hfvy24 _ (by omega)]) (by omega) (by omega) (by omega)

set_option maxRecDepth 100000 in
set_option maxHeartbeats 4000000 in
theorem c_X10_isGuess (l : Launch) (D : va_G) (A : Nat → Prop) (cs : Nat → ClassId) (tt : Nat) (N : Nat) (ad : Nat → Nat) (g : Nat → va_E) (i : Nat) (hN : i + 30 ≤ N) (x : Int) (hx : 0 ≤ x ∧ x ≤ 512) (F r : Nat → Int) (hM : okMr cs ad g i x F r) (z : Int) (hz : 0 ≤ z ∧ z < F 14) (z1 : Int) (hz1 : 1 ≤ z1 ∧ z1 ≤ 50) : zM l yX10_isGuess cX10_isGuess 4 (some .boolean) ({ frames := 11, cells := 0, slots := 0, locals := 660 } : Room) D A cs tt N ad g [.ref (ad i), .int (zI (z)), .int (zI (z1))] (rI0 N ad fun q g' => (0 ≤ q ∧ q ≤ 1) ∧ (∃ F' r' : Nat → Int, okMr cs ad g' i x F' r' ∧ (∀ f, f ≠ 27 → f ≠ 28 → F' f = F f)) ∧ ∀ j, j < i ∨ i + 30 ≤ j → g' j = g j) := by
  obtain ⟨hg, ⟨⟨e13, e14, e25, e27, e29⟩, k15, k16, k17, k18, k19, k20, k23⟩, hRD, hTx, hA, st, op, ai, fa, mu, tb, ns, nh, nd, rf, pi, tp, te, ki, li, ok1, ok2, fo, dd, dps, ⟨ha1, ha2, ha3, ha4, ha5, ha6, ha7, ha8, ha9, ha10, ha11, ha12, ha13, ha14, ha15, ha24, ha25, ha26, ha27, ha28, ha29⟩, hEv, hPt, hns, htp⟩ := id hM
  obtain ⟨-, hop, hai, hfa, hT, hT1⟩ := id hEv
  have hay1 : zAt ad (i) (ad i) := rfl
  have hay2 : zAt ad (i + 1) (ad (i + 1)) := rfl
  have hay3 : zAt ad (i + 2) (ad (i + 2)) := rfl
  have hay4 : zAt ad (i + 3) (ad (i + 3)) := rfl
  have hay5 : zAt ad (i + 4) (ad (i + 4)) := rfl
  have hay6 : zAt ad (i + 5) (ad (i + 5)) := rfl
  have hay7 : zAt ad (i + 6) (ad (i + 6)) := rfl
  have hay8 : zAt ad (i + 7) (ad (i + 7)) := rfl
  have hay9 : zAt ad (i + 8) (ad (i + 8)) := rfl
  have hay10 : zAt ad (i + 9) (ad (i + 9)) := rfl
  have hay11 : zAt ad (i + 10) (ad (i + 10)) := rfl
  have hay12 : zAt ad (i + 11) (ad (i + 11)) := rfl
  have hay13 : zAt ad (i + 12) (ad (i + 12)) := rfl
  have hay14 : zAt ad (i + 13) (ad (i + 13)) := rfl
  have hay15 : zAt ad (i + 14) (ad (i + 14)) := rfl
  have hay16 : zAt ad (i + 15) (ad (i + 15)) := rfl
  have hay17 : zAt ad (i + 24) (ad (i + 24)) := rfl
  have hay18 : zAt ad (i + 25) (ad (i + 25)) := rfl
  have hay19 : zAt ad (i + 26) (ad (i + 26)) := rfl
  have hay20 : zAt ad (i + 27) (ad (i + 27)) := rfl
  have hay21 : zAt ad (i + 28) (ad (i + 28)) := rfl
  have hay22 : zAt ad (i + 29) (ad (i + 29)) := rfl
  obtain ⟨⟨hsyy23, htyy23, hnyy23, hpyy23⟩, hlyy23⟩ := okA.at0 hA
  simp only [Nat.zero_add] at hsyy23 hnyy23 hpyy23
  have hmn : ∀ s, s < 4 → 0 ≤ r (6 + 86 * s) ∧ r (6 + 86 * s) ≤ 12 := fun s hs => (hsyy23 s hs).1
  have h5 : 0 ≤ r 5 ∧ r 5 ≤ 6 := hpyy23
  refine z_of (by decide) (Nat.le_of_ble_eq_true rfl) ?_
  intro pZ eZ sZ mZ below meth cZ C hr hlk hnm
  refine z_lv (lv' := [(0, .ref (ad i)), (1, .int (zI (z))), (2, .int (zI (z1)))]) [0, 1, 2] rfl ?_
  refine z_aload_n C 0 dX10_isGuess_0 rfl ?_
  refine z_get (v := .ref (ad (i + 5))) C (by omega) hay1 hg rfl inA_X10 4 (by decide) q_1463 rfl rfl dX10_isGuess_1 ?_
  refine z_iload_n C 1 dX10_isGuess_4 rfl ?_
  refine z_iald C (by omega) hay6 ha5 ((z).toNat) (by omega) (by omega) (by decide) dX10_isGuess_5 ?_
  refine z_iconst (z := 1) C dX10_isGuess_6 rfl ?_
  refine z_iconst (z := 2) C dX10_isGuess_7 rfl ?_
  obtain ⟨xy24, exy25, hxy26⟩ := zI_of (zI (fa ((z).toNat)))
  rw [exy25]
  refine z_cS (As := [.int (zI (xy24)), .int (zI (1)), .int (zI (2))]) (rest := []) C (c_X10_within l D A cs tt N ad _ (xy24) (by omega) (1) (by omega) (2) (by omega)) ms_yX10_within q_1686 hd_yX10_within (by decide) (Nat.le_of_ble_eq_true rfl) (by decide) dX10_isGuess_8 rfl (kI0 fun vy27 gvy27 hvy27 => ?_)
  obtain ⟨hvy27, rfl⟩ := hvy27
  rcases hvy27 with ⟨rfl, hxvy27⟩ | ⟨rfl, hxvy27⟩
  · refine z_if_eq (tgt := 24) C dX10_isGuess_11 (by decide) (by omega) (fun h => absurd h (by omega)) (fun _ => ?_)
    refine z_aload_n C 0 dX10_isGuess_14 rfl ?_
    refine z_get (v := .ref (ad (i + 6))) C (by omega) hay1 hg rfl inA_X10 5 (by decide) q_1464 rfl rfl dX10_isGuess_15 ?_
    refine z_iload_n C 1 dX10_isGuess_18 rfl ?_
    refine z_iald C (by omega) hay7 ha6 ((z).toNat) (by omega) (by omega) (by decide) dX10_isGuess_19 ?_
    refine z_iload_n C 2 dX10_isGuess_20 rfl ?_
    obtain ⟨xy28, exy29, hxy30⟩ := zI_of (zI (mu ((z).toNat)))
    rw [exy29]
    refine z_icmp_ne (tgt := 26) C dX10_isGuess_21 (by decide) (by omega) (by omega) (fun hby31 => ?_) (fun hby31 => ?_)
    · refine z_aload_n C 0 dX10_isGuess_26 rfl ?_
      refine z_iload_n C 1 dX10_isGuess_27 rfl ?_
      refine z_put (fs' := mF ad (i) (uZ F 27 (z))) C (by omega) hay1 hg tyX10 tyX10_ok nmX10 rfl inA_X10 27 (by decide) q_1486 rfl rfl rfl rfl (Nat.le_of_ble_eq_true rfl) rfl dX10_isGuess_28 (fun gy32 egy33 => ?_)
      have hgy34 := up_s egy33
      refine z_aload_n C 0 dX10_isGuess_31 rfl ?_
      refine z_iload_n C 2 dX10_isGuess_32 rfl ?_
      refine z_put (fs' := mF ad (i) (uZ (uZ F 27 (z)) 28 (z1))) C (by omega) hay1 hgy34 tyX10 tyX10_ok nmX10 rfl inA_X10 28 (by decide) q_1487 rfl rfl rfl rfl (Nat.le_of_ble_eq_true rfl) rfl dX10_isGuess_33 (fun gy35 egy36 => ?_)
      have hgy37 := up_s egy36
      refine z_aload_n C 0 dX10_isGuess_36 rfl ?_
      have hgy38 := up_n egy33 ha1 (ne_o (i := i) (c := 1) (d := 0) rfl)
      have hgy39 := up_n egy36 hgy38 (ne_o (i := i) (c := 1) (d := 0) rfl)
      have hFy40 : ∀ f, f ≠ 27 → f ≠ 28 → (uZ (uZ F 27 (z)) 28 (z1)) f = F f := fun f n27 n28 => ((uZ_n _ _ n28).trans ((uZ_n _ _ n27).trans rfl))
      have hey41 : (uZ (uZ F 27 (z)) 28 (z1)) 13 = F 13 := (fn (fn rfl (by decide)) (by decide))
      have hey42 : (uZ (uZ F 27 (z)) 28 (z1)) 14 = F 14 := (fn (fn rfl (by decide)) (by decide))
      have hey43 : (uZ (uZ F 27 (z)) 28 (z1)) 15 = F 15 := (fn (fn rfl (by decide)) (by decide))
      have hey44 : (uZ (uZ F 27 (z)) 28 (z1)) 16 = F 16 := (fn (fn rfl (by decide)) (by decide))
      have hey45 : (uZ (uZ F 27 (z)) 28 (z1)) 17 = F 17 := (fn (fn rfl (by decide)) (by decide))
      have hey46 : (uZ (uZ F 27 (z)) 28 (z1)) 18 = F 18 := (fn (fn rfl (by decide)) (by decide))
      have hey47 : (uZ (uZ F 27 (z)) 28 (z1)) 19 = F 19 := (fn (fn rfl (by decide)) (by decide))
      have hey48 : (uZ (uZ F 27 (z)) 28 (z1)) 20 = F 20 := (fn (fn rfl (by decide)) (by decide))
      have hey49 : (uZ (uZ F 27 (z)) 28 (z1)) 23 = F 23 := (fn (fn rfl (by decide)) (by decide))
      have hey50 : (uZ (uZ F 27 (z)) 28 (z1)) 25 = F 25 := (fn (fn rfl (by decide)) (by decide))
      have hey51 : (uZ (uZ F 27 (z)) 28 (z1)) 27 = z := (fn (uZ_s _ _ _) (by decide))
      have hey52 : (uZ (uZ F 27 (z)) 28 (z1)) 28 = z1 := (uZ_s _ _ _)
      have hey53 : (uZ (uZ F 27 (z)) 28 (z1)) 29 = F 29 := (fn (fn rfl (by decide)) (by decide))
      have hKy54 : okF (uZ (uZ F 27 (z)) 28 (z1)) := by unfold okF; omega
      have hMy55 : okMr cs ad gy35 i (x) (uZ (uZ F 27 (z)) 28 (z1)) r := okMr.upd hM hgy37 hKy54 (fun f a => hFy40 f (by omega) (by omega)) hgy39 (hA.mono (by omega)) (fun j a b => by
          exact Or.inl (by rw [egy36, va_up_ne _ _ (by omega)]; rw [egy33, va_up_ne _ _ (by omega)]))
      refine z_cV (As := []) (rest := []) (ci := 12) C (c_X10_isNoted l D A cs tt N ad _ i hN x hx _ _ hMy55 ) (by omega) hay1 hgy37 rfl rfl mv_yX10_isNoted q_2071 hd_yX10_isNoted (by decide) (Nat.le_of_ble_eq_true rfl) (by decide) dX10_isGuess_37 rfl (kI0 fun vy56 gvy56 hvy56 => ?_)
      obtain ⟨hrvy56, ⟨Fvy56, rvy56, hMvy56, hFvy56⟩, hfvy56⟩ := hvy56
      have hFy57 : ∀ f, f ≠ 27 → f ≠ 28 → (uZ (uZ F 27 (z)) 28 (z1)) f = F f := fun f n27 n28 => ((uZ_n _ _ n28).trans ((uZ_n _ _ n27).trans rfl))
      have hBvy56 : (∀ f, f ≠ 27 → f ≠ 28 → Fvy56 f = F f) := fun f n27 n28 => (hFvy56 f ).trans (hFy57 f n27 n28)
      have hCvy56 := hBvy56
      have hq13vy56 : Fvy56 13 = F 13 := (hFvy56 13).trans (fn (fn rfl (by decide)) (by decide))
      have hq14vy56 : Fvy56 14 = F 14 := (hFvy56 14).trans (fn (fn rfl (by decide)) (by decide))
      have hq15vy56 : Fvy56 15 = F 15 := (hFvy56 15).trans (fn (fn rfl (by decide)) (by decide))
      have hq17vy56 : Fvy56 17 = F 17 := (hFvy56 17).trans (fn (fn rfl (by decide)) (by decide))
      have hq23vy56 : Fvy56 23 = F 23 := (hFvy56 23).trans (fn (fn rfl (by decide)) (by decide))
      obtain ⟨hg_y58, ⟨⟨e13_y58, e14_y58, e25_y58, e27_y58, e29_y58⟩, k15_y58, k16_y58, k17_y58, k18_y58, k19_y58, k20_y58, k23_y58⟩, hRD_y58, hTx_y58, hA_y58, st_y58, op_y58, ai_y58, fa_y58, mu_y58, tb_y58, ns_y58, nh_y58, nd_y58, rf_y58, pi_y58, tp_y58, te_y58, ki_y58, li_y58, ok1_y58, ok2_y58, fo_y58, dd_y58, dps_y58, ⟨ha1_y58, ha2_y58, ha3_y58, ha4_y58, ha5_y58, ha6_y58, ha7_y58, ha8_y58, ha9_y58, ha10_y58, ha11_y58, ha12_y58, ha13_y58, ha14_y58, ha15_y58, ha24_y58, ha25_y58, ha26_y58, ha27_y58, ha28_y58, ha29_y58⟩, hEv_y58, hPt_y58, hns_y58, htp_y58⟩ := id hMvy56
      obtain ⟨-, hop_y58, hai_y58, hfa_y58, hT_y58, hT1_y58⟩ := id hEv_y58
      have e14 := e14_y58
      have e25 := e25_y58
      have e27 := e27_y58
      have e29 := e29_y58
      have hop := hop_y58
      have hai := hai_y58
      have hfa := hfa_y58
      have hT := hT_y58
      have hT1 := hT1_y58
      have hEv := hEv_y58
      have htp := htp_y58
      have hns := hns_y58
      have hPt := hPt_y58
      obtain ⟨⟨hsyy59, htyy59, hnyy59, hpyy59⟩, hlyy59⟩ := okA.at0 hA_y58
      simp only [Nat.zero_add] at hsyy59 hnyy59 hpyy59
      have hmn : ∀ s, s < 4 → 0 ≤ rvy56 (6 + 86 * s) ∧ rvy56 (6 + 86 * s) ≤ 12 := fun s hs => (hsyy59 s hs).1
      have h5 : 0 ≤ rvy56 5 ∧ rvy56 5 ≤ 6 := hpyy59
      refine z_istore_n (lv' := [(3, .int (zI (vy56))), (0, .ref (ad i)), (1, .int (zI (z))), (2, .int (zI (z1)))]) C dX10_isGuess_40 rfl (by decide) rfl ?_
      refine z_aload_n C 1 dX10_isGuess_41 rfl ?_
      refine z_iconst (z := -1) C dX10_isGuess_42 rfl ?_
      refine z_put (fs' := mF ad (i) (uZ Fvy56 27 (-1))) C (by omega) hay1 hg_y58 tyX10 tyX10_ok nmX10 rfl inA_X10 27 (by decide) q_1486 rfl rfl rfl rfl (Nat.le_of_ble_eq_true rfl) rfl dX10_isGuess_43 (fun gy60 egy61 => ?_)
      have hgy62 := up_s egy61
      refine z_iload_n C 0 dX10_isGuess_46 rfl ?_
      have hgy63 := up_n egy61 ha1_y58 (ne_o (i := i) (c := 1) (d := 0) rfl)
      have hFy64 : ∀ f, f ≠ 27 → (uZ Fvy56 27 (-1)) f = Fvy56 f := fun f n27 => ((uZ_n _ _ n27).trans rfl)
      have hey65 : (uZ Fvy56 27 (-1)) 13 = F 13 := (fn hq13vy56 (by decide))
      have hey66 : (uZ Fvy56 27 (-1)) 14 = F 14 := (fn hq14vy56 (by decide))
      have hey67 : (uZ Fvy56 27 (-1)) 15 = F 15 := (fn hq15vy56 (by decide))
      have hey68 : (uZ Fvy56 27 (-1)) 16 = Fvy56 16 := (fn rfl (by decide))
      have hey69 : (uZ Fvy56 27 (-1)) 17 = F 17 := (fn hq17vy56 (by decide))
      have hey70 : (uZ Fvy56 27 (-1)) 18 = Fvy56 18 := (fn rfl (by decide))
      have hey71 : (uZ Fvy56 27 (-1)) 19 = Fvy56 19 := (fn rfl (by decide))
      have hey72 : (uZ Fvy56 27 (-1)) 20 = Fvy56 20 := (fn rfl (by decide))
      have hey73 : (uZ Fvy56 27 (-1)) 23 = F 23 := (fn hq23vy56 (by decide))
      have hey74 : (uZ Fvy56 27 (-1)) 25 = Fvy56 25 := (fn rfl (by decide))
      have hey75 : (uZ Fvy56 27 (-1)) 27 = -1 := (uZ_s _ _ _)
      have hey76 : (uZ Fvy56 27 (-1)) 28 = Fvy56 28 := (fn rfl (by decide))
      have hey77 : (uZ Fvy56 27 (-1)) 29 = Fvy56 29 := (fn rfl (by decide))
      have hKy78 : okF (uZ Fvy56 27 (-1)) := by unfold okF; omega
      have hMy79 : okMr cs ad gy60 i (x) (uZ Fvy56 27 (-1)) rvy56 := okMr.upd hMvy56 hgy62 hKy78 (fun f a => hFy64 f (by omega)) hgy63 (hA_y58.mono (by omega)) (fun j a b => by
          exact Or.inl (by rw [egy61, va_up_ne _ _ (by omega)]))
      have hFy80 : ∀ f, f ≠ 27 → (uZ Fvy56 27 (-1)) f = Fvy56 f := fun f n27 => ((uZ_n _ _ n27).trans rfl)
      exact z_zret C hr hlk dX10_isGuess_47 (nb01 (by omega)) (by decide) (by decide) ⟨vy56, rfl, rfl, rfl, by omega, ⟨_, _, hMy79, fun f n27 n28 => (hFy80 f n27).trans (hCvy56 f n27 n28)⟩, fun j j1 => by rw [egy61, va_up_ne _ _ (by omega)]; rw [hfvy56 _ (by omega)]; rw [egy36, va_up_ne _ _ (by omega)]; rw [egy33, va_up_ne _ _ (by omega)]⟩
    · refine z_iconst (z := 0) C dX10_isGuess_24 rfl ?_
      have hMy81 : okMr cs ad g i (x) F r := okMr.upd hM hg hM.2.1 (fun f _ => rfl) ha1 (hA.mono (by omega)) (fun j a b => by
          exact Or.inl (by rfl))
      exact z_zret C hr hlk dX10_isGuess_25 (by decide) (by decide) (by decide) ⟨0, rfl, rfl, rfl, by omega, ⟨_, _, hMy81, fun f n27 n28 => rfl⟩, fun j j1 => by rfl⟩
  · refine z_if_eq (tgt := 24) C dX10_isGuess_11 (by decide) (by omega) (fun _ => ?_) (fun h => absurd h (by omega))
    refine z_iconst (z := 0) C dX10_isGuess_24 rfl ?_
    have hMy82 : okMr cs ad g i (x) F r := okMr.upd hM hg hM.2.1 (fun f _ => rfl) ha1 (hA.mono (by omega)) (fun j a b => by
        exact Or.inl (by rfl))
    exact z_zret C hr hlk dX10_isGuess_25 (by decide) (by decide) (by decide) ⟨0, rfl, rfl, rfl, by omega, ⟨_, _, hMy82, fun f n27 n28 => rfl⟩, fun j j1 => by rfl⟩

set_option maxRecDepth 100000 in
set_option maxHeartbeats 4000000 in
theorem c_X10_falls (l : Launch) (D : va_G) (A : Nat → Prop) (cs : Nat → ClassId) (tt : Nat) (N : Nat) (ad : Nat → Nat) (g : Nat → va_E) (i : Nat) (hN : i + 30 ≤ N) (x : Int) (hx : 0 ≤ x ∧ x ≤ 512) (F r : Nat → Int) (hM : okMr cs ad g i x F r) (z : Int) (hz : -2147483648 ≤ z ∧ z ≤ 2147483647) : zM l yX10_falls cX10_falls 6 (some .int) ({ frames := 12, cells := 0, slots := 0, locals := 720 } : Room) D A cs tt N ad g [.ref (ad i), .int (zI (z))] (rI0 N ad fun q g' => (-2147483648 ≤ q ∧ q ≤ 2147483647) ∧ (∃ F' r' : Nat → Int, okMr cs ad g' i (x + 1) F' r' ∧ F' 23 = F 23) ∧ ∀ j, j < i ∨ i + 30 ≤ j → g' j = g j) := by
  obtain ⟨hg, ⟨⟨e13, e14, e25, e27, e29⟩, k15, k16, k17, k18, k19, k20, k23⟩, hRD, hTx, hA, st, op, ai, fa, mu, tb, ns, nh, nd, rf, pi, tp, te, ki, li, ok1, ok2, fo, dd, dps, ⟨ha1, ha2, ha3, ha4, ha5, ha6, ha7, ha8, ha9, ha10, ha11, ha12, ha13, ha14, ha15, ha24, ha25, ha26, ha27, ha28, ha29⟩, hEv, hPt, hns, htp⟩ := id hM
  obtain ⟨-, hop, hai, hfa, hT, hT1⟩ := id hEv
  have hay1 : zAt ad (i) (ad i) := rfl
  have hay2 : zAt ad (i + 1) (ad (i + 1)) := rfl
  have hay3 : zAt ad (i + 2) (ad (i + 2)) := rfl
  have hay4 : zAt ad (i + 3) (ad (i + 3)) := rfl
  have hay5 : zAt ad (i + 4) (ad (i + 4)) := rfl
  have hay6 : zAt ad (i + 5) (ad (i + 5)) := rfl
  have hay7 : zAt ad (i + 6) (ad (i + 6)) := rfl
  have hay8 : zAt ad (i + 7) (ad (i + 7)) := rfl
  have hay9 : zAt ad (i + 8) (ad (i + 8)) := rfl
  have hay10 : zAt ad (i + 9) (ad (i + 9)) := rfl
  have hay11 : zAt ad (i + 10) (ad (i + 10)) := rfl
  have hay12 : zAt ad (i + 11) (ad (i + 11)) := rfl
  have hay13 : zAt ad (i + 12) (ad (i + 12)) := rfl
  have hay14 : zAt ad (i + 13) (ad (i + 13)) := rfl
  have hay15 : zAt ad (i + 14) (ad (i + 14)) := rfl
  have hay16 : zAt ad (i + 15) (ad (i + 15)) := rfl
  have hay17 : zAt ad (i + 24) (ad (i + 24)) := rfl
  have hay18 : zAt ad (i + 25) (ad (i + 25)) := rfl
  have hay19 : zAt ad (i + 26) (ad (i + 26)) := rfl
  have hay20 : zAt ad (i + 27) (ad (i + 27)) := rfl
  have hay21 : zAt ad (i + 28) (ad (i + 28)) := rfl
  have hay22 : zAt ad (i + 29) (ad (i + 29)) := rfl
  obtain ⟨⟨hsyy23, htyy23, hnyy23, hpyy23⟩, hlyy23⟩ := okA.at0 hA
  simp only [Nat.zero_add] at hsyy23 hnyy23 hpyy23
  have hmn : ∀ s, s < 4 → 0 ≤ r (6 + 86 * s) ∧ r (6 + 86 * s) ≤ 12 := fun s hs => (hsyy23 s hs).1
  have h5 : 0 ≤ r 5 ∧ r 5 ≤ 6 := hpyy23
  refine z_of (by decide) (Nat.le_of_ble_eq_true rfl) ?_
  intro pZ eZ sZ mZ below meth cZ C hr hlk hnm
  refine z_lv (lv' := [(0, .ref (ad i)), (1, .int (zI (z)))]) [0, 1] rfl ?_
  refine z_aload_n C 0 dX10_falls_0 rfl ?_
  refine z_iconst (z := 0) C dX10_falls_1 rfl ?_
  refine z_put (fs' := mF ad (i) (uZ F 12 (0))) C (by omega) hay1 hg tyX10 tyX10_ok nmX10 rfl inA_X10 12 (by decide) q_1471 rfl rfl rfl rfl (Nat.le_of_ble_eq_true rfl) rfl dX10_falls_2 (fun gy24 egy25 => ?_)
  have hgy26 := up_s egy25
  refine z_aload_n C 0 dX10_falls_5 rfl ?_
  refine z_iload_n C 1 dX10_falls_6 rfl ?_
  refine z_iconst (z := 0) C dX10_falls_7 rfl ?_
  refine z_iconst (z := 2) C dX10_falls_8 rfl ?_
  refine z_cS (As := [.int (zI (z)), .int (zI (0)), .int (zI (2))]) (rest := [.ref (ad i)]) C (c_X10_within l D A cs tt N ad _ (z) (by omega) (0) (by omega) (2) (by omega)) ms_yX10_within q_1686 hd_yX10_within (by decide) (Nat.le_of_ble_eq_true rfl) (by decide) dX10_falls_9 rfl (kI0 fun vy27 gvy27 hvy27 => ?_)
  obtain ⟨hvy27, rfl⟩ := hvy27
  rcases hvy27 with ⟨rfl, hxvy27⟩ | ⟨rfl, hxvy27⟩
  · refine z_iconst (z := 1) C dX10_falls_12 rfl ?_
    have hey29 : (uZ F 12 (0)) 12 = 0 := (uZ_s _ _ _)
    refine z_cV (As := [.int (zI (1)), .int (zI (1))]) (rest := []) (ci := 12) C (c_X10_right l D A cs tt N ad _ i hN _ hgy26 (by omega) (1) (by omega) (1) (by omega)) (by omega) hay1 hgy26 rfl rfl mv_yX10_right q_1648 hd_yX10_right (by decide) (Nat.le_of_ble_eq_true rfl) (by decide) dX10_falls_13 rfl (kI0 fun vy28 gvy28 hvy28 => ?_)
    obtain ⟨hrvy28, ⟨Fvy28, hcvy28, htvy28, hFvy28⟩, hfvy28⟩ := hvy28
    rcases (show vy28 = 1 ∨ vy28 = 0 by omega) with rfl | rfl
    · refine z_if_ne (tgt := 21) C dX10_falls_16 (by decide) (by omega) (fun _ => ?_) (fun h => absurd h (by omega))
      refine z_iload_n C 1 dX10_falls_21 rfl ?_
      refine z_iconst (z := 2) C dX10_falls_22 rfl ?_
      refine z_icmp_ne (tgt := 39) C dX10_falls_23 (by decide) (by omega) (by omega) (fun hby30 => ?_) (fun hby30 => ?_)
      · refine z_iconst (z := 0) C dX10_falls_39 rfl ?_
        refine z_istore_n (lv' := [(2, .int (zI (0))), (0, .ref (ad i)), (1, .int (zI (z)))]) C dX10_falls_40 rfl (by decide) rfl ?_
        refine z_iconst (z := -1) C dX10_falls_41 rfl ?_
        refine z_istore_n (lv' := [(3, .int (zI (-1))), (2, .int (zI (0))), (0, .ref (ad i)), (1, .int (zI (z)))]) C dX10_falls_42 rfl (by decide) rfl ?_
        refine z_iconst (z := 0) C dX10_falls_43 rfl ?_
        refine z_istore (lv' := [(4, .int (zI (0))), (3, .int (zI (-1))), (2, .int (zI (0))), (0, .ref (ad i)), (1, .int (zI (z)))]) C dX10_falls_44 (by decide) rfl ?_
        have lp1 : ∀ (n9 : Nat) (cn : Int) (fi : Int) (hh : Int) (F9 : Nat → Int) (r9 : Nat → Int) (g1 : Nat → va_E), (25 - hh).toNat = n9 → (okMr cs ad g1 i x F9 r9) → ((∀ f, f ≠ 12 → f ≠ 27 → f ≠ 28 → F9 f = F f)) → (∀ j, j < i ∨ i + 30 ≤ j → g1 j = g j) → (-2147483648 ≤ cn ∧ cn ≤ 2147483647) → (-2147483648 ≤ fi ∧ fi ≤ 2147483647) → (0 ≤ hh ∧ hh ≤ F 14) → zV pZ l eZ ({ frames := 12, cells := 0, slots := 0, locals := 720 } : Room) sZ mZ ([.ref (ad i), .int (zI (z))] : List Value).toArray below meth cZ (MQ below (zPost D A (rI0 N ad fun q g' => (-2147483648 ≤ q ∧ q ≤ 2147483647) ∧ (∃ F' r' : Nat → Int, okMr cs ad g' i (x + 1) F' r' ∧ F' 23 = F 23) ∧ ∀ j, j < i ∨ i + 30 ≤ j → g' j = g j)) ([.ref (ad i), .int (zI (z))] : List Value).toArray sZ ({ frames := 12, cells := 0, slots := 0, locals := 720 } : Room).cells ({ frames := 12, cells := 0, slots := 0, locals := 720 } : Room).slots A) D A 6 (N) ad g1 (0) (0) 46 [(0, .ref (ad i)), (1, .int (zI (z))), (2, .int (zI (cn))), (3, .int (zI (fi))), (4, .int (zI (hh)))] [] := by
          intro n9
          induction n9 using Nat.strongRecOn with
          | ind n9 ih_lp1 =>
            intro cn fi hh F9 r9 g1 hm9 fM fF f3 hvlp10 hvlp11 hvlp12
            obtain ⟨hg_y31, ⟨⟨e13_y31, e14_y31, e25_y31, e27_y31, e29_y31⟩, k15_y31, k16_y31, k17_y31, k18_y31, k19_y31, k20_y31, k23_y31⟩, hRD_y31, hTx_y31, hA_y31, st_y31, op_y31, ai_y31, fa_y31, mu_y31, tb_y31, ns_y31, nh_y31, nd_y31, rf_y31, pi_y31, tp_y31, te_y31, ki_y31, li_y31, ok1_y31, ok2_y31, fo_y31, dd_y31, dps_y31, ⟨ha1_y31, ha2_y31, ha3_y31, ha4_y31, ha5_y31, ha6_y31, ha7_y31, ha8_y31, ha9_y31, ha10_y31, ha11_y31, ha12_y31, ha13_y31, ha14_y31, ha15_y31, ha24_y31, ha25_y31, ha26_y31, ha27_y31, ha28_y31, ha29_y31⟩, hEv_y31, hPt_y31, hns_y31, htp_y31⟩ := id fM
            obtain ⟨-, hop_y31, hai_y31, hfa_y31, hT_y31, hT1_y31⟩ := id hEv_y31
            have e14 := e14_y31
            have e25 := e25_y31
            have e27 := e27_y31
            have e29 := e29_y31
            have hop := hop_y31
            have hai := hai_y31
            have hfa := hfa_y31
            have hT := hT_y31
            have hT1 := hT1_y31
            have hEv := hEv_y31
            have htp := htp_y31
            have hns := hns_y31
            have hPt := hPt_y31
            have hay32 : zAt ad (i) (ad i) := rfl
            have hay33 : zAt ad (i + 1) (ad (i + 1)) := rfl
            have hay34 : zAt ad (i + 2) (ad (i + 2)) := rfl
            have hay35 : zAt ad (i + 3) (ad (i + 3)) := rfl
            have hay36 : zAt ad (i + 4) (ad (i + 4)) := rfl
            have hay37 : zAt ad (i + 5) (ad (i + 5)) := rfl
            have hay38 : zAt ad (i + 6) (ad (i + 6)) := rfl
            have hay39 : zAt ad (i + 7) (ad (i + 7)) := rfl
            have hay40 : zAt ad (i + 8) (ad (i + 8)) := rfl
            have hay41 : zAt ad (i + 9) (ad (i + 9)) := rfl
            have hay42 : zAt ad (i + 10) (ad (i + 10)) := rfl
            have hay43 : zAt ad (i + 11) (ad (i + 11)) := rfl
            have hay44 : zAt ad (i + 12) (ad (i + 12)) := rfl
            have hay45 : zAt ad (i + 13) (ad (i + 13)) := rfl
            have hay46 : zAt ad (i + 14) (ad (i + 14)) := rfl
            have hay47 : zAt ad (i + 15) (ad (i + 15)) := rfl
            have hay48 : zAt ad (i + 24) (ad (i + 24)) := rfl
            have hay49 : zAt ad (i + 25) (ad (i + 25)) := rfl
            have hay50 : zAt ad (i + 26) (ad (i + 26)) := rfl
            have hay51 : zAt ad (i + 27) (ad (i + 27)) := rfl
            have hay52 : zAt ad (i + 28) (ad (i + 28)) := rfl
            have hay53 : zAt ad (i + 29) (ad (i + 29)) := rfl
            obtain ⟨⟨hsyy54, htyy54, hnyy54, hpyy54⟩, hlyy54⟩ := okA.at0 hA_y31
            simp only [Nat.zero_add] at hsyy54 hnyy54 hpyy54
            have hmn : ∀ s, s < 4 → 0 ≤ r9 (6 + 86 * s) ∧ r9 (6 + 86 * s) ≤ 12 := fun s hs => (hsyy54 s hs).1
            have h5 : 0 ≤ r9 5 ∧ r9 5 ≤ 6 := hpyy54
            have h13e : F9 13 = F 13 := fF 13 (by decide) (by decide) (by decide)
            have h14e : F9 14 = F 14 := fF 14 (by decide) (by decide) (by decide)
            have h17e : F9 17 = F 17 := fF 17 (by decide) (by decide) (by decide)
            have h23e : F9 23 = F 23 := fF 23 (by decide) (by decide) (by decide)
            refine z_iload C 4 dX10_falls_46 rfl ?_
            refine z_aload_n C 0 dX10_falls_48 rfl ?_
            refine z_get (v := .int (zI (F9 14))) C (by omega) hay32 hg_y31 rfl inA_X10 14 (by decide) q_1473 rfl (fv (F := F9) (f := 14) rfl) dX10_falls_49 ?_
            refine z_icmp_ge (tgt := 107) C dX10_falls_52 (by decide) (by omega) (by omega) (fun hby55 => ?_) (fun hby55 => ?_)
            · refine z_iload_n C 1 dX10_falls_107 rfl ?_
              refine z_if_ne (tgt := 115) C dX10_falls_108 (by decide) (by omega) (fun hby56 => ?_) (fun hby56 => ?_)
              · refine z_iload_n C 3 dX10_falls_115 rfl ?_
                have hMy57 : okMr cs ad g1 i (x + 1) F9 r9 := okMr.upd fM hg_y31 fM.2.1 (fun f _ => rfl) ha1_y31 (hA_y31.mono (by omega)) (fun j a b => by
                    exact Or.inl (by rfl))
                have h23 : F9 23 = F9 23 := rfl
                exact z_iret C hr hlk dX10_falls_116 (by decide) (by decide) ⟨fi, rfl, rfl, rfl, by omega, ⟨_, _, hMy57, by omega⟩, fun j j1 => by exact f3 j j1⟩
              · refine z_iload_n C 2 dX10_falls_111 rfl ?_
                refine z_goto (tgt := 116) C dX10_falls_112 (by decide) ?_
                have hMy58 : okMr cs ad g1 i (x + 1) F9 r9 := okMr.upd fM hg_y31 fM.2.1 (fun f _ => rfl) ha1_y31 (hA_y31.mono (by omega)) (fun j a b => by
                    exact Or.inl (by rfl))
                have h23 : F9 23 = F9 23 := rfl
                exact z_iret C hr hlk dX10_falls_116 (by decide) (by decide) ⟨cn, rfl, rfl, rfl, by omega, ⟨_, _, hMy58, by omega⟩, fun j j1 => by exact f3 j j1⟩
            · refine z_iconst (z := 1) C dX10_falls_55 rfl ?_
              refine z_istore (lv' := [(5, .int (zI (1))), (0, .ref (ad i)), (1, .int (zI (z))), (2, .int (zI (cn))), (3, .int (zI (fi))), (4, .int (zI (hh)))]) C dX10_falls_56 (by decide) rfl ?_
              have lp2 : ∀ (n9 : Nat) (cn : Int) (fi : Int) (mm : Int) (F9b : Nat → Int) (r9b : Nat → Int) (g1 : Nat → va_E), (51 - mm).toNat = n9 → (okMr cs ad g1 i x F9b r9b) → ((∀ f, f ≠ 12 → f ≠ 27 → f ≠ 28 → F9b f = F f)) → (∀ j, j < i ∨ i + 30 ≤ j → g1 j = g j) → (-2147483648 ≤ cn ∧ cn ≤ 2147483647) → (-2147483648 ≤ fi ∧ fi ≤ 2147483647) → (1 ≤ mm ∧ mm ≤ 51) → zV pZ l eZ ({ frames := 12, cells := 0, slots := 0, locals := 720 } : Room) sZ mZ ([.ref (ad i), .int (zI (z))] : List Value).toArray below meth cZ (MQ below (zPost D A (rI0 N ad fun q g' => (-2147483648 ≤ q ∧ q ≤ 2147483647) ∧ (∃ F' r' : Nat → Int, okMr cs ad g' i (x + 1) F' r' ∧ F' 23 = F 23) ∧ ∀ j, j < i ∨ i + 30 ≤ j → g' j = g j)) ([.ref (ad i), .int (zI (z))] : List Value).toArray sZ ({ frames := 12, cells := 0, slots := 0, locals := 720 } : Room).cells ({ frames := 12, cells := 0, slots := 0, locals := 720 } : Room).slots A) D A 6 (N) ad g1 (0) (0) 58 [(0, .ref (ad i)), (1, .int (zI (z))), (2, .int (zI (cn))), (3, .int (zI (fi))), (4, .int (zI (hh))), (5, .int (zI (mm)))] [] := by
                intro n9
                induction n9 using Nat.strongRecOn with
                | ind n9 ih_lp2 =>
                  intro cn fi mm F9b r9b g1 hm9 fMb fFb f3 hvlp20 hvlp21 hvlp22
                  obtain ⟨hg_y59, ⟨⟨e13_y59, e14_y59, e25_y59, e27_y59, e29_y59⟩, k15_y59, k16_y59, k17_y59, k18_y59, k19_y59, k20_y59, k23_y59⟩, hRD_y59, hTx_y59, hA_y59, st_y59, op_y59, ai_y59, fa_y59, mu_y59, tb_y59, ns_y59, nh_y59, nd_y59, rf_y59, pi_y59, tp_y59, te_y59, ki_y59, li_y59, ok1_y59, ok2_y59, fo_y59, dd_y59, dps_y59, ⟨ha1_y59, ha2_y59, ha3_y59, ha4_y59, ha5_y59, ha6_y59, ha7_y59, ha8_y59, ha9_y59, ha10_y59, ha11_y59, ha12_y59, ha13_y59, ha14_y59, ha15_y59, ha24_y59, ha25_y59, ha26_y59, ha27_y59, ha28_y59, ha29_y59⟩, hEv_y59, hPt_y59, hns_y59, htp_y59⟩ := id fMb
                  obtain ⟨-, hop_y59, hai_y59, hfa_y59, hT_y59, hT1_y59⟩ := id hEv_y59
                  have e14 := e14_y59
                  have e25 := e25_y59
                  have e27 := e27_y59
                  have e29 := e29_y59
                  have hop := hop_y59
                  have hai := hai_y59
                  have hfa := hfa_y59
                  have hT := hT_y59
                  have hT1 := hT1_y59
                  have hEv := hEv_y59
                  have htp := htp_y59
                  have hns := hns_y59
                  have hPt := hPt_y59
                  have hay60 : zAt ad (i) (ad i) := rfl
                  have hay61 : zAt ad (i + 1) (ad (i + 1)) := rfl
                  have hay62 : zAt ad (i + 2) (ad (i + 2)) := rfl
                  have hay63 : zAt ad (i + 3) (ad (i + 3)) := rfl
                  have hay64 : zAt ad (i + 4) (ad (i + 4)) := rfl
                  have hay65 : zAt ad (i + 5) (ad (i + 5)) := rfl
                  have hay66 : zAt ad (i + 6) (ad (i + 6)) := rfl
                  have hay67 : zAt ad (i + 7) (ad (i + 7)) := rfl
                  have hay68 : zAt ad (i + 8) (ad (i + 8)) := rfl
                  have hay69 : zAt ad (i + 9) (ad (i + 9)) := rfl
                  have hay70 : zAt ad (i + 10) (ad (i + 10)) := rfl
                  have hay71 : zAt ad (i + 11) (ad (i + 11)) := rfl
                  have hay72 : zAt ad (i + 12) (ad (i + 12)) := rfl
                  have hay73 : zAt ad (i + 13) (ad (i + 13)) := rfl
                  have hay74 : zAt ad (i + 14) (ad (i + 14)) := rfl
                  have hay75 : zAt ad (i + 15) (ad (i + 15)) := rfl
                  have hay76 : zAt ad (i + 24) (ad (i + 24)) := rfl
                  have hay77 : zAt ad (i + 25) (ad (i + 25)) := rfl
                  have hay78 : zAt ad (i + 26) (ad (i + 26)) := rfl
                  have hay79 : zAt ad (i + 27) (ad (i + 27)) := rfl
                  have hay80 : zAt ad (i + 28) (ad (i + 28)) := rfl
                  have hay81 : zAt ad (i + 29) (ad (i + 29)) := rfl
                  obtain ⟨⟨hsyy82, htyy82, hnyy82, hpyy82⟩, hlyy82⟩ := okA.at0 hA_y59
                  simp only [Nat.zero_add] at hsyy82 hnyy82 hpyy82
                  have hmn : ∀ s, s < 4 → 0 ≤ r9b (6 + 86 * s) ∧ r9b (6 + 86 * s) ≤ 12 := fun s hs => (hsyy82 s hs).1
                  have h5 : 0 ≤ r9b 5 ∧ r9b 5 ≤ 6 := hpyy82
                  have h13be : F9b 13 = F 13 := fFb 13 (by decide) (by decide) (by decide)
                  have h14be : F9b 14 = F 14 := fFb 14 (by decide) (by decide) (by decide)
                  have h17be : F9b 17 = F 17 := fFb 17 (by decide) (by decide) (by decide)
                  have h23be : F9b 23 = F 23 := fFb 23 (by decide) (by decide) (by decide)
                  refine z_iload C 5 dX10_falls_58 rfl ?_
                  refine z_bipush (z := 50) C dX10_falls_60 (by decide) ?_
                  refine z_icmp_gt (tgt := 101) C dX10_falls_62 (by decide) (by omega) (by omega) (fun hby83 => ?_) (fun hby83 => ?_)
                  · refine z_iinc (z := hh + 1) (lv' := [(4, .int (zI (hh + 1))), (0, .ref (ad i)), (1, .int (zI (z))), (2, .int (zI (cn))), (3, .int (zI (fi))), (5, .int (zI (mm)))]) (j := 4) C dX10_falls_101 rfl rfl (by decide) rfl ?_
                    refine z_goto (tgt := 46) C dX10_falls_104 (by decide) ?_
                    have hMy84 : okMr cs ad g1 i (x) F9b r9b := okMr.upd fMb hg_y59 fMb.2.1 (fun f _ => rfl) ha1_y59 (hA_y59.mono (by omega)) (fun j a b => by
                        exact Or.inl (by rfl))
                    have hFF : (∀ f, f ≠ 12 → f ≠ 27 → f ≠ 28 → F9b f = F f) := fun f n12 n27 n28 => fFb f n12 n27 n28
                    have hey85 : F9b 13 = F9b 13 := rfl
                    have hey86 : F9b 14 = F9b 14 := rfl
                    refine z_lv (lv' := [(0, .ref (ad i)), (1, .int (zI (z))), (2, .int (zI (cn))), (3, .int (zI (fi))), (4, .int (zI (hh + 1)))]) [1, 2, 3, 4, 0] rfl ?_
                    exact ih_lp1 _ (by omega) (cn) (fi) (hh + 1) _ _ g1 rfl hMy84 hFF (fun j j1 => by exact f3 j j1) (by omega) (by omega) (by omega)
                  · refine z_aload_n C 0 dX10_falls_65 rfl ?_
                    refine z_iload C 4 dX10_falls_66 rfl ?_
                    refine z_iload C 5 dX10_falls_68 rfl ?_
                    have hMy87 : okMr cs ad g1 i (x) F9b r9b := okMr.upd fMb hg_y59 fMb.2.1 (fun f _ => rfl) ha1_y59 (hA_y59.mono (by omega)) (fun j a b => by
                        exact Or.inl (by rfl))
                    refine z_cV (As := [.int (zI (hh)), .int (zI (mm))]) (rest := []) (ci := 12) C (c_X10_isGuess l D A cs tt N ad _ i hN x hx _ _ hMy87 (hh) (by omega) (mm) (by omega)) (by omega) hay60 hg_y59 rfl rfl mv_yX10_isGuess q_2075 hd_yX10_isGuess (by decide) (Nat.le_of_ble_eq_true rfl) (by decide) dX10_falls_70 rfl (kI0 fun vy88 gvy88 hvy88 => ?_)
                    obtain ⟨hrvy88, ⟨Fvy88, rvy88, hMvy88, hFvy88⟩, hfvy88⟩ := hvy88
                    have hBvy88 : (∀ f, f ≠ 27 → f ≠ 28 → Fvy88 f = F9b f) := fun f n27 n28 => (hFvy88 f n27 n28)
                    have hCvy88 : (∀ f, f ≠ 12 → f ≠ 27 → f ≠ 28 → Fvy88 f = F f) := fun f n12 n27 n28 => (hBvy88 f n27 n28).trans (fFb f n12 n27 n28)
                    have hq13vy88 : Fvy88 13 = F9b 13 := (hFvy88 13 (by decide) (by decide)).trans rfl
                    have hq14vy88 : Fvy88 14 = F9b 14 := (hFvy88 14 (by decide) (by decide)).trans rfl
                    have hq15vy88 : Fvy88 15 = F9b 15 := (hFvy88 15 (by decide) (by decide)).trans rfl
                    have hq17vy88 : Fvy88 17 = F9b 17 := (hFvy88 17 (by decide) (by decide)).trans rfl
                    have hq23vy88 : Fvy88 23 = F9b 23 := (hFvy88 23 (by decide) (by decide)).trans rfl
                    obtain ⟨hg_y89, ⟨⟨e13_y89, e14_y89, e25_y89, e27_y89, e29_y89⟩, k15_y89, k16_y89, k17_y89, k18_y89, k19_y89, k20_y89, k23_y89⟩, hRD_y89, hTx_y89, hA_y89, st_y89, op_y89, ai_y89, fa_y89, mu_y89, tb_y89, ns_y89, nh_y89, nd_y89, rf_y89, pi_y89, tp_y89, te_y89, ki_y89, li_y89, ok1_y89, ok2_y89, fo_y89, dd_y89, dps_y89, ⟨ha1_y89, ha2_y89, ha3_y89, ha4_y89, ha5_y89, ha6_y89, ha7_y89, ha8_y89, ha9_y89, ha10_y89, ha11_y89, ha12_y89, ha13_y89, ha14_y89, ha15_y89, ha24_y89, ha25_y89, ha26_y89, ha27_y89, ha28_y89, ha29_y89⟩, hEv_y89, hPt_y89, hns_y89, htp_y89⟩ := id hMvy88
                    obtain ⟨-, hop_y89, hai_y89, hfa_y89, hT_y89, hT1_y89⟩ := id hEv_y89
                    have e14 := e14_y89
                    have e25 := e25_y89
                    have e27 := e27_y89
                    have e29 := e29_y89
                    have hop := hop_y89
                    have hai := hai_y89
                    have hfa := hfa_y89
                    have hT := hT_y89
                    have hT1 := hT1_y89
                    have hEv := hEv_y89
                    have htp := htp_y89
                    have hns := hns_y89
                    have hPt := hPt_y89
                    obtain ⟨⟨hsyy90, htyy90, hnyy90, hpyy90⟩, hlyy90⟩ := okA.at0 hA_y89
                    simp only [Nat.zero_add] at hsyy90 hnyy90 hpyy90
                    have hmn : ∀ s, s < 4 → 0 ≤ rvy88 (6 + 86 * s) ∧ rvy88 (6 + 86 * s) ≤ 12 := fun s hs => (hsyy90 s hs).1
                    have h5 : 0 ≤ rvy88 5 ∧ rvy88 5 ≤ 6 := hpyy90
                    refine z_if_ne (tgt := 79) C dX10_falls_73 (by decide) (by omega) (fun hby91 => ?_) (fun hby91 => ?_)
                    · refine z_iload_n C 2 dX10_falls_79 rfl ?_
                      refine z_if_ne (tgt := 92) C dX10_falls_80 (by decide) (by omega) (fun hby92 => ?_) (fun hby92 => ?_)
                      · refine z_iinc (z := cn + 1) (lv' := [(2, .int (zI (cn + 1))), (0, .ref (ad i)), (1, .int (zI (z))), (3, .int (zI (fi))), (4, .int (zI (hh))), (5, .int (zI (mm)))]) (j := 2) C dX10_falls_92 rfl rfl (by decide) rfl ?_
                        refine z_iinc (z := mm + 1) (lv' := [(5, .int (zI (mm + 1))), (2, .int (zI (cn + 1))), (0, .ref (ad i)), (1, .int (zI (z))), (3, .int (zI (fi))), (4, .int (zI (hh)))]) (j := 5) C dX10_falls_95 rfl rfl (by decide) rfl ?_
                        refine z_goto (tgt := 58) C dX10_falls_98 (by decide) ?_
                        obtain ⟨xy93, exy94, hxy95⟩ := zI_of (zI (cn + 1))
                        rw [exy94]
                        have hMy96 : okMr cs ad gvy88 i (x) Fvy88 rvy88 := okMr.upd hMvy88 hg_y89 hMvy88.2.1 (fun f _ => rfl) ha1_y89 (hA_y89.mono (by omega)) (fun j a b => by
                            exact Or.inl (by rfl))
                        have hFFb : (∀ f, f ≠ 12 → f ≠ 27 → f ≠ 28 → Fvy88 f = F f) := fun f n12 n27 n28 => hCvy88 f n12 n27 n28
                        have hey97 : Fvy88 13 = F9b 13 := hq13vy88
                        have hey98 : Fvy88 14 = F9b 14 := hq14vy88
                        refine z_lv (lv' := [(0, .ref (ad i)), (1, .int (zI (z))), (2, .int (zI (xy93))), (3, .int (zI (fi))), (4, .int (zI (hh))), (5, .int (zI (mm + 1)))]) [2, 3, 1, 4, 5, 0] rfl ?_
                        exact ih_lp2 _ (by omega) (xy93) (fi) (mm + 1) _ _ gvy88 rfl hMy96 hFFb (fun j j1 => by rw [hfvy88 _ (by omega)]; exact f3 j j1) (by omega) (by omega) (by omega)
                      · refine z_bipush (z := 100) C dX10_falls_83 (by decide) ?_
                        refine z_iload C 4 dX10_falls_85 rfl ?_
                        refine z_imul C dX10_falls_87 ?_
                        refine z_iload C 5 dX10_falls_88 rfl ?_
                        refine z_iadd C dX10_falls_90 ?_
                        refine z_istore_n (lv' := [(3, .int (zI ((100 * hh) + mm))), (0, .ref (ad i)), (1, .int (zI (z))), (2, .int (zI (cn))), (4, .int (zI (hh))), (5, .int (zI (mm)))]) C dX10_falls_91 rfl (by decide) rfl ?_
                        refine z_iinc (z := cn + 1) (lv' := [(2, .int (zI (cn + 1))), (3, .int (zI ((100 * hh) + mm))), (0, .ref (ad i)), (1, .int (zI (z))), (4, .int (zI (hh))), (5, .int (zI (mm)))]) (j := 3) C dX10_falls_92 rfl rfl (by decide) rfl ?_
                        refine z_iinc (z := mm + 1) (lv' := [(5, .int (zI (mm + 1))), (2, .int (zI (cn + 1))), (3, .int (zI ((100 * hh) + mm))), (0, .ref (ad i)), (1, .int (zI (z))), (4, .int (zI (hh)))]) (j := 5) C dX10_falls_95 rfl rfl (by decide) rfl ?_
                        refine z_goto (tgt := 58) C dX10_falls_98 (by decide) ?_
                        obtain ⟨xy99, exy100, hxy101⟩ := zI_of (zI (cn + 1))
                        rw [exy100]
                        have hMy102 : okMr cs ad gvy88 i (x) Fvy88 rvy88 := okMr.upd hMvy88 hg_y89 hMvy88.2.1 (fun f _ => rfl) ha1_y89 (hA_y89.mono (by omega)) (fun j a b => by
                            exact Or.inl (by rfl))
                        have hFFb : (∀ f, f ≠ 12 → f ≠ 27 → f ≠ 28 → Fvy88 f = F f) := fun f n12 n27 n28 => hCvy88 f n12 n27 n28
                        have hey103 : Fvy88 13 = F9b 13 := hq13vy88
                        have hey104 : Fvy88 14 = F9b 14 := hq14vy88
                        refine z_lv (lv' := [(0, .ref (ad i)), (1, .int (zI (z))), (2, .int (zI (xy99))), (3, .int (zI ((100 * hh) + mm))), (4, .int (zI (hh))), (5, .int (zI (mm + 1)))]) [3, 4, 1, 2, 5, 0] rfl ?_
                        exact ih_lp2 _ (by omega) (xy99) ((100 * hh) + mm) (mm + 1) _ _ gvy88 rfl hMy102 hFFb (fun j j1 => by rw [hfvy88 _ (by omega)]; exact f3 j j1) (by omega) (by omega) (by omega)
                    · refine z_goto (tgt := 95) C dX10_falls_76 (by decide) ?_
                      refine z_iinc (z := mm + 1) (lv' := [(5, .int (zI (mm + 1))), (0, .ref (ad i)), (1, .int (zI (z))), (2, .int (zI (cn))), (3, .int (zI (fi))), (4, .int (zI (hh)))]) (j := 5) C dX10_falls_95 rfl rfl (by decide) rfl ?_
                      refine z_goto (tgt := 58) C dX10_falls_98 (by decide) ?_
                      have hMy105 : okMr cs ad gvy88 i (x) Fvy88 rvy88 := okMr.upd hMvy88 hg_y89 hMvy88.2.1 (fun f _ => rfl) ha1_y89 (hA_y89.mono (by omega)) (fun j a b => by
                          exact Or.inl (by rfl))
                      have hFFb : (∀ f, f ≠ 12 → f ≠ 27 → f ≠ 28 → Fvy88 f = F f) := fun f n12 n27 n28 => hCvy88 f n12 n27 n28
                      have hey106 : Fvy88 13 = F9b 13 := hq13vy88
                      have hey107 : Fvy88 14 = F9b 14 := hq14vy88
                      refine z_lv (lv' := [(0, .ref (ad i)), (1, .int (zI (z))), (2, .int (zI (cn))), (3, .int (zI (fi))), (4, .int (zI (hh))), (5, .int (zI (mm + 1)))]) [1, 2, 3, 4, 5, 0] rfl ?_
                      exact ih_lp2 _ (by omega) (cn) (fi) (mm + 1) _ _ gvy88 rfl hMy105 hFFb (fun j j1 => by rw [hfvy88 _ (by omega)]; exact f3 j j1) (by omega) (by omega) (by omega)
              have hMy108 : okMr cs ad g1 i (x) F9 r9 := okMr.upd fM hg_y31 fM.2.1 (fun f _ => rfl) ha1_y31 (hA_y31.mono (by omega)) (fun j a b => by
                  exact Or.inl (by rfl))
              have hFFb : (∀ f, f ≠ 12 → f ≠ 27 → f ≠ 28 → F9 f = F f) := fun f n12 n27 n28 => fF f n12 n27 n28
              have hey109 : F9 13 = F9 13 := rfl
              have hey110 : F9 14 = F9 14 := rfl
              refine z_lv (lv' := [(0, .ref (ad i)), (1, .int (zI (z))), (2, .int (zI (cn))), (3, .int (zI (fi))), (4, .int (zI (hh))), (5, .int (zI (1)))]) [1, 2, 3, 4, 5, 0] rfl ?_
              exact lp2 _ (cn) (fi) (1) _ _ g1 rfl hMy108 hFFb (fun j j1 => by exact f3 j j1) (by omega) (by omega) (by omega)
        have hgy111 := up_n egy25 ha1 (ne_o (i := i) (c := 1) (d := 0) rfl)
        have hgy112 := (hfvy28 (i + 1) (ne_o (i := i) (c := 1) (d := 0) rfl)).trans hgy111
        have hFy113 : ∀ f, f ≠ 12 → Fvy28 f = F f := fun f n12 => ((hFvy28 f n12).trans ((uZ_n _ _ n12).trans rfl))
        have hey114 : Fvy28 13 = F 13 := ((hFvy28 13 (by decide)).trans (fn rfl (by decide)))
        have hey115 : Fvy28 14 = F 14 := ((hFvy28 14 (by decide)).trans (fn rfl (by decide)))
        have hey116 : Fvy28 15 = F 15 := ((hFvy28 15 (by decide)).trans (fn rfl (by decide)))
        have hey117 : Fvy28 16 = F 16 := ((hFvy28 16 (by decide)).trans (fn rfl (by decide)))
        have hey118 : Fvy28 17 = F 17 := ((hFvy28 17 (by decide)).trans (fn rfl (by decide)))
        have hey119 : Fvy28 18 = F 18 := ((hFvy28 18 (by decide)).trans (fn rfl (by decide)))
        have hey120 : Fvy28 19 = F 19 := ((hFvy28 19 (by decide)).trans (fn rfl (by decide)))
        have hey121 : Fvy28 20 = F 20 := ((hFvy28 20 (by decide)).trans (fn rfl (by decide)))
        have hey122 : Fvy28 23 = F 23 := ((hFvy28 23 (by decide)).trans (fn rfl (by decide)))
        have hey123 : Fvy28 25 = F 25 := ((hFvy28 25 (by decide)).trans (fn rfl (by decide)))
        have hey124 : Fvy28 27 = F 27 := ((hFvy28 27 (by decide)).trans (fn rfl (by decide)))
        have hey125 : Fvy28 28 = F 28 := ((hFvy28 28 (by decide)).trans (fn rfl (by decide)))
        have hey126 : Fvy28 29 = F 29 := ((hFvy28 29 (by decide)).trans (fn rfl (by decide)))
        have hKy127 : okF Fvy28 := by unfold okF; omega
        have hMy128 : okMr cs ad gvy28 i (x) Fvy28 r := okMr.upd hM hcvy28 hKy127 (fun f a => hFy113 f (by omega)) hgy112 (hA.mono (by omega)) (fun j a b => by
            exact Or.inl (by rw [hfvy28 _ (by omega)]; rw [egy25, va_up_ne _ _ (by omega)]))
        have hFy129 : ∀ f, f ≠ 12 → Fvy28 f = F f := fun f n12 => ((hFvy28 f n12).trans ((uZ_n _ _ n12).trans rfl))
        have hFF : (∀ f, f ≠ 12 → f ≠ 27 → f ≠ 28 → Fvy28 f = F f) := fun f n12 n27 n28 => (hFy129 f n12)
        have hey130 : Fvy28 13 = F 13 := ((hFvy28 13 (by decide)).trans (fn rfl (by decide)))
        have hey131 : Fvy28 14 = F 14 := ((hFvy28 14 (by decide)).trans (fn rfl (by decide)))
        refine z_lv (lv' := [(0, .ref (ad i)), (1, .int (zI (z))), (2, .int (zI (0))), (3, .int (zI (-1))), (4, .int (zI (0)))]) [3, 4, 2, 1, 0] rfl ?_
        exact lp1 _ (0) (-1) (0) _ _ gvy28 rfl hMy128 hFF (fun j j1 => by rw [hfvy28 _ (by omega)]; rw [egy25, va_up_ne _ _ (by omega)]) (by omega) (by omega) (by omega)
      · refine z_aload_n C 0 dX10_falls_26 rfl ?_
        have hgy132 := up_n egy25 ha1 (ne_o (i := i) (c := 1) (d := 0) rfl)
        have hgy133 := (hfvy28 (i + 1) (ne_o (i := i) (c := 1) (d := 0) rfl)).trans hgy132
        have hFy134 : ∀ f, f ≠ 12 → Fvy28 f = F f := fun f n12 => ((hFvy28 f n12).trans ((uZ_n _ _ n12).trans rfl))
        have hey135 : Fvy28 13 = F 13 := ((hFvy28 13 (by decide)).trans (fn rfl (by decide)))
        have hey136 : Fvy28 14 = F 14 := ((hFvy28 14 (by decide)).trans (fn rfl (by decide)))
        have hey137 : Fvy28 15 = F 15 := ((hFvy28 15 (by decide)).trans (fn rfl (by decide)))
        have hey138 : Fvy28 16 = F 16 := ((hFvy28 16 (by decide)).trans (fn rfl (by decide)))
        have hey139 : Fvy28 17 = F 17 := ((hFvy28 17 (by decide)).trans (fn rfl (by decide)))
        have hey140 : Fvy28 18 = F 18 := ((hFvy28 18 (by decide)).trans (fn rfl (by decide)))
        have hey141 : Fvy28 19 = F 19 := ((hFvy28 19 (by decide)).trans (fn rfl (by decide)))
        have hey142 : Fvy28 20 = F 20 := ((hFvy28 20 (by decide)).trans (fn rfl (by decide)))
        have hey143 : Fvy28 23 = F 23 := ((hFvy28 23 (by decide)).trans (fn rfl (by decide)))
        have hey144 : Fvy28 25 = F 25 := ((hFvy28 25 (by decide)).trans (fn rfl (by decide)))
        have hey145 : Fvy28 27 = F 27 := ((hFvy28 27 (by decide)).trans (fn rfl (by decide)))
        have hey146 : Fvy28 28 = F 28 := ((hFvy28 28 (by decide)).trans (fn rfl (by decide)))
        have hey147 : Fvy28 29 = F 29 := ((hFvy28 29 (by decide)).trans (fn rfl (by decide)))
        have hKy148 : okF Fvy28 := by unfold okF; omega
        have hMy149 : okMr cs ad gvy28 i (x) Fvy28 r := okMr.upd hM hcvy28 hKy148 (fun f a => hFy134 f (by omega)) hgy133 (hA.mono (by omega)) (fun j a b => by
            exact Or.inl (by rw [hfvy28 _ (by omega)]; rw [egy25, va_up_ne _ _ (by omega)]))
        refine z_cV (As := []) (rest := []) (ci := 12) C (c_X10_isNoted l D A cs tt N ad _ i hN x hx _ _ hMy149 ) (by omega) hay1 hcvy28 rfl rfl mv_yX10_isNoted q_2071 hd_yX10_isNoted (by decide) (Nat.le_of_ble_eq_true rfl) (by decide) dX10_falls_27 rfl (kI0 fun vy150 gvy150 hvy150 => ?_)
        obtain ⟨hrvy150, ⟨Fvy150, rvy150, hMvy150, hFvy150⟩, hfvy150⟩ := hvy150
        have hFy151 : ∀ f, f ≠ 12 → Fvy28 f = F f := fun f n12 => ((hFvy28 f n12).trans ((uZ_n _ _ n12).trans rfl))
        have hBvy150 : (∀ f, f ≠ 12 → Fvy150 f = F f) := fun f n12 => (hFvy150 f ).trans (hFy151 f n12)
        have hCvy150 := hBvy150
        have hq13vy150 : Fvy150 13 = F 13 := (hFvy150 13).trans ((hFvy28 13 (by decide)).trans (fn rfl (by decide)))
        have hq14vy150 : Fvy150 14 = F 14 := (hFvy150 14).trans ((hFvy28 14 (by decide)).trans (fn rfl (by decide)))
        have hq15vy150 : Fvy150 15 = F 15 := (hFvy150 15).trans ((hFvy28 15 (by decide)).trans (fn rfl (by decide)))
        have hq17vy150 : Fvy150 17 = F 17 := (hFvy150 17).trans ((hFvy28 17 (by decide)).trans (fn rfl (by decide)))
        have hq23vy150 : Fvy150 23 = F 23 := (hFvy150 23).trans ((hFvy28 23 (by decide)).trans (fn rfl (by decide)))
        obtain ⟨hg_y152, ⟨⟨e13_y152, e14_y152, e25_y152, e27_y152, e29_y152⟩, k15_y152, k16_y152, k17_y152, k18_y152, k19_y152, k20_y152, k23_y152⟩, hRD_y152, hTx_y152, hA_y152, st_y152, op_y152, ai_y152, fa_y152, mu_y152, tb_y152, ns_y152, nh_y152, nd_y152, rf_y152, pi_y152, tp_y152, te_y152, ki_y152, li_y152, ok1_y152, ok2_y152, fo_y152, dd_y152, dps_y152, ⟨ha1_y152, ha2_y152, ha3_y152, ha4_y152, ha5_y152, ha6_y152, ha7_y152, ha8_y152, ha9_y152, ha10_y152, ha11_y152, ha12_y152, ha13_y152, ha14_y152, ha15_y152, ha24_y152, ha25_y152, ha26_y152, ha27_y152, ha28_y152, ha29_y152⟩, hEv_y152, hPt_y152, hns_y152, htp_y152⟩ := id hMvy150
        obtain ⟨-, hop_y152, hai_y152, hfa_y152, hT_y152, hT1_y152⟩ := id hEv_y152
        have e14 := e14_y152
        have e25 := e25_y152
        have e27 := e27_y152
        have e29 := e29_y152
        have hop := hop_y152
        have hai := hai_y152
        have hfa := hfa_y152
        have hT := hT_y152
        have hT1 := hT1_y152
        have hEv := hEv_y152
        have htp := htp_y152
        have hns := hns_y152
        have hPt := hPt_y152
        obtain ⟨⟨hsyy153, htyy153, hnyy153, hpyy153⟩, hlyy153⟩ := okA.at0 hA_y152
        simp only [Nat.zero_add] at hsyy153 hnyy153 hpyy153
        have hmn : ∀ s, s < 4 → 0 ≤ rvy150 (6 + 86 * s) ∧ rvy150 (6 + 86 * s) ≤ 12 := fun s hs => (hsyy153 s hs).1
        have h5 : 0 ≤ rvy150 5 ∧ rvy150 5 ≤ 6 := hpyy153
        refine z_if_eq (tgt := 37) C dX10_falls_30 (by decide) (by omega) (fun hby154 => ?_) (fun hby154 => ?_)
        · refine z_iconst (z := 0) C dX10_falls_37 rfl ?_
          have hMy155 : okMr cs ad gvy150 i (x + 1) Fvy150 rvy150 := okMr.upd hMvy150 hg_y152 hMvy150.2.1 (fun f _ => rfl) ha1_y152 (hA_y152.mono (by omega)) (fun j a b => by
              exact Or.inl (by rfl))
          have h23 : Fvy150 23 = F 23 := hq23vy150
          exact z_iret C hr hlk dX10_falls_38 (by decide) (by decide) ⟨0, rfl, rfl, rfl, by omega, ⟨_, _, hMy155, by omega⟩, fun j j1 => by rw [hfvy150 _ (by omega)]; rw [hfvy28 _ (by omega)]; rw [egy25, va_up_ne _ _ (by omega)]⟩
        · refine z_iconst (z := 1) C dX10_falls_33 rfl ?_
          refine z_goto (tgt := 38) C dX10_falls_34 (by decide) ?_
          have hMy156 : okMr cs ad gvy150 i (x + 1) Fvy150 rvy150 := okMr.upd hMvy150 hg_y152 hMvy150.2.1 (fun f _ => rfl) ha1_y152 (hA_y152.mono (by omega)) (fun j a b => by
              exact Or.inl (by rfl))
          have h23 : Fvy150 23 = F 23 := hq23vy150
          exact z_iret C hr hlk dX10_falls_38 (by decide) (by decide) ⟨1, rfl, rfl, rfl, by omega, ⟨_, _, hMy156, by omega⟩, fun j j1 => by rw [hfvy150 _ (by omega)]; rw [hfvy28 _ (by omega)]; rw [egy25, va_up_ne _ _ (by omega)]⟩
    · refine z_if_ne (tgt := 21) C dX10_falls_16 (by decide) (by omega) (fun h => absurd h (by omega)) (fun _ => ?_)
      refine z_iconst (z := 0) C dX10_falls_19 rfl ?_
      have hgy157 := up_n egy25 ha1 (ne_o (i := i) (c := 1) (d := 0) rfl)
      have hgy158 := (hfvy28 (i + 1) (ne_o (i := i) (c := 1) (d := 0) rfl)).trans hgy157
      have hFy159 : ∀ f, f ≠ 12 → Fvy28 f = F f := fun f n12 => ((hFvy28 f n12).trans ((uZ_n _ _ n12).trans rfl))
      have hey160 : Fvy28 13 = F 13 := ((hFvy28 13 (by decide)).trans (fn rfl (by decide)))
      have hey161 : Fvy28 14 = F 14 := ((hFvy28 14 (by decide)).trans (fn rfl (by decide)))
      have hey162 : Fvy28 15 = F 15 := ((hFvy28 15 (by decide)).trans (fn rfl (by decide)))
      have hey163 : Fvy28 16 = F 16 := ((hFvy28 16 (by decide)).trans (fn rfl (by decide)))
      have hey164 : Fvy28 17 = F 17 := ((hFvy28 17 (by decide)).trans (fn rfl (by decide)))
      have hey165 : Fvy28 18 = F 18 := ((hFvy28 18 (by decide)).trans (fn rfl (by decide)))
      have hey166 : Fvy28 19 = F 19 := ((hFvy28 19 (by decide)).trans (fn rfl (by decide)))
      have hey167 : Fvy28 20 = F 20 := ((hFvy28 20 (by decide)).trans (fn rfl (by decide)))
      have hey168 : Fvy28 23 = F 23 := ((hFvy28 23 (by decide)).trans (fn rfl (by decide)))
      have hey169 : Fvy28 25 = F 25 := ((hFvy28 25 (by decide)).trans (fn rfl (by decide)))
      have hey170 : Fvy28 27 = F 27 := ((hFvy28 27 (by decide)).trans (fn rfl (by decide)))
      have hey171 : Fvy28 28 = F 28 := ((hFvy28 28 (by decide)).trans (fn rfl (by decide)))
      have hey172 : Fvy28 29 = F 29 := ((hFvy28 29 (by decide)).trans (fn rfl (by decide)))
      have hKy173 : okF Fvy28 := by unfold okF; omega
      have hMy174 : okMr cs ad gvy28 i (x + 1) Fvy28 r := okMr.upd hM hcvy28 hKy173 (fun f a => hFy159 f (by omega)) hgy158 (hA.mono (by omega)) (fun j a b => by
          exact Or.inl (by rw [hfvy28 _ (by omega)]; rw [egy25, va_up_ne _ _ (by omega)]))
      have h23 : Fvy28 23 = F 23 := ((hFvy28 23 (by decide)).trans (fn rfl (by decide)))
      exact z_iret C hr hlk dX10_falls_20 (by decide) (by decide) ⟨0, rfl, rfl, rfl, by omega, ⟨_, _, hMy174, by omega⟩, fun j j1 => by rw [hfvy28 _ (by omega)]; rw [egy25, va_up_ne _ _ (by omega)]⟩
  · refine z_iconst (z := 1) C dX10_falls_12 rfl ?_
    have hey176 : (uZ F 12 (0)) 12 = 0 := (uZ_s _ _ _)
    refine z_cV (As := [.int (zI (0)), .int (zI (1))]) (rest := []) (ci := 12) C (c_X10_right l D A cs tt N ad _ i hN _ hgy26 (by omega) (0) (by omega) (1) (by omega)) (by omega) hay1 hgy26 rfl rfl mv_yX10_right q_1648 hd_yX10_right (by decide) (Nat.le_of_ble_eq_true rfl) (by decide) dX10_falls_13 rfl (kI0 fun vy175 gvy175 hvy175 => ?_)
    obtain ⟨hrvy175, ⟨Fvy175, hcvy175, htvy175, hFvy175⟩, hfvy175⟩ := hvy175
    obtain rfl : vy175 = 0 := by omega
    refine z_if_ne (tgt := 21) C dX10_falls_16 (by decide) (by omega) (fun h => absurd h (by omega)) (fun _ => ?_)
    refine z_iconst (z := 0) C dX10_falls_19 rfl ?_
    have hgy177 := up_n egy25 ha1 (ne_o (i := i) (c := 1) (d := 0) rfl)
    have hgy178 := (hfvy175 (i + 1) (ne_o (i := i) (c := 1) (d := 0) rfl)).trans hgy177
    have hFy179 : ∀ f, f ≠ 12 → Fvy175 f = F f := fun f n12 => ((hFvy175 f n12).trans ((uZ_n _ _ n12).trans rfl))
    have hey180 : Fvy175 13 = F 13 := ((hFvy175 13 (by decide)).trans (fn rfl (by decide)))
    have hey181 : Fvy175 14 = F 14 := ((hFvy175 14 (by decide)).trans (fn rfl (by decide)))
    have hey182 : Fvy175 15 = F 15 := ((hFvy175 15 (by decide)).trans (fn rfl (by decide)))
    have hey183 : Fvy175 16 = F 16 := ((hFvy175 16 (by decide)).trans (fn rfl (by decide)))
    have hey184 : Fvy175 17 = F 17 := ((hFvy175 17 (by decide)).trans (fn rfl (by decide)))
    have hey185 : Fvy175 18 = F 18 := ((hFvy175 18 (by decide)).trans (fn rfl (by decide)))
    have hey186 : Fvy175 19 = F 19 := ((hFvy175 19 (by decide)).trans (fn rfl (by decide)))
    have hey187 : Fvy175 20 = F 20 := ((hFvy175 20 (by decide)).trans (fn rfl (by decide)))
    have hey188 : Fvy175 23 = F 23 := ((hFvy175 23 (by decide)).trans (fn rfl (by decide)))
    have hey189 : Fvy175 25 = F 25 := ((hFvy175 25 (by decide)).trans (fn rfl (by decide)))
    have hey190 : Fvy175 27 = F 27 := ((hFvy175 27 (by decide)).trans (fn rfl (by decide)))
    have hey191 : Fvy175 28 = F 28 := ((hFvy175 28 (by decide)).trans (fn rfl (by decide)))
    have hey192 : Fvy175 29 = F 29 := ((hFvy175 29 (by decide)).trans (fn rfl (by decide)))
    have hKy193 : okF Fvy175 := by unfold okF; omega
    have hMy194 : okMr cs ad gvy175 i (x + 1) Fvy175 r := okMr.upd hM hcvy175 hKy193 (fun f a => hFy179 f (by omega)) hgy178 (hA.mono (by omega)) (fun j a b => by
        exact Or.inl (by rw [hfvy175 _ (by omega)]; rw [egy25, va_up_ne _ _ (by omega)]))
    have h23 : Fvy175 23 = F 23 := ((hFvy175 23 (by decide)).trans (fn rfl (by decide)))
    exact z_iret C hr hlk dX10_falls_20 (by decide) (by decide) ⟨0, rfl, rfl, rfl, by omega, ⟨_, _, hMy194, by omega⟩, fun j j1 => by rw [hfvy175 _ (by omega)]; rw [egy25, va_up_ne _ _ (by omega)]⟩

set_option maxRecDepth 100000 in
set_option maxHeartbeats 4000000 in
theorem c_X10_unlike (l : Launch) (D : va_G) (A : Nat → Prop) (cs : Nat → ClassId) (tt : Nat) (N : Nat) (ad : Nat → Nat) (g : Nat → va_E) (i : Nat) (hN : i + 30 ≤ N) (F : Nat → Int) (hg : g i = mC ad i F) (dps : Nat → Int) (ha29 : g (i + 29) = iA cs 4800 dps) (z : Int) (hz : 0 ≤ z ∧ z ≤ 3) (z1 : Int) (hz1 : 0 ≤ z1 ∧ z1 ≤ 1200) : zM l yX10_unlike cX10_unlike 7 (some .int) ({ frames := 1, cells := 0, slots := 0, locals := 60 } : Room) D A cs tt N ad g [.ref (ad i), .int (zI (z)), .int (zI (z1))] (rI0 N ad fun r g' => (-2147483648 ≤ r ∧ r ≤ 2147483647) ∧ g = g') := by
  have hay1 : zAt ad (i) (ad i) := rfl
  have hay2 : zAt ad (i + 29) (ad (i + 29)) := rfl
  refine z_of (by decide) (Nat.le_of_ble_eq_true rfl) ?_
  intro pZ eZ sZ mZ below meth cZ C hr hlk hnm
  refine z_lv (lv' := [(0, .ref (ad i)), (1, .int (zI (z))), (2, .int (zI (z1)))]) [0, 1, 2] rfl ?_
  have lpo : ∀ (n9 : Nat) (mn : Int) (aa : Int) (g1 : Nat → va_E), (1201 - aa).toNat = n9 → (g = g1) → (-2147483648 ≤ mn ∧ mn ≤ 2147483647) → (0 ≤ aa ∧ aa ≤ z1) → zV pZ l eZ ({ frames := 1, cells := 0, slots := 0, locals := 60 } : Room) sZ mZ ([.ref (ad i), .int (zI (z)), .int (zI (z1))] : List Value).toArray below meth cZ (MQ below (zPost D A (rI0 N ad fun r g' => (-2147483648 ≤ r ∧ r ≤ 2147483647) ∧ g = g')) ([.ref (ad i), .int (zI (z)), .int (zI (z1))] : List Value).toArray sZ ({ frames := 1, cells := 0, slots := 0, locals := 60 } : Room).cells ({ frames := 1, cells := 0, slots := 0, locals := 60 } : Room).slots A) D A 7 (N) ad g1 (0) (0) 5 [(0, .ref (ad i)), (1, .int (zI (z))), (2, .int (zI (z1))), (3, .int (zI (mn))), (4, .int (zI (aa)))] [] := by
    intro n9
    induction n9 using Nat.strongRecOn with
    | ind n9 ih_lpo =>
      intro mn aa g1 hm9 hg1 hvo hvp
      subst hg1
      refine z_iload C 4 dX10_unlike_5 rfl ?_
      refine z_iload_n C 2 dX10_unlike_7 rfl ?_
      refine z_icmp_ge (tgt := 86) C dX10_unlike_8 (by decide) (by omega) (by omega) (fun hby3 => ?_) (fun hby3 => ?_)
      · refine z_iload_n C 3 dX10_unlike_86 rfl ?_
        exact z_iret C hr hlk dX10_unlike_87 (by decide) (by decide) ⟨mn, rfl, rfl, rfl, by omega, rfl⟩
      · refine z_iconst (z := 1) C dX10_unlike_11 rfl ?_
        refine z_istore (lv' := [(5, .int (zI (1))), (0, .ref (ad i)), (1, .int (zI (z))), (2, .int (zI (z1))), (3, .int (zI (mn))), (4, .int (zI (aa)))]) C dX10_unlike_12 (by decide) rfl ?_
        refine z_iconst (z := 0) C dX10_unlike_14 rfl ?_
        refine z_istore (lv' := [(6, .int (zI (0))), (5, .int (zI (1))), (0, .ref (ad i)), (1, .int (zI (z))), (2, .int (zI (z1))), (3, .int (zI (mn))), (4, .int (zI (aa)))]) C dX10_unlike_15 (by decide) rfl ?_
        have lpi : ∀ (n9 : Nat) (nw : Int) (bb : Int) (g1 : Nat → va_E), (1201 - bb).toNat = n9 → (g = g1) → (0 ≤ nw ∧ nw ≤ 1) → (0 ≤ bb ∧ bb ≤ aa) → zV pZ l eZ ({ frames := 1, cells := 0, slots := 0, locals := 60 } : Room) sZ mZ ([.ref (ad i), .int (zI (z)), .int (zI (z1))] : List Value).toArray below meth cZ (MQ below (zPost D A (rI0 N ad fun r g' => (-2147483648 ≤ r ∧ r ≤ 2147483647) ∧ g = g')) ([.ref (ad i), .int (zI (z)), .int (zI (z1))] : List Value).toArray sZ ({ frames := 1, cells := 0, slots := 0, locals := 60 } : Room).cells ({ frames := 1, cells := 0, slots := 0, locals := 60 } : Room).slots A) D A 7 (N) ad g1 (0) (0) 17 [(0, .ref (ad i)), (1, .int (zI (z))), (2, .int (zI (z1))), (3, .int (zI (mn))), (4, .int (zI (aa))), (5, .int (zI (nw))), (6, .int (zI (bb)))] [] := by
          intro n9
          induction n9 using Nat.strongRecOn with
          | ind n9 ih_lpi =>
            intro nw bb g1 hm9 hg2 hvi hvj
            subst hg2
            refine z_iload C 6 dX10_unlike_17 rfl ?_
            refine z_iload C 4 dX10_unlike_19 rfl ?_
            refine z_icmp_ge (tgt := 67) C dX10_unlike_21 (by decide) (by omega) (by omega) (fun hby4 => ?_) (fun hby4 => ?_)
            · refine z_iload_n C 3 dX10_unlike_67 rfl ?_
              refine z_iload C 5 dX10_unlike_68 rfl ?_
              refine z_if_eq (tgt := 77) C dX10_unlike_70 (by decide) (by omega) (fun hby5 => ?_) (fun hby5 => ?_)
              · refine z_iconst (z := 0) C dX10_unlike_77 rfl ?_
                refine z_iadd C dX10_unlike_78 ?_
                refine z_istore_n (lv' := [(3, .int (zI (mn + 0))), (0, .ref (ad i)), (1, .int (zI (z))), (2, .int (zI (z1))), (4, .int (zI (aa))), (5, .int (zI (nw))), (6, .int (zI (bb)))]) C dX10_unlike_79 rfl (by decide) rfl ?_
                refine z_iinc (z := aa + 1) (lv' := [(4, .int (zI (aa + 1))), (3, .int (zI (mn + 0))), (0, .ref (ad i)), (1, .int (zI (z))), (2, .int (zI (z1))), (5, .int (zI (nw))), (6, .int (zI (bb)))]) (j := 4) C dX10_unlike_80 rfl rfl (by decide) rfl ?_
                refine z_goto (tgt := 5) C dX10_unlike_83 (by decide) ?_
                refine z_lv (lv' := [(0, .ref (ad i)), (1, .int (zI (z))), (2, .int (zI (z1))), (3, .int (zI (mn + 0))), (4, .int (zI (aa + 1)))]) [2, 3, 4, 1, 0] rfl ?_
                exact ih_lpo _ (by omega) (mn + 0) (aa + 1) _ rfl rfl (by omega) (by omega)
              · refine z_iconst (z := 1) C dX10_unlike_73 rfl ?_
                refine z_goto (tgt := 78) C dX10_unlike_74 (by decide) ?_
                refine z_iadd C dX10_unlike_78 ?_
                refine z_istore_n (lv' := [(3, .int (zI (mn + 1))), (0, .ref (ad i)), (1, .int (zI (z))), (2, .int (zI (z1))), (4, .int (zI (aa))), (5, .int (zI (nw))), (6, .int (zI (bb)))]) C dX10_unlike_79 rfl (by decide) rfl ?_
                refine z_iinc (z := aa + 1) (lv' := [(4, .int (zI (aa + 1))), (3, .int (zI (mn + 1))), (0, .ref (ad i)), (1, .int (zI (z))), (2, .int (zI (z1))), (5, .int (zI (nw))), (6, .int (zI (bb)))]) (j := 4) C dX10_unlike_80 rfl rfl (by decide) rfl ?_
                refine z_goto (tgt := 5) C dX10_unlike_83 (by decide) ?_
                obtain ⟨xy6, exy7, hxy8⟩ := zI_of (zI (mn + 1))
                rw [exy7]
                refine z_lv (lv' := [(0, .ref (ad i)), (1, .int (zI (z))), (2, .int (zI (z1))), (3, .int (zI (xy6))), (4, .int (zI (aa + 1)))]) [2, 3, 4, 1, 0] rfl ?_
                exact ih_lpo _ (by omega) (xy6) (aa + 1) _ rfl rfl (by omega) (by omega)
            · refine z_iload C 5 dX10_unlike_24 rfl ?_
              refine z_if_eq (tgt := 67) C dX10_unlike_26 (by decide) (by omega) (fun hby9 => ?_) (fun hby9 => ?_)
              · refine z_iload_n C 3 dX10_unlike_67 rfl ?_
                refine z_iload C 5 dX10_unlike_68 rfl ?_
                refine z_if_eq (tgt := 77) C dX10_unlike_70 (by decide) (by omega) (fun hby10 => ?_) (fun hby10 => ?_)
                · refine z_iconst (z := 0) C dX10_unlike_77 rfl ?_
                  refine z_iadd C dX10_unlike_78 ?_
                  refine z_istore_n (lv' := [(3, .int (zI (mn + 0))), (0, .ref (ad i)), (1, .int (zI (z))), (2, .int (zI (z1))), (4, .int (zI (aa))), (5, .int (zI (nw))), (6, .int (zI (bb)))]) C dX10_unlike_79 rfl (by decide) rfl ?_
                  refine z_iinc (z := aa + 1) (lv' := [(4, .int (zI (aa + 1))), (3, .int (zI (mn + 0))), (0, .ref (ad i)), (1, .int (zI (z))), (2, .int (zI (z1))), (5, .int (zI (nw))), (6, .int (zI (bb)))]) (j := 4) C dX10_unlike_80 rfl rfl (by decide) rfl ?_
                  refine z_goto (tgt := 5) C dX10_unlike_83 (by decide) ?_
                  refine z_lv (lv' := [(0, .ref (ad i)), (1, .int (zI (z))), (2, .int (zI (z1))), (3, .int (zI (mn + 0))), (4, .int (zI (aa + 1)))]) [2, 3, 4, 1, 0] rfl ?_
                  exact ih_lpo _ (by omega) (mn + 0) (aa + 1) _ rfl rfl (by omega) (by omega)
                · refine z_iconst (z := 1) C dX10_unlike_73 rfl ?_
                  refine z_goto (tgt := 78) C dX10_unlike_74 (by decide) ?_
                  refine z_iadd C dX10_unlike_78 ?_
                  refine z_istore_n (lv' := [(3, .int (zI (mn + 1))), (0, .ref (ad i)), (1, .int (zI (z))), (2, .int (zI (z1))), (4, .int (zI (aa))), (5, .int (zI (nw))), (6, .int (zI (bb)))]) C dX10_unlike_79 rfl (by decide) rfl ?_
                  refine z_iinc (z := aa + 1) (lv' := [(4, .int (zI (aa + 1))), (3, .int (zI (mn + 1))), (0, .ref (ad i)), (1, .int (zI (z))), (2, .int (zI (z1))), (5, .int (zI (nw))), (6, .int (zI (bb)))]) (j := 4) C dX10_unlike_80 rfl rfl (by decide) rfl ?_
                  refine z_goto (tgt := 5) C dX10_unlike_83 (by decide) ?_
                  obtain ⟨xy11, exy12, hxy13⟩ := zI_of (zI (mn + 1))
                  rw [exy12]
                  refine z_lv (lv' := [(0, .ref (ad i)), (1, .int (zI (z))), (2, .int (zI (z1))), (3, .int (zI (xy11))), (4, .int (zI (aa + 1)))]) [2, 3, 4, 1, 0] rfl ?_
                  exact ih_lpo _ (by omega) (xy11) (aa + 1) _ rfl rfl (by omega) (by omega)
              · refine z_aload_n C 0 dX10_unlike_29 rfl ?_
                refine z_get (v := .ref (ad (i + 29))) C (by omega) hay1 hg rfl inA_X10 58 (by decide) q_1517 rfl rfl dX10_unlike_30 ?_
                refine z_iconst (z := 4) C dX10_unlike_33 rfl ?_
                refine z_iload C 6 dX10_unlike_34 rfl ?_
                refine z_imul C dX10_unlike_36 ?_
                refine z_iload_n C 1 dX10_unlike_37 rfl ?_
                refine z_iadd C dX10_unlike_38 ?_
                refine z_iald C (by omega) hay2 ha29 (((4 * bb) + z).toNat) (by omega) (by omega) (by decide) dX10_unlike_39 ?_
                refine z_aload_n C 0 dX10_unlike_40 rfl ?_
                refine z_get (v := .ref (ad (i + 29))) C (by omega) hay1 hg rfl inA_X10 58 (by decide) q_1517 rfl rfl dX10_unlike_41 ?_
                refine z_iconst (z := 4) C dX10_unlike_44 rfl ?_
                refine z_iload C 4 dX10_unlike_45 rfl ?_
                refine z_imul C dX10_unlike_47 ?_
                refine z_iload_n C 1 dX10_unlike_48 rfl ?_
                refine z_iadd C dX10_unlike_49 ?_
                refine z_iald C (by omega) hay2 ha29 (((4 * aa) + z).toNat) (by omega) (by omega) (by decide) dX10_unlike_50 ?_
                obtain ⟨xy14, exy15, hxy16⟩ := zI_of (zI (dps (((4 * aa) + z).toNat)))
                rw [exy15]
                obtain ⟨xy17, exy18, hxy19⟩ := zI_of (zI (dps (((4 * bb) + z).toNat)))
                rw [exy18]
                refine z_icmp_eq (tgt := 58) C dX10_unlike_51 (by decide) (by omega) (by omega) (fun hby20 => ?_) (fun hby20 => ?_)
                · refine z_iconst (z := 0) C dX10_unlike_58 rfl ?_
                  refine z_istore (lv' := [(5, .int (zI (0))), (0, .ref (ad i)), (1, .int (zI (z))), (2, .int (zI (z1))), (3, .int (zI (mn))), (4, .int (zI (aa))), (6, .int (zI (bb)))]) C dX10_unlike_59 (by decide) rfl ?_
                  refine z_iinc (z := bb + 1) (lv' := [(6, .int (zI (bb + 1))), (5, .int (zI (0))), (0, .ref (ad i)), (1, .int (zI (z))), (2, .int (zI (z1))), (3, .int (zI (mn))), (4, .int (zI (aa)))]) (j := 6) C dX10_unlike_61 rfl rfl (by decide) rfl ?_
                  refine z_goto (tgt := 17) C dX10_unlike_64 (by decide) ?_
                  refine z_lv (lv' := [(0, .ref (ad i)), (1, .int (zI (z))), (2, .int (zI (z1))), (3, .int (zI (mn))), (4, .int (zI (aa))), (5, .int (zI (0))), (6, .int (zI (bb + 1)))]) [2, 3, 4, 5, 6, 1, 0] rfl ?_
                  exact ih_lpi _ (by omega) (0) (bb + 1) _ rfl rfl (by omega) (by omega)
                · refine z_iconst (z := 1) C dX10_unlike_54 rfl ?_
                  refine z_goto (tgt := 59) C dX10_unlike_55 (by decide) ?_
                  refine z_istore (lv' := [(5, .int (zI (1))), (0, .ref (ad i)), (1, .int (zI (z))), (2, .int (zI (z1))), (3, .int (zI (mn))), (4, .int (zI (aa))), (6, .int (zI (bb)))]) C dX10_unlike_59 (by decide) rfl ?_
                  refine z_iinc (z := bb + 1) (lv' := [(6, .int (zI (bb + 1))), (5, .int (zI (1))), (0, .ref (ad i)), (1, .int (zI (z))), (2, .int (zI (z1))), (3, .int (zI (mn))), (4, .int (zI (aa)))]) (j := 6) C dX10_unlike_61 rfl rfl (by decide) rfl ?_
                  refine z_goto (tgt := 17) C dX10_unlike_64 (by decide) ?_
                  refine z_lv (lv' := [(0, .ref (ad i)), (1, .int (zI (z))), (2, .int (zI (z1))), (3, .int (zI (mn))), (4, .int (zI (aa))), (5, .int (zI (1))), (6, .int (zI (bb + 1)))]) [2, 3, 4, 5, 6, 1, 0] rfl ?_
                  exact ih_lpi _ (by omega) (1) (bb + 1) _ rfl rfl (by omega) (by omega)
        refine z_lv (lv' := [(0, .ref (ad i)), (1, .int (zI (z))), (2, .int (zI (z1))), (3, .int (zI (mn))), (4, .int (zI (aa))), (5, .int (zI (1))), (6, .int (zI (0)))]) [2, 3, 4, 5, 6, 1, 0] rfl ?_
        exact lpi _ (1) (0) _ rfl rfl (by omega) (by omega)
  refine z_iconst (z := 0) C dX10_unlike_0 rfl ?_
  refine z_istore_n (lv' := [(3, .int (zI (0))), (0, .ref (ad i)), (1, .int (zI (z))), (2, .int (zI (z1)))]) C dX10_unlike_1 rfl (by decide) rfl ?_
  refine z_iconst (z := 0) C dX10_unlike_2 rfl ?_
  refine z_istore (lv' := [(4, .int (zI (0))), (3, .int (zI (0))), (0, .ref (ad i)), (1, .int (zI (z))), (2, .int (zI (z1)))]) C dX10_unlike_3 (by decide) rfl ?_
  refine z_lv (lv' := [(0, .ref (ad i)), (1, .int (zI (z))), (2, .int (zI (z1))), (3, .int (zI (0))), (4, .int (zI (0)))]) [2, 3, 4, 1, 0] rfl ?_
  exact lpo _ (0) (0) _ rfl rfl (by omega) (by omega)

set_option maxRecDepth 100000 in
set_option maxHeartbeats 4000000 in
theorem c_X10_look (l : Launch) (D : va_G) (A : Nat → Prop) (cs : Nat → ClassId) (tt : Nat) (N : Nat) (ad : Nat → Nat) (g : Nat → va_E) (i : Nat) (hN : i + 30 ≤ N) (x : Int) (hx : 0 ≤ x ∧ x ≤ 512) (F r : Nat → Int) (hM : okMr cs ad g i x F r) (z : Int) (hz : -2147483648 ≤ z ∧ z ≤ 2147483647) : zM l yX10_look cX10_look 7 (some .int) ({ frames := 12, cells := 0, slots := 0, locals := 720 } : Room) D A cs tt N ad g [.ref (ad i), .int (zI (z))] (rI0 N ad fun q g' => (-2147483648 ≤ q ∧ q ≤ 2147483647) ∧ (∃ F' r' : Nat → Int, okMr cs ad g' i (x + 1) F' r' ∧ F' 23 = F 23) ∧ ∀ j, j < i ∨ i + 30 ≤ j → g' j = g j) := by
  obtain ⟨hg, ⟨⟨e13, e14, e25, e27, e29⟩, k15, k16, k17, k18, k19, k20, k23⟩, hRD, hTx, hA, st, op, ai, fa, mu, tb, ns, nh, nd, rf, pi, tp, te, ki, li, ok1, ok2, fo, dd, dps, ⟨ha1, ha2, ha3, ha4, ha5, ha6, ha7, ha8, ha9, ha10, ha11, ha12, ha13, ha14, ha15, ha24, ha25, ha26, ha27, ha28, ha29⟩, hEv, hPt, hns, htp⟩ := id hM
  obtain ⟨-, hop, hai, hfa, hT, hT1⟩ := id hEv
  have hay1 : zAt ad (i) (ad i) := rfl
  have hay2 : zAt ad (i + 1) (ad (i + 1)) := rfl
  have hay3 : zAt ad (i + 2) (ad (i + 2)) := rfl
  have hay4 : zAt ad (i + 3) (ad (i + 3)) := rfl
  have hay5 : zAt ad (i + 4) (ad (i + 4)) := rfl
  have hay6 : zAt ad (i + 5) (ad (i + 5)) := rfl
  have hay7 : zAt ad (i + 6) (ad (i + 6)) := rfl
  have hay8 : zAt ad (i + 7) (ad (i + 7)) := rfl
  have hay9 : zAt ad (i + 8) (ad (i + 8)) := rfl
  have hay10 : zAt ad (i + 9) (ad (i + 9)) := rfl
  have hay11 : zAt ad (i + 10) (ad (i + 10)) := rfl
  have hay12 : zAt ad (i + 11) (ad (i + 11)) := rfl
  have hay13 : zAt ad (i + 12) (ad (i + 12)) := rfl
  have hay14 : zAt ad (i + 13) (ad (i + 13)) := rfl
  have hay15 : zAt ad (i + 14) (ad (i + 14)) := rfl
  have hay16 : zAt ad (i + 15) (ad (i + 15)) := rfl
  have hay17 : zAt ad (i + 24) (ad (i + 24)) := rfl
  have hay18 : zAt ad (i + 25) (ad (i + 25)) := rfl
  have hay19 : zAt ad (i + 26) (ad (i + 26)) := rfl
  have hay20 : zAt ad (i + 27) (ad (i + 27)) := rfl
  have hay21 : zAt ad (i + 28) (ad (i + 28)) := rfl
  have hay22 : zAt ad (i + 29) (ad (i + 29)) := rfl
  obtain ⟨⟨hsyy23, htyy23, hnyy23, hpyy23⟩, hlyy23⟩ := okA.at0 hA
  simp only [Nat.zero_add] at hsyy23 hnyy23 hpyy23
  have hmn : ∀ s, s < 4 → 0 ≤ r (6 + 86 * s) ∧ r (6 + 86 * s) ≤ 12 := fun s hs => (hsyy23 s hs).1
  have h5 : 0 ≤ r 5 ∧ r 5 ≤ 6 := hpyy23
  refine z_of (by decide) (Nat.le_of_ble_eq_true rfl) ?_
  intro pZ eZ sZ mZ below meth cZ C hr hlk hnm
  refine z_lv (lv' := [(0, .ref (ad i)), (1, .int (zI (z)))]) [0, 1] rfl ?_
  refine z_aload_n C 0 dX10_look_0 rfl ?_
  refine z_iconst (z := 0) C dX10_look_1 rfl ?_
  refine z_put (fs' := mF ad (i) (uZ F 12 (0))) C (by omega) hay1 hg tyX10 tyX10_ok nmX10 rfl inA_X10 12 (by decide) q_1471 rfl rfl rfl rfl (Nat.le_of_ble_eq_true rfl) rfl dX10_look_2 (fun gy24 egy25 => ?_)
  have hgy26 := up_s egy25
  refine z_aload_n C 0 dX10_look_5 rfl ?_
  refine z_iload_n C 1 dX10_look_6 rfl ?_
  refine z_iconst (z := 0) C dX10_look_7 rfl ?_
  refine z_iconst (z := 1) C dX10_look_8 rfl ?_
  refine z_cS (As := [.int (zI (z)), .int (zI (0)), .int (zI (1))]) (rest := [.ref (ad i)]) C (c_X10_within l D A cs tt N ad _ (z) (by omega) (0) (by omega) (1) (by omega)) ms_yX10_within q_1686 hd_yX10_within (by decide) (Nat.le_of_ble_eq_true rfl) (by decide) dX10_look_9 rfl (kI0 fun vy27 gvy27 hvy27 => ?_)
  obtain ⟨hvy27, rfl⟩ := hvy27
  rcases hvy27 with ⟨rfl, hxvy27⟩ | ⟨rfl, hxvy27⟩
  · refine z_iconst (z := 1) C dX10_look_12 rfl ?_
    have hey29 : (uZ F 12 (0)) 12 = 0 := (uZ_s _ _ _)
    refine z_cV (As := [.int (zI (1)), .int (zI (1))]) (rest := []) (ci := 12) C (c_X10_right l D A cs tt N ad _ i hN _ hgy26 (by omega) (1) (by omega) (1) (by omega)) (by omega) hay1 hgy26 rfl rfl mv_yX10_right q_1648 hd_yX10_right (by decide) (Nat.le_of_ble_eq_true rfl) (by decide) dX10_look_13 rfl (kI0 fun vy28 gvy28 hvy28 => ?_)
    obtain ⟨hrvy28, ⟨Fvy28, hcvy28, htvy28, hFvy28⟩, hfvy28⟩ := hvy28
    rcases (show vy28 = 1 ∨ vy28 = 0 by omega) with rfl | rfl
    · refine z_if_ne (tgt := 21) C dX10_look_16 (by decide) (by omega) (fun _ => ?_) (fun h => absurd h (by omega))
      refine z_iconst (z := 0) C dX10_look_21 rfl ?_
      refine z_istore_n (lv' := [(2, .int (zI (0))), (0, .ref (ad i)), (1, .int (zI (z)))]) C dX10_look_22 rfl (by decide) rfl ?_
      refine z_iconst (z := 0) C dX10_look_23 rfl ?_
      refine z_istore_n (lv' := [(3, .int (zI (0))), (2, .int (zI (0))), (0, .ref (ad i)), (1, .int (zI (z)))]) C dX10_look_24 rfl (by decide) rfl ?_
      have lp1 : ∀ (n9 : Nat) (cn : Int) (hh : Int) (F9 : Nat → Int) (r9 : Nat → Int) (g1 : Nat → va_E), (25 - hh).toNat = n9 → (okMr cs ad g1 i x F9 r9) → ((∀ f, f ≠ 12 → f ≠ 27 → f ≠ 28 → F9 f = F f)) → (∀ j, j < i ∨ i + 30 ≤ j → g1 j = g j) → (0 ≤ cn ∧ cn ≤ 50 * hh) → (0 ≤ hh ∧ hh ≤ F 14) → zV pZ l eZ ({ frames := 12, cells := 0, slots := 0, locals := 720 } : Room) sZ mZ ([.ref (ad i), .int (zI (z))] : List Value).toArray below meth cZ (MQ below (zPost D A (rI0 N ad fun q g' => (-2147483648 ≤ q ∧ q ≤ 2147483647) ∧ (∃ F' r' : Nat → Int, okMr cs ad g' i (x + 1) F' r' ∧ F' 23 = F 23) ∧ ∀ j, j < i ∨ i + 30 ≤ j → g' j = g j)) ([.ref (ad i), .int (zI (z))] : List Value).toArray sZ ({ frames := 12, cells := 0, slots := 0, locals := 720 } : Room).cells ({ frames := 12, cells := 0, slots := 0, locals := 720 } : Room).slots A) D A 7 (N) ad g1 (0) (0) 25 [(0, .ref (ad i)), (1, .int (zI (z))), (2, .int (zI (cn))), (3, .int (zI (hh)))] [] := by
        intro n9
        induction n9 using Nat.strongRecOn with
        | ind n9 ih_lp1 =>
          intro cn hh F9 r9 g1 hm9 fM fF f3 hvlp10 hvlp11
          obtain ⟨hg_y30, ⟨⟨e13_y30, e14_y30, e25_y30, e27_y30, e29_y30⟩, k15_y30, k16_y30, k17_y30, k18_y30, k19_y30, k20_y30, k23_y30⟩, hRD_y30, hTx_y30, hA_y30, st_y30, op_y30, ai_y30, fa_y30, mu_y30, tb_y30, ns_y30, nh_y30, nd_y30, rf_y30, pi_y30, tp_y30, te_y30, ki_y30, li_y30, ok1_y30, ok2_y30, fo_y30, dd_y30, dps_y30, ⟨ha1_y30, ha2_y30, ha3_y30, ha4_y30, ha5_y30, ha6_y30, ha7_y30, ha8_y30, ha9_y30, ha10_y30, ha11_y30, ha12_y30, ha13_y30, ha14_y30, ha15_y30, ha24_y30, ha25_y30, ha26_y30, ha27_y30, ha28_y30, ha29_y30⟩, hEv_y30, hPt_y30, hns_y30, htp_y30⟩ := id fM
          obtain ⟨-, hop_y30, hai_y30, hfa_y30, hT_y30, hT1_y30⟩ := id hEv_y30
          have e14 := e14_y30
          have e25 := e25_y30
          have e27 := e27_y30
          have e29 := e29_y30
          have hop := hop_y30
          have hai := hai_y30
          have hfa := hfa_y30
          have hT := hT_y30
          have hT1 := hT1_y30
          have hEv := hEv_y30
          have htp := htp_y30
          have hns := hns_y30
          have hPt := hPt_y30
          have hay31 : zAt ad (i) (ad i) := rfl
          have hay32 : zAt ad (i + 1) (ad (i + 1)) := rfl
          have hay33 : zAt ad (i + 2) (ad (i + 2)) := rfl
          have hay34 : zAt ad (i + 3) (ad (i + 3)) := rfl
          have hay35 : zAt ad (i + 4) (ad (i + 4)) := rfl
          have hay36 : zAt ad (i + 5) (ad (i + 5)) := rfl
          have hay37 : zAt ad (i + 6) (ad (i + 6)) := rfl
          have hay38 : zAt ad (i + 7) (ad (i + 7)) := rfl
          have hay39 : zAt ad (i + 8) (ad (i + 8)) := rfl
          have hay40 : zAt ad (i + 9) (ad (i + 9)) := rfl
          have hay41 : zAt ad (i + 10) (ad (i + 10)) := rfl
          have hay42 : zAt ad (i + 11) (ad (i + 11)) := rfl
          have hay43 : zAt ad (i + 12) (ad (i + 12)) := rfl
          have hay44 : zAt ad (i + 13) (ad (i + 13)) := rfl
          have hay45 : zAt ad (i + 14) (ad (i + 14)) := rfl
          have hay46 : zAt ad (i + 15) (ad (i + 15)) := rfl
          have hay47 : zAt ad (i + 24) (ad (i + 24)) := rfl
          have hay48 : zAt ad (i + 25) (ad (i + 25)) := rfl
          have hay49 : zAt ad (i + 26) (ad (i + 26)) := rfl
          have hay50 : zAt ad (i + 27) (ad (i + 27)) := rfl
          have hay51 : zAt ad (i + 28) (ad (i + 28)) := rfl
          have hay52 : zAt ad (i + 29) (ad (i + 29)) := rfl
          obtain ⟨⟨hsyy53, htyy53, hnyy53, hpyy53⟩, hlyy53⟩ := okA.at0 hA_y30
          simp only [Nat.zero_add] at hsyy53 hnyy53 hpyy53
          have hmn : ∀ s, s < 4 → 0 ≤ r9 (6 + 86 * s) ∧ r9 (6 + 86 * s) ≤ 12 := fun s hs => (hsyy53 s hs).1
          have h5 : 0 ≤ r9 5 ∧ r9 5 ≤ 6 := hpyy53
          have h13e : F9 13 = F 13 := fF 13 (by decide) (by decide) (by decide)
          have h14e : F9 14 = F 14 := fF 14 (by decide) (by decide) (by decide)
          have h17e : F9 17 = F 17 := fF 17 (by decide) (by decide) (by decide)
          have h23e : F9 23 = F 23 := fF 23 (by decide) (by decide) (by decide)
          refine z_iload_n C 3 dX10_look_25 rfl ?_
          refine z_aload_n C 0 dX10_look_26 rfl ?_
          refine z_get (v := .int (zI (F9 14))) C (by omega) hay31 hg_y30 rfl inA_X10 14 (by decide) q_1473 rfl (fv (F := F9) (f := 14) rfl) dX10_look_27 ?_
          refine z_icmp_ge (tgt := 107) C dX10_look_30 (by decide) (by omega) (by omega) (fun hby54 => ?_) (fun hby54 => ?_)
          · refine z_iconst (z := -1) C dX10_look_107 rfl ?_
            refine z_istore_n (lv' := [(3, .int (zI (-1))), (0, .ref (ad i)), (1, .int (zI (z))), (2, .int (zI (cn)))]) C dX10_look_108 rfl (by decide) rfl ?_
            refine z_iconst (z := 0) C dX10_look_109 rfl ?_
            refine z_istore (lv' := [(4, .int (zI (0))), (3, .int (zI (-1))), (0, .ref (ad i)), (1, .int (zI (z))), (2, .int (zI (cn)))]) C dX10_look_110 (by decide) rfl ?_
            refine z_iconst (z := 0) C dX10_look_112 rfl ?_
            refine z_istore (lv' := [(5, .int (zI (0))), (4, .int (zI (0))), (3, .int (zI (-1))), (0, .ref (ad i)), (1, .int (zI (z))), (2, .int (zI (cn)))]) C dX10_look_113 (by decide) rfl ?_
            have lp4 : ∀ (n9 : Nat) (it : Int) (tp9 : Int) (ss : Int) (F9d : Nat → Int) (r9d : Nat → Int) (g1 : Nat → va_E), (5 - ss).toNat = n9 → (okMr cs ad g1 i x F9d r9d) → ((∀ f, f ≠ 12 → f ≠ 27 → f ≠ 28 → F9d f = F f)) → (∀ j, j < i ∨ i + 30 ≤ j → g1 j = g j) → (-2147483648 ≤ it ∧ it ≤ 2147483647) → (-2147483648 ≤ tp9 ∧ tp9 ≤ 2147483647) → (0 ≤ ss ∧ ss ≤ F 13) → zV pZ l eZ ({ frames := 12, cells := 0, slots := 0, locals := 720 } : Room) sZ mZ ([.ref (ad i), .int (zI (z))] : List Value).toArray below meth cZ (MQ below (zPost D A (rI0 N ad fun q g' => (-2147483648 ≤ q ∧ q ≤ 2147483647) ∧ (∃ F' r' : Nat → Int, okMr cs ad g' i (x + 1) F' r' ∧ F' 23 = F 23) ∧ ∀ j, j < i ∨ i + 30 ≤ j → g' j = g j)) ([.ref (ad i), .int (zI (z))] : List Value).toArray sZ ({ frames := 12, cells := 0, slots := 0, locals := 720 } : Room).cells ({ frames := 12, cells := 0, slots := 0, locals := 720 } : Room).slots A) D A 7 (N) ad g1 (0) (0) 115 [(0, .ref (ad i)), (1, .int (zI (z))), (2, .int (zI (cn))), (3, .int (zI (it))), (4, .int (zI (tp9))), (5, .int (zI (ss)))] [] := by
              intro n9
              induction n9 using Nat.strongRecOn with
              | ind n9 ih_lp4 =>
                intro it tp9 ss F9d r9d g1 hm9 fMd fFd f3 hvlp40 hvlp41 hvlp42
                obtain ⟨hg_y55, ⟨⟨e13_y55, e14_y55, e25_y55, e27_y55, e29_y55⟩, k15_y55, k16_y55, k17_y55, k18_y55, k19_y55, k20_y55, k23_y55⟩, hRD_y55, hTx_y55, hA_y55, st_y55, op_y55, ai_y55, fa_y55, mu_y55, tb_y55, ns_y55, nh_y55, nd_y55, rf_y55, pi_y55, tp_y55, te_y55, ki_y55, li_y55, ok1_y55, ok2_y55, fo_y55, dd_y55, dps_y55, ⟨ha1_y55, ha2_y55, ha3_y55, ha4_y55, ha5_y55, ha6_y55, ha7_y55, ha8_y55, ha9_y55, ha10_y55, ha11_y55, ha12_y55, ha13_y55, ha14_y55, ha15_y55, ha24_y55, ha25_y55, ha26_y55, ha27_y55, ha28_y55, ha29_y55⟩, hEv_y55, hPt_y55, hns_y55, htp_y55⟩ := id fMd
                obtain ⟨-, hop_y55, hai_y55, hfa_y55, hT_y55, hT1_y55⟩ := id hEv_y55
                have e14 := e14_y55
                have e25 := e25_y55
                have e27 := e27_y55
                have e29 := e29_y55
                have hop := hop_y55
                have hai := hai_y55
                have hfa := hfa_y55
                have hT := hT_y55
                have hT1 := hT1_y55
                have hEv := hEv_y55
                have htp := htp_y55
                have hns := hns_y55
                have hPt := hPt_y55
                have hay56 : zAt ad (i) (ad i) := rfl
                have hay57 : zAt ad (i + 1) (ad (i + 1)) := rfl
                have hay58 : zAt ad (i + 2) (ad (i + 2)) := rfl
                have hay59 : zAt ad (i + 3) (ad (i + 3)) := rfl
                have hay60 : zAt ad (i + 4) (ad (i + 4)) := rfl
                have hay61 : zAt ad (i + 5) (ad (i + 5)) := rfl
                have hay62 : zAt ad (i + 6) (ad (i + 6)) := rfl
                have hay63 : zAt ad (i + 7) (ad (i + 7)) := rfl
                have hay64 : zAt ad (i + 8) (ad (i + 8)) := rfl
                have hay65 : zAt ad (i + 9) (ad (i + 9)) := rfl
                have hay66 : zAt ad (i + 10) (ad (i + 10)) := rfl
                have hay67 : zAt ad (i + 11) (ad (i + 11)) := rfl
                have hay68 : zAt ad (i + 12) (ad (i + 12)) := rfl
                have hay69 : zAt ad (i + 13) (ad (i + 13)) := rfl
                have hay70 : zAt ad (i + 14) (ad (i + 14)) := rfl
                have hay71 : zAt ad (i + 15) (ad (i + 15)) := rfl
                have hay72 : zAt ad (i + 24) (ad (i + 24)) := rfl
                have hay73 : zAt ad (i + 25) (ad (i + 25)) := rfl
                have hay74 : zAt ad (i + 26) (ad (i + 26)) := rfl
                have hay75 : zAt ad (i + 27) (ad (i + 27)) := rfl
                have hay76 : zAt ad (i + 28) (ad (i + 28)) := rfl
                have hay77 : zAt ad (i + 29) (ad (i + 29)) := rfl
                obtain ⟨⟨hsyy78, htyy78, hnyy78, hpyy78⟩, hlyy78⟩ := okA.at0 hA_y55
                simp only [Nat.zero_add] at hsyy78 hnyy78 hpyy78
                have hmn : ∀ s, s < 4 → 0 ≤ r9d (6 + 86 * s) ∧ r9d (6 + 86 * s) ≤ 12 := fun s hs => (hsyy78 s hs).1
                have h5 : 0 ≤ r9d 5 ∧ r9d 5 ≤ 6 := hpyy78
                have h13de : F9d 13 = F 13 := fFd 13 (by decide) (by decide) (by decide)
                have h14de : F9d 14 = F 14 := fFd 14 (by decide) (by decide) (by decide)
                have h17de : F9d 17 = F 17 := fFd 17 (by decide) (by decide) (by decide)
                have h23de : F9d 23 = F 23 := fFd 23 (by decide) (by decide) (by decide)
                refine z_iload C 5 dX10_look_115 rfl ?_
                refine z_aload_n C 0 dX10_look_117 rfl ?_
                refine z_get (v := .int (zI (F9d 13))) C (by omega) hay56 hg_y55 rfl inA_X10 13 (by decide) q_1472 rfl (fv (F := F9d) (f := 13) rfl) dX10_look_118 ?_
                refine z_icmp_ge (tgt := 156) C dX10_look_121 (by decide) (by omega) (by omega) (fun hby79 => ?_) (fun hby79 => ?_)
                · refine z_iload_n C 1 dX10_look_156 rfl ?_
                  refine z_if_ne (tgt := 164) C dX10_look_157 (by decide) (by omega) (fun hby80 => ?_) (fun hby80 => ?_)
                  · refine z_iload C 4 dX10_look_164 rfl ?_
                    have hMy81 : okMr cs ad g1 i (x + 1) F9d r9d := okMr.upd fMd hg_y55 fMd.2.1 (fun f _ => rfl) ha1_y55 (hA_y55.mono (by omega)) (fun j a b => by
                        exact Or.inl (by rfl))
                    have h23 : F9d 23 = F9d 23 := rfl
                    exact z_iret C hr hlk dX10_look_166 (by decide) (by decide) ⟨tp9, rfl, rfl, rfl, by omega, ⟨_, _, hMy81, by omega⟩, fun j j1 => by exact f3 j j1⟩
                  · refine z_iload_n C 3 dX10_look_160 rfl ?_
                    refine z_goto (tgt := 166) C dX10_look_161 (by decide) ?_
                    have hMy82 : okMr cs ad g1 i (x + 1) F9d r9d := okMr.upd fMd hg_y55 fMd.2.1 (fun f _ => rfl) ha1_y55 (hA_y55.mono (by omega)) (fun j a b => by
                        exact Or.inl (by rfl))
                    have h23 : F9d 23 = F9d 23 := rfl
                    exact z_iret C hr hlk dX10_look_166 (by decide) (by decide) ⟨it, rfl, rfl, rfl, by omega, ⟨_, _, hMy82, by omega⟩, fun j j1 => by exact f3 j j1⟩
                · refine z_aload_n C 0 dX10_look_124 rfl ?_
                  refine z_iload C 5 dX10_look_125 rfl ?_
                  refine z_iload_n C 2 dX10_look_127 rfl ?_
                  refine z_cV (As := [.int (zI (ss)), .int (zI (cn))]) (rest := []) (ci := 12) C (c_X10_unlike l D A cs tt N ad _ i hN _ hg_y55 _ ha29_y55 (ss) (by omega) (cn) (by omega)) (by omega) hay56 hg_y55 rfl rfl mv_yX10_unlike q_2083 hd_yX10_unlike (by decide) (Nat.le_of_ble_eq_true rfl) (by decide) dX10_look_128 rfl (kI0 fun vy83 gvy83 hvy83 => ?_)
                  obtain ⟨hvy83, rfl⟩ := hvy83
                  refine z_istore (lv' := [(6, .int (zI (vy83))), (0, .ref (ad i)), (1, .int (zI (z))), (2, .int (zI (cn))), (3, .int (zI (it))), (4, .int (zI (tp9))), (5, .int (zI (ss)))]) C dX10_look_131 (by decide) rfl ?_
                  refine z_iload C 0 dX10_look_133 rfl ?_
                  refine z_iload C 5 dX10_look_135 rfl ?_
                  refine z_icmp_gt (tgt := 143) C dX10_look_137 (by decide) (by omega) (by omega) (fun hby84 => ?_) (fun hby84 => ?_)
                  · refine z_iload C 6 dX10_look_143 rfl ?_
                    refine z_istore_n (lv' := [(3, .int (zI (ss))), (6, .int (zI (vy83))), (0, .ref (ad i)), (1, .int (zI (z))), (2, .int (zI (cn))), (4, .int (zI (tp9))), (5, .int (zI (ss)))]) C dX10_look_145 rfl (by decide) rfl ?_
                    refine z_iload C 1 dX10_look_146 rfl ?_
                    refine z_istore (lv' := [(4, .int (zI (vy83))), (3, .int (zI (ss))), (6, .int (zI (vy83))), (0, .ref (ad i)), (1, .int (zI (z))), (2, .int (zI (cn))), (5, .int (zI (ss)))]) C dX10_look_148 (by decide) rfl ?_
                    refine z_iinc (z := ss + 1) (lv' := [(5, .int (zI (ss + 1))), (4, .int (zI (vy83))), (3, .int (zI (ss))), (6, .int (zI (vy83))), (0, .ref (ad i)), (1, .int (zI (z))), (2, .int (zI (cn)))]) (j := 6) C dX10_look_150 rfl rfl (by decide) rfl ?_
                    refine z_goto (tgt := 115) C dX10_look_153 (by decide) ?_
                    have hMy85 : okMr cs ad g1 i (x) F9d r9d := okMr.upd fMd hg_y55 fMd.2.1 (fun f _ => rfl) ha1_y55 (hA_y55.mono (by omega)) (fun j a b => by
                        exact Or.inl (by rfl))
                    have hFFd : (∀ f, f ≠ 12 → f ≠ 27 → f ≠ 28 → F9d f = F f) := fun f n12 n27 n28 => fFd f n12 n27 n28
                    have hey86 : F9d 13 = F9d 13 := rfl
                    have hey87 : F9d 14 = F9d 14 := rfl
                    refine z_lv (lv' := [(0, .ref (ad i)), (1, .int (zI (z))), (2, .int (zI (cn))), (3, .int (zI (ss))), (4, .int (zI (vy83))), (5, .int (zI (ss + 1)))]) [4, 5, 6, 2, 1, 0] rfl ?_
                    exact ih_lp4 _ (by omega) (ss) (vy83) (ss + 1) _ _ g1 rfl hMy85 hFFd (fun j j1 => by exact f3 j j1) (by omega) (by omega) (by omega)
                  · refine z_goto (tgt := 150) C dX10_look_140 (by decide) ?_
                    refine z_iinc (z := ss + 1) (lv' := [(5, .int (zI (ss + 1))), (6, .int (zI (vy83))), (0, .ref (ad i)), (1, .int (zI (z))), (2, .int (zI (cn))), (3, .int (zI (it))), (4, .int (zI (tp9)))]) (j := 6) C dX10_look_150 rfl rfl (by decide) rfl ?_
                    refine z_goto (tgt := 115) C dX10_look_153 (by decide) ?_
                    have hMy88 : okMr cs ad g1 i (x) F9d r9d := okMr.upd fMd hg_y55 fMd.2.1 (fun f _ => rfl) ha1_y55 (hA_y55.mono (by omega)) (fun j a b => by
                        exact Or.inl (by rfl))
                    have hFFd : (∀ f, f ≠ 12 → f ≠ 27 → f ≠ 28 → F9d f = F f) := fun f n12 n27 n28 => fFd f n12 n27 n28
                    have hey89 : F9d 13 = F9d 13 := rfl
                    have hey90 : F9d 14 = F9d 14 := rfl
                    refine z_lv (lv' := [(0, .ref (ad i)), (1, .int (zI (z))), (2, .int (zI (cn))), (3, .int (zI (it))), (4, .int (zI (tp9))), (5, .int (zI (ss + 1)))]) [2, 3, 4, 5, 6, 0] rfl ?_
                    exact ih_lp4 _ (by omega) (it) (tp9) (ss + 1) _ _ g1 rfl hMy88 hFFd (fun j j1 => by exact f3 j j1) (by omega) (by omega) (by omega)
            have hMy91 : okMr cs ad g1 i (x) F9 r9 := okMr.upd fM hg_y30 fM.2.1 (fun f _ => rfl) ha1_y30 (hA_y30.mono (by omega)) (fun j a b => by
                exact Or.inl (by rfl))
            have hFFd : (∀ f, f ≠ 12 → f ≠ 27 → f ≠ 28 → F9 f = F f) := fun f n12 n27 n28 => fF f n12 n27 n28
            have hey92 : F9 13 = F9 13 := rfl
            have hey93 : F9 14 = F9 14 := rfl
            refine z_lv (lv' := [(0, .ref (ad i)), (1, .int (zI (z))), (2, .int (zI (cn))), (3, .int (zI (-1))), (4, .int (zI (0))), (5, .int (zI (0)))]) [3, 4, 5, 2, 1, 0] rfl ?_
            exact lp4 _ (-1) (0) (0) _ _ g1 rfl hMy91 hFFd (fun j j1 => by exact f3 j j1) (by omega) (by omega) (by omega)
          · refine z_iconst (z := 1) C dX10_look_33 rfl ?_
            refine z_istore (lv' := [(4, .int (zI (1))), (0, .ref (ad i)), (1, .int (zI (z))), (2, .int (zI (cn))), (3, .int (zI (hh)))]) C dX10_look_34 (by decide) rfl ?_
            have lp2 : ∀ (n9 : Nat) (cn : Int) (mm : Int) (F9b : Nat → Int) (r9b : Nat → Int) (g1 : Nat → va_E), (51 - mm).toNat = n9 → (okMr cs ad g1 i x F9b r9b) → ((∀ f, f ≠ 12 → f ≠ 27 → f ≠ 28 → F9b f = F f)) → (∀ j, j < i ∨ i + 30 ≤ j → g1 j = g j) → (0 ≤ cn ∧ cn ≤ 50 * hh + mm - 1) → (1 ≤ mm ∧ mm ≤ 51) → zV pZ l eZ ({ frames := 12, cells := 0, slots := 0, locals := 720 } : Room) sZ mZ ([.ref (ad i), .int (zI (z))] : List Value).toArray below meth cZ (MQ below (zPost D A (rI0 N ad fun q g' => (-2147483648 ≤ q ∧ q ≤ 2147483647) ∧ (∃ F' r' : Nat → Int, okMr cs ad g' i (x + 1) F' r' ∧ F' 23 = F 23) ∧ ∀ j, j < i ∨ i + 30 ≤ j → g' j = g j)) ([.ref (ad i), .int (zI (z))] : List Value).toArray sZ ({ frames := 12, cells := 0, slots := 0, locals := 720 } : Room).cells ({ frames := 12, cells := 0, slots := 0, locals := 720 } : Room).slots A) D A 7 (N) ad g1 (0) (0) 36 [(0, .ref (ad i)), (1, .int (zI (z))), (2, .int (zI (cn))), (3, .int (zI (hh))), (4, .int (zI (mm)))] [] := by
              intro n9
              induction n9 using Nat.strongRecOn with
              | ind n9 ih_lp2 =>
                intro cn mm F9b r9b g1 hm9 fMb fFb f3 hvlp20 hvlp21
                obtain ⟨hg_y94, ⟨⟨e13_y94, e14_y94, e25_y94, e27_y94, e29_y94⟩, k15_y94, k16_y94, k17_y94, k18_y94, k19_y94, k20_y94, k23_y94⟩, hRD_y94, hTx_y94, hA_y94, st_y94, op_y94, ai_y94, fa_y94, mu_y94, tb_y94, ns_y94, nh_y94, nd_y94, rf_y94, pi_y94, tp_y94, te_y94, ki_y94, li_y94, ok1_y94, ok2_y94, fo_y94, dd_y94, dps_y94, ⟨ha1_y94, ha2_y94, ha3_y94, ha4_y94, ha5_y94, ha6_y94, ha7_y94, ha8_y94, ha9_y94, ha10_y94, ha11_y94, ha12_y94, ha13_y94, ha14_y94, ha15_y94, ha24_y94, ha25_y94, ha26_y94, ha27_y94, ha28_y94, ha29_y94⟩, hEv_y94, hPt_y94, hns_y94, htp_y94⟩ := id fMb
                obtain ⟨-, hop_y94, hai_y94, hfa_y94, hT_y94, hT1_y94⟩ := id hEv_y94
                have e14 := e14_y94
                have e25 := e25_y94
                have e27 := e27_y94
                have e29 := e29_y94
                have hop := hop_y94
                have hai := hai_y94
                have hfa := hfa_y94
                have hT := hT_y94
                have hT1 := hT1_y94
                have hEv := hEv_y94
                have htp := htp_y94
                have hns := hns_y94
                have hPt := hPt_y94
                have hay95 : zAt ad (i) (ad i) := rfl
                have hay96 : zAt ad (i + 1) (ad (i + 1)) := rfl
                have hay97 : zAt ad (i + 2) (ad (i + 2)) := rfl
                have hay98 : zAt ad (i + 3) (ad (i + 3)) := rfl
                have hay99 : zAt ad (i + 4) (ad (i + 4)) := rfl
                have hay100 : zAt ad (i + 5) (ad (i + 5)) := rfl
                have hay101 : zAt ad (i + 6) (ad (i + 6)) := rfl
                have hay102 : zAt ad (i + 7) (ad (i + 7)) := rfl
                have hay103 : zAt ad (i + 8) (ad (i + 8)) := rfl
                have hay104 : zAt ad (i + 9) (ad (i + 9)) := rfl
                have hay105 : zAt ad (i + 10) (ad (i + 10)) := rfl
                have hay106 : zAt ad (i + 11) (ad (i + 11)) := rfl
                have hay107 : zAt ad (i + 12) (ad (i + 12)) := rfl
                have hay108 : zAt ad (i + 13) (ad (i + 13)) := rfl
                have hay109 : zAt ad (i + 14) (ad (i + 14)) := rfl
                have hay110 : zAt ad (i + 15) (ad (i + 15)) := rfl
                have hay111 : zAt ad (i + 24) (ad (i + 24)) := rfl
                have hay112 : zAt ad (i + 25) (ad (i + 25)) := rfl
                have hay113 : zAt ad (i + 26) (ad (i + 26)) := rfl
                have hay114 : zAt ad (i + 27) (ad (i + 27)) := rfl
                have hay115 : zAt ad (i + 28) (ad (i + 28)) := rfl
                have hay116 : zAt ad (i + 29) (ad (i + 29)) := rfl
                obtain ⟨⟨hsyy117, htyy117, hnyy117, hpyy117⟩, hlyy117⟩ := okA.at0 hA_y94
                simp only [Nat.zero_add] at hsyy117 hnyy117 hpyy117
                have hmn : ∀ s, s < 4 → 0 ≤ r9b (6 + 86 * s) ∧ r9b (6 + 86 * s) ≤ 12 := fun s hs => (hsyy117 s hs).1
                have h5 : 0 ≤ r9b 5 ∧ r9b 5 ≤ 6 := hpyy117
                have h13be : F9b 13 = F 13 := fFb 13 (by decide) (by decide) (by decide)
                have h14be : F9b 14 = F 14 := fFb 14 (by decide) (by decide) (by decide)
                have h17be : F9b 17 = F 17 := fFb 17 (by decide) (by decide) (by decide)
                have h23be : F9b 23 = F 23 := fFb 23 (by decide) (by decide) (by decide)
                refine z_iload C 4 dX10_look_36 rfl ?_
                refine z_bipush (z := 50) C dX10_look_38 (by decide) ?_
                refine z_icmp_gt (tgt := 101) C dX10_look_40 (by decide) (by omega) (by omega) (fun hby118 => ?_) (fun hby118 => ?_)
                · refine z_iinc (z := hh + 1) (lv' := [(3, .int (zI (hh + 1))), (0, .ref (ad i)), (1, .int (zI (z))), (2, .int (zI (cn))), (4, .int (zI (mm)))]) (j := 3) C dX10_look_101 rfl rfl (by decide) rfl ?_
                  refine z_goto (tgt := 25) C dX10_look_104 (by decide) ?_
                  have hMy119 : okMr cs ad g1 i (x) F9b r9b := okMr.upd fMb hg_y94 fMb.2.1 (fun f _ => rfl) ha1_y94 (hA_y94.mono (by omega)) (fun j a b => by
                      exact Or.inl (by rfl))
                  have hFF : (∀ f, f ≠ 12 → f ≠ 27 → f ≠ 28 → F9b f = F f) := fun f n12 n27 n28 => fFb f n12 n27 n28
                  have hey120 : F9b 13 = F9b 13 := rfl
                  have hey121 : F9b 14 = F9b 14 := rfl
                  refine z_lv (lv' := [(0, .ref (ad i)), (1, .int (zI (z))), (2, .int (zI (cn))), (3, .int (zI (hh + 1)))]) [1, 2, 3, 0] rfl ?_
                  exact ih_lp1 _ (by omega) (cn) (hh + 1) _ _ g1 rfl hMy119 hFF (fun j j1 => by exact f3 j j1) (by omega) (by omega)
                · refine z_aload_n C 0 dX10_look_43 rfl ?_
                  refine z_iload_n C 3 dX10_look_44 rfl ?_
                  refine z_iload C 4 dX10_look_45 rfl ?_
                  have hMy122 : okMr cs ad g1 i (x) F9b r9b := okMr.upd fMb hg_y94 fMb.2.1 (fun f _ => rfl) ha1_y94 (hA_y94.mono (by omega)) (fun j a b => by
                      exact Or.inl (by rfl))
                  refine z_cV (As := [.int (zI (hh)), .int (zI (mm))]) (rest := []) (ci := 12) C (c_X10_isGuess l D A cs tt N ad _ i hN x hx _ _ hMy122 (hh) (by omega) (mm) (by omega)) (by omega) hay95 hg_y94 rfl rfl mv_yX10_isGuess q_2075 hd_yX10_isGuess (by decide) (Nat.le_of_ble_eq_true rfl) (by decide) dX10_look_47 rfl (kI0 fun vy123 gvy123 hvy123 => ?_)
                  obtain ⟨hrvy123, ⟨Fvy123, rvy123, hMvy123, hFvy123⟩, hfvy123⟩ := hvy123
                  have hBvy123 : (∀ f, f ≠ 27 → f ≠ 28 → Fvy123 f = F9b f) := fun f n27 n28 => (hFvy123 f n27 n28)
                  have hCvy123 : (∀ f, f ≠ 12 → f ≠ 27 → f ≠ 28 → Fvy123 f = F f) := fun f n12 n27 n28 => (hBvy123 f n27 n28).trans (fFb f n12 n27 n28)
                  have hq13vy123 : Fvy123 13 = F9b 13 := (hFvy123 13 (by decide) (by decide)).trans rfl
                  have hq14vy123 : Fvy123 14 = F9b 14 := (hFvy123 14 (by decide) (by decide)).trans rfl
                  have hq15vy123 : Fvy123 15 = F9b 15 := (hFvy123 15 (by decide) (by decide)).trans rfl
                  have hq17vy123 : Fvy123 17 = F9b 17 := (hFvy123 17 (by decide) (by decide)).trans rfl
                  have hq23vy123 : Fvy123 23 = F9b 23 := (hFvy123 23 (by decide) (by decide)).trans rfl
                  obtain ⟨hg_y124, ⟨⟨e13_y124, e14_y124, e25_y124, e27_y124, e29_y124⟩, k15_y124, k16_y124, k17_y124, k18_y124, k19_y124, k20_y124, k23_y124⟩, hRD_y124, hTx_y124, hA_y124, st_y124, op_y124, ai_y124, fa_y124, mu_y124, tb_y124, ns_y124, nh_y124, nd_y124, rf_y124, pi_y124, tp_y124, te_y124, ki_y124, li_y124, ok1_y124, ok2_y124, fo_y124, dd_y124, dps_y124, ⟨ha1_y124, ha2_y124, ha3_y124, ha4_y124, ha5_y124, ha6_y124, ha7_y124, ha8_y124, ha9_y124, ha10_y124, ha11_y124, ha12_y124, ha13_y124, ha14_y124, ha15_y124, ha24_y124, ha25_y124, ha26_y124, ha27_y124, ha28_y124, ha29_y124⟩, hEv_y124, hPt_y124, hns_y124, htp_y124⟩ := id hMvy123
                  obtain ⟨-, hop_y124, hai_y124, hfa_y124, hT_y124, hT1_y124⟩ := id hEv_y124
                  have e14 := e14_y124
                  have e25 := e25_y124
                  have e27 := e27_y124
                  have e29 := e29_y124
                  have hop := hop_y124
                  have hai := hai_y124
                  have hfa := hfa_y124
                  have hT := hT_y124
                  have hT1 := hT1_y124
                  have hEv := hEv_y124
                  have htp := htp_y124
                  have hns := hns_y124
                  have hPt := hPt_y124
                  obtain ⟨⟨hsyy125, htyy125, hnyy125, hpyy125⟩, hlyy125⟩ := okA.at0 hA_y124
                  simp only [Nat.zero_add] at hsyy125 hnyy125 hpyy125
                  have hmn : ∀ s, s < 4 → 0 ≤ rvy123 (6 + 86 * s) ∧ rvy123 (6 + 86 * s) ≤ 12 := fun s hs => (hsyy125 s hs).1
                  have h5 : 0 ≤ rvy123 5 ∧ rvy123 5 ≤ 6 := hpyy125
                  refine z_if_ne (tgt := 56) C dX10_look_50 (by decide) (by omega) (fun hby126 => ?_) (fun hby126 => ?_)
                  · refine z_iconst (z := 0) C dX10_look_56 rfl ?_
                    refine z_istore (lv' := [(5, .int (zI (0))), (0, .ref (ad i)), (1, .int (zI (z))), (2, .int (zI (cn))), (3, .int (zI (hh))), (4, .int (zI (mm)))]) C dX10_look_57 (by decide) rfl ?_
                    have lp3 : ∀ (n9 : Nat) (ss : Int) (F9c : Nat → Int) (r9c : Nat → Int) (g1 : Nat → va_E), (5 - ss).toNat = n9 → (okMr cs ad g1 i x F9c r9c) → ((∀ f, f ≠ 12 → f ≠ 27 → f ≠ 28 → F9c f = F f)) → (∀ j, j < i ∨ i + 30 ≤ j → g1 j = g j) → (0 ≤ ss ∧ ss ≤ F 13) → zV pZ l eZ ({ frames := 12, cells := 0, slots := 0, locals := 720 } : Room) sZ mZ ([.ref (ad i), .int (zI (z))] : List Value).toArray below meth cZ (MQ below (zPost D A (rI0 N ad fun q g' => (-2147483648 ≤ q ∧ q ≤ 2147483647) ∧ (∃ F' r' : Nat → Int, okMr cs ad g' i (x + 1) F' r' ∧ F' 23 = F 23) ∧ ∀ j, j < i ∨ i + 30 ≤ j → g' j = g j)) ([.ref (ad i), .int (zI (z))] : List Value).toArray sZ ({ frames := 12, cells := 0, slots := 0, locals := 720 } : Room).cells ({ frames := 12, cells := 0, slots := 0, locals := 720 } : Room).slots A) D A 7 (N) ad g1 (0) (0) 59 [(0, .ref (ad i)), (1, .int (zI (z))), (2, .int (zI (cn))), (3, .int (zI (hh))), (4, .int (zI (mm))), (5, .int (zI (ss)))] [] := by
                      intro n9
                      induction n9 using Nat.strongRecOn with
                      | ind n9 ih_lp3 =>
                        intro ss F9c r9c g1 hm9 fMc fFc f3 hvlp30
                        obtain ⟨hg_y127, ⟨⟨e13_y127, e14_y127, e25_y127, e27_y127, e29_y127⟩, k15_y127, k16_y127, k17_y127, k18_y127, k19_y127, k20_y127, k23_y127⟩, hRD_y127, hTx_y127, hA_y127, st_y127, op_y127, ai_y127, fa_y127, mu_y127, tb_y127, ns_y127, nh_y127, nd_y127, rf_y127, pi_y127, tp_y127, te_y127, ki_y127, li_y127, ok1_y127, ok2_y127, fo_y127, dd_y127, dps_y127, ⟨ha1_y127, ha2_y127, ha3_y127, ha4_y127, ha5_y127, ha6_y127, ha7_y127, ha8_y127, ha9_y127, ha10_y127, ha11_y127, ha12_y127, ha13_y127, ha14_y127, ha15_y127, ha24_y127, ha25_y127, ha26_y127, ha27_y127, ha28_y127, ha29_y127⟩, hEv_y127, hPt_y127, hns_y127, htp_y127⟩ := id fMc
                        obtain ⟨-, hop_y127, hai_y127, hfa_y127, hT_y127, hT1_y127⟩ := id hEv_y127
                        have e14 := e14_y127
                        have e25 := e25_y127
                        have e27 := e27_y127
                        have e29 := e29_y127
                        have hop := hop_y127
                        have hai := hai_y127
                        have hfa := hfa_y127
                        have hT := hT_y127
                        have hT1 := hT1_y127
                        have hEv := hEv_y127
                        have htp := htp_y127
                        have hns := hns_y127
                        have hPt := hPt_y127
                        have hay128 : zAt ad (i) (ad i) := rfl
                        have hay129 : zAt ad (i + 1) (ad (i + 1)) := rfl
                        have hay130 : zAt ad (i + 2) (ad (i + 2)) := rfl
                        have hay131 : zAt ad (i + 3) (ad (i + 3)) := rfl
                        have hay132 : zAt ad (i + 4) (ad (i + 4)) := rfl
                        have hay133 : zAt ad (i + 5) (ad (i + 5)) := rfl
                        have hay134 : zAt ad (i + 6) (ad (i + 6)) := rfl
                        have hay135 : zAt ad (i + 7) (ad (i + 7)) := rfl
                        have hay136 : zAt ad (i + 8) (ad (i + 8)) := rfl
                        have hay137 : zAt ad (i + 9) (ad (i + 9)) := rfl
                        have hay138 : zAt ad (i + 10) (ad (i + 10)) := rfl
                        have hay139 : zAt ad (i + 11) (ad (i + 11)) := rfl
                        have hay140 : zAt ad (i + 12) (ad (i + 12)) := rfl
                        have hay141 : zAt ad (i + 13) (ad (i + 13)) := rfl
                        have hay142 : zAt ad (i + 14) (ad (i + 14)) := rfl
                        have hay143 : zAt ad (i + 15) (ad (i + 15)) := rfl
                        have hay144 : zAt ad (i + 24) (ad (i + 24)) := rfl
                        have hay145 : zAt ad (i + 25) (ad (i + 25)) := rfl
                        have hay146 : zAt ad (i + 26) (ad (i + 26)) := rfl
                        have hay147 : zAt ad (i + 27) (ad (i + 27)) := rfl
                        have hay148 : zAt ad (i + 28) (ad (i + 28)) := rfl
                        have hay149 : zAt ad (i + 29) (ad (i + 29)) := rfl
                        obtain ⟨⟨hsyy150, htyy150, hnyy150, hpyy150⟩, hlyy150⟩ := okA.at0 hA_y127
                        simp only [Nat.zero_add] at hsyy150 hnyy150 hpyy150
                        have hmn : ∀ s, s < 4 → 0 ≤ r9c (6 + 86 * s) ∧ r9c (6 + 86 * s) ≤ 12 := fun s hs => (hsyy150 s hs).1
                        have h5 : 0 ≤ r9c 5 ∧ r9c 5 ≤ 6 := hpyy150
                        have h13ce : F9c 13 = F 13 := fFc 13 (by decide) (by decide) (by decide)
                        have h14ce : F9c 14 = F 14 := fFc 14 (by decide) (by decide) (by decide)
                        have h17ce : F9c 17 = F 17 := fFc 17 (by decide) (by decide) (by decide)
                        have h23ce : F9c 23 = F 23 := fFc 23 (by decide) (by decide) (by decide)
                        refine z_iload C 5 dX10_look_59 rfl ?_
                        refine z_aload_n C 0 dX10_look_61 rfl ?_
                        refine z_get (v := .int (zI (F9c 13))) C (by omega) hay128 hg_y127 rfl inA_X10 13 (by decide) q_1472 rfl (fv (F := F9c) (f := 13) rfl) dX10_look_62 ?_
                        refine z_icmp_ge (tgt := 92) C dX10_look_65 (by decide) (by omega) (by omega) (fun hby151 => ?_) (fun hby151 => ?_)
                        · refine z_iinc (z := cn + 1) (lv' := [(2, .int (zI (cn + 1))), (0, .ref (ad i)), (1, .int (zI (z))), (3, .int (zI (hh))), (4, .int (zI (mm))), (5, .int (zI (ss)))]) (j := 2) C dX10_look_92 rfl rfl (by decide) rfl ?_
                          refine z_iinc (z := mm + 1) (lv' := [(4, .int (zI (mm + 1))), (2, .int (zI (cn + 1))), (0, .ref (ad i)), (1, .int (zI (z))), (3, .int (zI (hh))), (5, .int (zI (ss)))]) (j := 4) C dX10_look_95 rfl rfl (by decide) rfl ?_
                          refine z_goto (tgt := 36) C dX10_look_98 (by decide) ?_
                          have hMy152 : okMr cs ad g1 i (x) F9c r9c := okMr.upd fMc hg_y127 fMc.2.1 (fun f _ => rfl) ha1_y127 (hA_y127.mono (by omega)) (fun j a b => by
                              exact Or.inl (by rfl))
                          have hFFb : (∀ f, f ≠ 12 → f ≠ 27 → f ≠ 28 → F9c f = F f) := fun f n12 n27 n28 => fFc f n12 n27 n28
                          have hey153 : F9c 13 = F9c 13 := rfl
                          have hey154 : F9c 14 = F9c 14 := rfl
                          refine z_lv (lv' := [(0, .ref (ad i)), (1, .int (zI (z))), (2, .int (zI (cn + 1))), (3, .int (zI (hh))), (4, .int (zI (mm + 1)))]) [2, 3, 1, 4, 0] rfl ?_
                          exact ih_lp2 _ (by omega) (cn + 1) (mm + 1) _ _ g1 rfl hMy152 hFFb (fun j j1 => by exact f3 j j1) (by omega) (by omega)
                        · refine z_aload_n C 0 dX10_look_68 rfl ?_
                          refine z_get (v := .ref (ad (i + 29))) C (by omega) hay128 hg_y127 rfl inA_X10 58 (by decide) q_1517 rfl rfl dX10_look_69 ?_
                          refine z_iconst (z := 4) C dX10_look_72 rfl ?_
                          refine z_iload_n C 2 dX10_look_73 rfl ?_
                          refine z_imul C dX10_look_74 ?_
                          refine z_iload C 5 dX10_look_75 rfl ?_
                          refine z_iadd C dX10_look_77 ?_
                          refine z_aload_n C 0 dX10_look_78 rfl ?_
                          refine z_get (v := .ref (ad (i + 28))) C (by omega) hay128 hg_y127 rfl inA_X10 57 (by decide) q_1516 rfl rfl dX10_look_79 ?_
                          refine z_iload C 5 dX10_look_82 rfl ?_
                          refine z_iald C (by omega) hay148 ha28_y127 ((ss).toNat) (by omega) (by omega) (by decide) dX10_look_84 ?_
                          refine z_iast C (by omega) hay149 ha29_y127 (((4 * cn) + ss).toNat) (by omega) (by omega) (by decide) dX10_look_85 (fun gy155 egy156 => ?_)
                          have hgy157 := up_s egy156
                          refine z_iinc (z := ss + 1) (lv' := [(5, .int (zI (ss + 1))), (0, .ref (ad i)), (1, .int (zI (z))), (2, .int (zI (cn))), (3, .int (zI (hh))), (4, .int (zI (mm)))]) (j := 5) C dX10_look_86 rfl rfl (by decide) rfl ?_
                          refine z_goto (tgt := 59) C dX10_look_89 (by decide) ?_
                          have hgy158 := up_n egy156 hg_y127 (ne_o (i := i) (c := 0) (d := 29) rfl)
                          have hgy159 := up_n egy156 ha1_y127 (ne_o (i := i) (c := 1) (d := 29) rfl)
                          have hMy160 : okMr cs ad gy155 i (x) F9c r9c := okMr.upd fMc hgy158 fMc.2.1 (fun f _ => rfl) hgy159 (hA_y127.mono (by omega)) (fun j a b => by
                              by_cases e0 : j = i + 29
                              · exact Or.inr ⟨29, _, e0, lsP.l (by decide), by rw [e0]; exact hgy157⟩
                              exact Or.inl (by rw [egy156, va_up_ne _ _ (by omega)]))
                          have hFFc : (∀ f, f ≠ 12 → f ≠ 27 → f ≠ 28 → F9c f = F f) := fun f n12 n27 n28 => fFc f n12 n27 n28
                          have hey161 : F9c 13 = F9c 13 := rfl
                          have hey162 : F9c 14 = F9c 14 := rfl
                          refine z_lv (lv' := [(0, .ref (ad i)), (1, .int (zI (z))), (2, .int (zI (cn))), (3, .int (zI (hh))), (4, .int (zI (mm))), (5, .int (zI (ss + 1)))]) [1, 2, 3, 4, 5, 0] rfl ?_
                          exact ih_lp3 _ (by omega) (ss + 1) _ _ gy155 rfl hMy160 hFFc (fun j j1 => by rw [egy156, va_up_ne _ _ (by omega)]; exact f3 j j1) (by omega)
                    have hMy163 : okMr cs ad gvy123 i (x) Fvy123 rvy123 := okMr.upd hMvy123 hg_y124 hMvy123.2.1 (fun f _ => rfl) ha1_y124 (hA_y124.mono (by omega)) (fun j a b => by
                        exact Or.inl (by rfl))
                    have hFFc : (∀ f, f ≠ 12 → f ≠ 27 → f ≠ 28 → Fvy123 f = F f) := fun f n12 n27 n28 => hCvy123 f n12 n27 n28
                    have hey164 : Fvy123 13 = F9b 13 := hq13vy123
                    have hey165 : Fvy123 14 = F9b 14 := hq14vy123
                    refine z_lv (lv' := [(0, .ref (ad i)), (1, .int (zI (z))), (2, .int (zI (cn))), (3, .int (zI (hh))), (4, .int (zI (mm))), (5, .int (zI (0)))]) [1, 2, 3, 4, 5, 0] rfl ?_
                    exact lp3 _ (0) _ _ gvy123 rfl hMy163 hFFc (fun j j1 => by rw [hfvy123 _ (by omega)]; exact f3 j j1) (by omega)
                  · refine z_goto (tgt := 95) C dX10_look_53 (by decide) ?_
                    refine z_iinc (z := mm + 1) (lv' := [(4, .int (zI (mm + 1))), (0, .ref (ad i)), (1, .int (zI (z))), (2, .int (zI (cn))), (3, .int (zI (hh)))]) (j := 4) C dX10_look_95 rfl rfl (by decide) rfl ?_
                    refine z_goto (tgt := 36) C dX10_look_98 (by decide) ?_
                    have hMy166 : okMr cs ad gvy123 i (x) Fvy123 rvy123 := okMr.upd hMvy123 hg_y124 hMvy123.2.1 (fun f _ => rfl) ha1_y124 (hA_y124.mono (by omega)) (fun j a b => by
                        exact Or.inl (by rfl))
                    have hFFb : (∀ f, f ≠ 12 → f ≠ 27 → f ≠ 28 → Fvy123 f = F f) := fun f n12 n27 n28 => hCvy123 f n12 n27 n28
                    have hey167 : Fvy123 13 = F9b 13 := hq13vy123
                    have hey168 : Fvy123 14 = F9b 14 := hq14vy123
                    refine z_lv (lv' := [(0, .ref (ad i)), (1, .int (zI (z))), (2, .int (zI (cn))), (3, .int (zI (hh))), (4, .int (zI (mm + 1)))]) [1, 2, 3, 4, 0] rfl ?_
                    exact ih_lp2 _ (by omega) (cn) (mm + 1) _ _ gvy123 rfl hMy166 hFFb (fun j j1 => by rw [hfvy123 _ (by omega)]; exact f3 j j1) (by omega) (by omega)
            have hMy169 : okMr cs ad g1 i (x) F9 r9 := okMr.upd fM hg_y30 fM.2.1 (fun f _ => rfl) ha1_y30 (hA_y30.mono (by omega)) (fun j a b => by
                exact Or.inl (by rfl))
            have hFFb : (∀ f, f ≠ 12 → f ≠ 27 → f ≠ 28 → F9 f = F f) := fun f n12 n27 n28 => fF f n12 n27 n28
            have hey170 : F9 13 = F9 13 := rfl
            have hey171 : F9 14 = F9 14 := rfl
            refine z_lv (lv' := [(0, .ref (ad i)), (1, .int (zI (z))), (2, .int (zI (cn))), (3, .int (zI (hh))), (4, .int (zI (1)))]) [1, 2, 3, 4, 0] rfl ?_
            exact lp2 _ (cn) (1) _ _ g1 rfl hMy169 hFFb (fun j j1 => by exact f3 j j1) (by omega) (by omega)
      have hgy172 := up_n egy25 ha1 (ne_o (i := i) (c := 1) (d := 0) rfl)
      have hgy173 := (hfvy28 (i + 1) (ne_o (i := i) (c := 1) (d := 0) rfl)).trans hgy172
      have hFy174 : ∀ f, f ≠ 12 → Fvy28 f = F f := fun f n12 => ((hFvy28 f n12).trans ((uZ_n _ _ n12).trans rfl))
      have hey175 : Fvy28 13 = F 13 := ((hFvy28 13 (by decide)).trans (fn rfl (by decide)))
      have hey176 : Fvy28 14 = F 14 := ((hFvy28 14 (by decide)).trans (fn rfl (by decide)))
      have hey177 : Fvy28 15 = F 15 := ((hFvy28 15 (by decide)).trans (fn rfl (by decide)))
      have hey178 : Fvy28 16 = F 16 := ((hFvy28 16 (by decide)).trans (fn rfl (by decide)))
      have hey179 : Fvy28 17 = F 17 := ((hFvy28 17 (by decide)).trans (fn rfl (by decide)))
      have hey180 : Fvy28 18 = F 18 := ((hFvy28 18 (by decide)).trans (fn rfl (by decide)))
      have hey181 : Fvy28 19 = F 19 := ((hFvy28 19 (by decide)).trans (fn rfl (by decide)))
      have hey182 : Fvy28 20 = F 20 := ((hFvy28 20 (by decide)).trans (fn rfl (by decide)))
      have hey183 : Fvy28 23 = F 23 := ((hFvy28 23 (by decide)).trans (fn rfl (by decide)))
      have hey184 : Fvy28 25 = F 25 := ((hFvy28 25 (by decide)).trans (fn rfl (by decide)))
      have hey185 : Fvy28 27 = F 27 := ((hFvy28 27 (by decide)).trans (fn rfl (by decide)))
      have hey186 : Fvy28 28 = F 28 := ((hFvy28 28 (by decide)).trans (fn rfl (by decide)))
      have hey187 : Fvy28 29 = F 29 := ((hFvy28 29 (by decide)).trans (fn rfl (by decide)))
      have hKy188 : okF Fvy28 := by unfold okF; omega
      have hMy189 : okMr cs ad gvy28 i (x) Fvy28 r := okMr.upd hM hcvy28 hKy188 (fun f a => hFy174 f (by omega)) hgy173 (hA.mono (by omega)) (fun j a b => by
          exact Or.inl (by rw [hfvy28 _ (by omega)]; rw [egy25, va_up_ne _ _ (by omega)]))
      have hFy190 : ∀ f, f ≠ 12 → Fvy28 f = F f := fun f n12 => ((hFvy28 f n12).trans ((uZ_n _ _ n12).trans rfl))
      have hFF : (∀ f, f ≠ 12 → f ≠ 27 → f ≠ 28 → Fvy28 f = F f) := fun f n12 n27 n28 => (hFy190 f n12)
      have hey191 : Fvy28 13 = F 13 := ((hFvy28 13 (by decide)).trans (fn rfl (by decide)))
      have hey192 : Fvy28 14 = F 14 := ((hFvy28 14 (by decide)).trans (fn rfl (by decide)))
      refine z_lv (lv' := [(0, .ref (ad i)), (1, .int (zI (z))), (2, .int (zI (0))), (3, .int (zI (0)))]) [2, 3, 1, 0] rfl ?_
      exact lp1 _ (0) (0) _ _ gvy28 rfl hMy189 hFF (fun j j1 => by rw [hfvy28 _ (by omega)]; rw [egy25, va_up_ne _ _ (by omega)]) (by omega) (by omega)
    · refine z_if_ne (tgt := 21) C dX10_look_16 (by decide) (by omega) (fun h => absurd h (by omega)) (fun _ => ?_)
      refine z_iconst (z := 0) C dX10_look_19 rfl ?_
      have hgy193 := up_n egy25 ha1 (ne_o (i := i) (c := 1) (d := 0) rfl)
      have hgy194 := (hfvy28 (i + 1) (ne_o (i := i) (c := 1) (d := 0) rfl)).trans hgy193
      have hFy195 : ∀ f, f ≠ 12 → Fvy28 f = F f := fun f n12 => ((hFvy28 f n12).trans ((uZ_n _ _ n12).trans rfl))
      have hey196 : Fvy28 13 = F 13 := ((hFvy28 13 (by decide)).trans (fn rfl (by decide)))
      have hey197 : Fvy28 14 = F 14 := ((hFvy28 14 (by decide)).trans (fn rfl (by decide)))
      have hey198 : Fvy28 15 = F 15 := ((hFvy28 15 (by decide)).trans (fn rfl (by decide)))
      have hey199 : Fvy28 16 = F 16 := ((hFvy28 16 (by decide)).trans (fn rfl (by decide)))
      have hey200 : Fvy28 17 = F 17 := ((hFvy28 17 (by decide)).trans (fn rfl (by decide)))
      have hey201 : Fvy28 18 = F 18 := ((hFvy28 18 (by decide)).trans (fn rfl (by decide)))
      have hey202 : Fvy28 19 = F 19 := ((hFvy28 19 (by decide)).trans (fn rfl (by decide)))
      have hey203 : Fvy28 20 = F 20 := ((hFvy28 20 (by decide)).trans (fn rfl (by decide)))
      have hey204 : Fvy28 23 = F 23 := ((hFvy28 23 (by decide)).trans (fn rfl (by decide)))
      have hey205 : Fvy28 25 = F 25 := ((hFvy28 25 (by decide)).trans (fn rfl (by decide)))
      have hey206 : Fvy28 27 = F 27 := ((hFvy28 27 (by decide)).trans (fn rfl (by decide)))
      have hey207 : Fvy28 28 = F 28 := ((hFvy28 28 (by decide)).trans (fn rfl (by decide)))
      have hey208 : Fvy28 29 = F 29 := ((hFvy28 29 (by decide)).trans (fn rfl (by decide)))
      have hKy209 : okF Fvy28 := by unfold okF; omega
      have hMy210 : okMr cs ad gvy28 i (x + 1) Fvy28 r := okMr.upd hM hcvy28 hKy209 (fun f a => hFy195 f (by omega)) hgy194 (hA.mono (by omega)) (fun j a b => by
          exact Or.inl (by rw [hfvy28 _ (by omega)]; rw [egy25, va_up_ne _ _ (by omega)]))
      have h23 : Fvy28 23 = F 23 := ((hFvy28 23 (by decide)).trans (fn rfl (by decide)))
      exact z_iret C hr hlk dX10_look_20 (by decide) (by decide) ⟨0, rfl, rfl, rfl, by omega, ⟨_, _, hMy210, by omega⟩, fun j j1 => by rw [hfvy28 _ (by omega)]; rw [egy25, va_up_ne _ _ (by omega)]⟩
  · refine z_iconst (z := 1) C dX10_look_12 rfl ?_
    have hey212 : (uZ F 12 (0)) 12 = 0 := (uZ_s _ _ _)
    refine z_cV (As := [.int (zI (0)), .int (zI (1))]) (rest := []) (ci := 12) C (c_X10_right l D A cs tt N ad _ i hN _ hgy26 (by omega) (0) (by omega) (1) (by omega)) (by omega) hay1 hgy26 rfl rfl mv_yX10_right q_1648 hd_yX10_right (by decide) (Nat.le_of_ble_eq_true rfl) (by decide) dX10_look_13 rfl (kI0 fun vy211 gvy211 hvy211 => ?_)
    obtain ⟨hrvy211, ⟨Fvy211, hcvy211, htvy211, hFvy211⟩, hfvy211⟩ := hvy211
    obtain rfl : vy211 = 0 := by omega
    refine z_if_ne (tgt := 21) C dX10_look_16 (by decide) (by omega) (fun h => absurd h (by omega)) (fun _ => ?_)
    refine z_iconst (z := 0) C dX10_look_19 rfl ?_
    have hgy213 := up_n egy25 ha1 (ne_o (i := i) (c := 1) (d := 0) rfl)
    have hgy214 := (hfvy211 (i + 1) (ne_o (i := i) (c := 1) (d := 0) rfl)).trans hgy213
    have hFy215 : ∀ f, f ≠ 12 → Fvy211 f = F f := fun f n12 => ((hFvy211 f n12).trans ((uZ_n _ _ n12).trans rfl))
    have hey216 : Fvy211 13 = F 13 := ((hFvy211 13 (by decide)).trans (fn rfl (by decide)))
    have hey217 : Fvy211 14 = F 14 := ((hFvy211 14 (by decide)).trans (fn rfl (by decide)))
    have hey218 : Fvy211 15 = F 15 := ((hFvy211 15 (by decide)).trans (fn rfl (by decide)))
    have hey219 : Fvy211 16 = F 16 := ((hFvy211 16 (by decide)).trans (fn rfl (by decide)))
    have hey220 : Fvy211 17 = F 17 := ((hFvy211 17 (by decide)).trans (fn rfl (by decide)))
    have hey221 : Fvy211 18 = F 18 := ((hFvy211 18 (by decide)).trans (fn rfl (by decide)))
    have hey222 : Fvy211 19 = F 19 := ((hFvy211 19 (by decide)).trans (fn rfl (by decide)))
    have hey223 : Fvy211 20 = F 20 := ((hFvy211 20 (by decide)).trans (fn rfl (by decide)))
    have hey224 : Fvy211 23 = F 23 := ((hFvy211 23 (by decide)).trans (fn rfl (by decide)))
    have hey225 : Fvy211 25 = F 25 := ((hFvy211 25 (by decide)).trans (fn rfl (by decide)))
    have hey226 : Fvy211 27 = F 27 := ((hFvy211 27 (by decide)).trans (fn rfl (by decide)))
    have hey227 : Fvy211 28 = F 28 := ((hFvy211 28 (by decide)).trans (fn rfl (by decide)))
    have hey228 : Fvy211 29 = F 29 := ((hFvy211 29 (by decide)).trans (fn rfl (by decide)))
    have hKy229 : okF Fvy211 := by unfold okF; omega
    have hMy230 : okMr cs ad gvy211 i (x + 1) Fvy211 r := okMr.upd hM hcvy211 hKy229 (fun f a => hFy215 f (by omega)) hgy214 (hA.mono (by omega)) (fun j a b => by
        exact Or.inl (by rw [hfvy211 _ (by omega)]; rw [egy25, va_up_ne _ _ (by omega)]))
    have h23 : Fvy211 23 = F 23 := ((hFvy211 23 (by decide)).trans (fn rfl (by decide)))
    exact z_iret C hr hlk dX10_look_20 (by decide) (by decide) ⟨0, rfl, rfl, rfl, by omega, ⟨_, _, hMy230, by omega⟩, fun j j1 => by rw [hfvy211 _ (by omega)]; rw [egy25, va_up_ne _ _ (by omega)]⟩

