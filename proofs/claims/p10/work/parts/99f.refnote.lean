theorem uZ_any {r : Nat → Int} {k n : Nat} {v lo hi : Int} (h : ∀ j, j < n → lo ≤ r j ∧ r j ≤ hi) (hv : lo ≤ v ∧ v ≤ hi) : ∀ j, j < n → lo ≤ uZ r k v j ∧ uZ r k v j ≤ hi := fun j hj => by
  by_cases e : j = k
  · rw [e, uZ_s]; exact hv
  · rw [uZ_n _ _ e]; exact h j hj

set_option maxRecDepth 100000 in
set_option maxHeartbeats 4000000 in
theorem c_X10_forget (l : Launch) (D : va_G) (A : Nat → Prop) (cs : Nat → ClassId) (tt : Nat) (N : Nat) (ad : Nat → Nat) (g : Nat → va_E) (i : Nat) (hN : i + 30 ≤ N) (x : Int) (hx : 0 ≤ x ∧ x ≤ 512) (F r : Nat → Int) {st op ai fa mu tb tp : Nat → Int} (hM : okMr cs ad g i x F r st op ai fa mu tb tp) (hPl : F 25 = 0 ∧ F 26 = -1 ∧ F 27 = -1 ∧ F 29 = 0) : zM l yX10_forget cX10_forget 1 none ({ frames := 1, cells := 0, slots := 0, locals := 60 } : Room) D A cs tt N ad g [.ref (ad i)] (rV0 N ad fun g' => (∃ F' r' : Nat → Int, okMr cs ad g' i (x + 1) F' r' st op ai fa mu tb tp ∧ (F' 13 = F 13 ∧ F' 14 = F 14 ∧ F' 15 = F 15 ∧ F' 16 = F 16 ∧ F' 17 = 0 ∧ F' 18 = F 18 ∧ F' 19 = F 19 ∧ F' 20 = F 20 ∧ F' 21 = F 21 ∧ F' 23 = F 23 ∧ F' 24 = F 24) ∧ (F' 25 = 0 ∧ F' 26 = -1 ∧ F' 27 = -1 ∧ F' 29 = 0) ∧ (∀ j, j < 350 ∨ 700 ≤ j → r' j = r j)) ∧ ∀ j, j < i ∨ i + 30 ≤ j ∨ (i + 8 ≤ j ∧ j ≤ i + 12) → g' j = g j) := by
  obtain ⟨hg, ⟨⟨e13, e14, e25, e27, e29⟩, k15, k16, k17, k18, k19, k20, k23, k21⟩, hRD, hTx, hA, ns, nh, nd, rf, pi, te, ki, li, ok1, ok2, fo, dd, dps, ⟨ha1, ha2, ha3, ha4, ha5, ha6, ha7, ha8, ha9, ha10, ha11, ha12, ha13, ha14, ha15, ha24, ha25, ha26, ha27, ha28, ha29⟩, hEv, hPt, hns, htp⟩ := id hM
  obtain ⟨-, hop, hai, hfa, hT, hT1⟩ := id hEv
  have hay1 : zAt ad (i) (ad i) := rfl
  have hay2 : zAt ad (i + 1) (ad (i + 1)) := rfl
  have hay3 : zAt ad (i + 2) (ad (i + 2)) := rfl
  have hay4 : zAt ad (i + 3) (ad (i + 3)) := rfl
  have hay5 : zAt ad (i + 4) (ad (i + 4)) := rfl
  have hay6 : zAt ad (i + 5) (ad (i + 5)) := rfl
  have hay7 : zAt ad (i + 6) (ad (i + 6)) := rfl
  have hay8 : zAt ad (i + 7) (ad (i + 7)) := rfl
  have hay9 : zAt ad (i + 8) (ad (i + 8)) := rfl
  have hay10 : zAt ad (i + 9) (ad (i + 9)) := rfl
  have hay11 : zAt ad (i + 10) (ad (i + 10)) := rfl
  have hay12 : zAt ad (i + 11) (ad (i + 11)) := rfl
  have hay13 : zAt ad (i + 12) (ad (i + 12)) := rfl
  have hay14 : zAt ad (i + 13) (ad (i + 13)) := rfl
  have hay15 : zAt ad (i + 14) (ad (i + 14)) := rfl
  have hay16 : zAt ad (i + 15) (ad (i + 15)) := rfl
  have hay17 : zAt ad (i + 24) (ad (i + 24)) := rfl
  have hay18 : zAt ad (i + 25) (ad (i + 25)) := rfl
  have hay19 : zAt ad (i + 26) (ad (i + 26)) := rfl
  have hay20 : zAt ad (i + 27) (ad (i + 27)) := rfl
  have hay21 : zAt ad (i + 28) (ad (i + 28)) := rfl
  have hay22 : zAt ad (i + 29) (ad (i + 29)) := rfl
  obtain ⟨⟨hsyy23, htyy23, hnyy23, hpyy23⟩, hlyy23⟩ := okA.at0 hA
  simp only [Nat.zero_add] at hsyy23 hnyy23 hpyy23
  have hmn : ∀ s, s < 4 → 0 ≤ r (6 + 86 * s) ∧ r (6 + 86 * s) ≤ 12 := fun s hs => (hsyy23 s hs).1
  have h5 : 0 ≤ r 5 ∧ r 5 ≤ 6 := hpyy23
  obtain ⟨hp25, hp26, hp27, hp29⟩ := id hPl
  refine z_of (by decide) (Nat.le_of_ble_eq_true rfl) ?_
  intro pZ eZ sZ mZ below meth cZ C hr hlk hnm
  refine z_lv (lv' := [(0, .ref (ad i))]) [0] rfl ?_
  refine z_aload_n C 0 dX10_forget_0 rfl ?_
  refine z_iconst (z := 0) C dX10_forget_1 rfl ?_
  refine z_put (fs' := mF ad (i) (uZ F 12 (0))) C (lt_A0 hN rfl) hay1 hg tyX10 tyX10_ok nmX10 rfl inA_X10 12 (by decide) q_1471 rfl rfl rfl rfl (Nat.le_of_ble_eq_true rfl) rfl dX10_forget_2 (fun gy24 egy25 => ?_)
  have hgy26 := up_s egy25
  refine z_aload_n C 0 dX10_forget_5 rfl ?_
  refine z_iconst (z := 0) C dX10_forget_6 rfl ?_
  refine z_put (fs' := mF ad (i) (uZ (uZ F 12 (0)) 17 (0))) C (lt_A0 hN rfl) hay1 hgy26 tyX10 tyX10_ok nmX10 rfl inA_X10 17 (by decide) q_1476 rfl rfl rfl rfl (Nat.le_of_ble_eq_true rfl) rfl dX10_forget_7 (fun gy27 egy28 => ?_)
  have hgy29 := up_s egy28
  have hgy30 := up_n egy25 ha1 (ne_o (i := i) (c := 1) (d := 0) rfl)
  have hgy31 := up_n egy28 hgy30 (ne_o (i := i) (c := 1) (d := 0) rfl)
  have hFy32 : ∀ f, f ≠ 12 → f ≠ 17 → (uZ (uZ F 12 (0)) 17 (0)) f = F f := fun f n12 n17 => ((uZ_n _ _ n17).trans ((uZ_n _ _ n12).trans rfl))
  have hey33 : (uZ (uZ F 12 (0)) 17 (0)) 13 = F 13 := (fn (fn rfl (by decide)) (by decide))
  have hey34 : (uZ (uZ F 12 (0)) 17 (0)) 14 = F 14 := (fn (fn rfl (by decide)) (by decide))
  have hey35 : (uZ (uZ F 12 (0)) 17 (0)) 15 = F 15 := (fn (fn rfl (by decide)) (by decide))
  have hey36 : (uZ (uZ F 12 (0)) 17 (0)) 16 = F 16 := (fn (fn rfl (by decide)) (by decide))
  have hey37 : (uZ (uZ F 12 (0)) 17 (0)) 17 = 0 := (uZ_s _ _ _)
  have hey38 : (uZ (uZ F 12 (0)) 17 (0)) 18 = F 18 := (fn (fn rfl (by decide)) (by decide))
  have hey39 : (uZ (uZ F 12 (0)) 17 (0)) 19 = F 19 := (fn (fn rfl (by decide)) (by decide))
  have hey40 : (uZ (uZ F 12 (0)) 17 (0)) 20 = F 20 := (fn (fn rfl (by decide)) (by decide))
  have hey41 : (uZ (uZ F 12 (0)) 17 (0)) 21 = F 21 := (fn (fn rfl (by decide)) (by decide))
  have hey42 : (uZ (uZ F 12 (0)) 17 (0)) 23 = F 23 := (fn (fn rfl (by decide)) (by decide))
  have hey43 : (uZ (uZ F 12 (0)) 17 (0)) 25 = F 25 := (fn (fn rfl (by decide)) (by decide))
  have hey44 : (uZ (uZ F 12 (0)) 17 (0)) 27 = F 27 := (fn (fn rfl (by decide)) (by decide))
  have hey45 : (uZ (uZ F 12 (0)) 17 (0)) 28 = F 28 := (fn (fn rfl (by decide)) (by decide))
  have hey46 : (uZ (uZ F 12 (0)) 17 (0)) 29 = F 29 := (fn (fn rfl (by decide)) (by decide))
  have hKy47 : okF (uZ (uZ F 12 (0)) 17 (0)) := by unfold okF; omega
  have hMy48 : okMr cs ad gy27 i (x + 1) (uZ (uZ F 12 (0)) 17 (0)) r st op ai fa mu tb tp := okMr.upd hM hgy29 hKy47 (fun f a => hFy32 f (by omega) (by omega)) hgy31 (hA.mono (by omega)) (fun j a b => by
      exact Or.inl (by rw [egy28, va_up_ne _ _ (by omega)]; rw [egy25, va_up_ne _ _ (by omega)]))
  have hkpy49 : (uZ (uZ F 12 (0)) 17 (0)) 13 = F 13 := (fn (fn rfl (by decide)) (by decide))
  have hkpy50 : (uZ (uZ F 12 (0)) 17 (0)) 14 = F 14 := (fn (fn rfl (by decide)) (by decide))
  have hkpy51 : (uZ (uZ F 12 (0)) 17 (0)) 15 = F 15 := (fn (fn rfl (by decide)) (by decide))
  have hkpy52 : (uZ (uZ F 12 (0)) 17 (0)) 16 = F 16 := (fn (fn rfl (by decide)) (by decide))
  have hkpy53 : (uZ (uZ F 12 (0)) 17 (0)) 17 = 0 := (uZ_s _ _ _)
  have hkpy54 : (uZ (uZ F 12 (0)) 17 (0)) 18 = F 18 := (fn (fn rfl (by decide)) (by decide))
  have hkpy55 : (uZ (uZ F 12 (0)) 17 (0)) 19 = F 19 := (fn (fn rfl (by decide)) (by decide))
  have hkpy56 : (uZ (uZ F 12 (0)) 17 (0)) 20 = F 20 := (fn (fn rfl (by decide)) (by decide))
  have hkpy57 : (uZ (uZ F 12 (0)) 17 (0)) 21 = F 21 := (fn (fn rfl (by decide)) (by decide))
  have hkpy58 : (uZ (uZ F 12 (0)) 17 (0)) 23 = F 23 := (fn (fn rfl (by decide)) (by decide))
  have hkpy59 : (uZ (uZ F 12 (0)) 17 (0)) 24 = F 24 := (fn (fn rfl (by decide)) (by decide))
  have hkpy60 : (uZ (uZ F 12 (0)) 17 (0)) 25 = F 25 := (fn (fn rfl (by decide)) (by decide))
  have hkpy61 : (uZ (uZ F 12 (0)) 17 (0)) 26 = F 26 := (fn (fn rfl (by decide)) (by decide))
  have hkpy62 : (uZ (uZ F 12 (0)) 17 (0)) 27 = F 27 := (fn (fn rfl (by decide)) (by decide))
  have hkpy63 : (uZ (uZ F 12 (0)) 17 (0)) 29 = F 29 := (fn (fn rfl (by decide)) (by decide))
  exact z_vret C hr hlk dX10_forget_10 (by decide) (by decide) ⟨rfl, rfl, rfl, ⟨_, _, hMy48, ⟨hkpy49, hkpy50, hkpy51, hkpy52, hkpy53, hkpy54, hkpy55, hkpy56, hkpy57, hkpy58, hkpy59⟩, ⟨(hkpy60.trans hp25), (hkpy61.trans hp26), (hkpy62.trans hp27), (hkpy63.trans hp29)⟩, (fun j _ => rfl)⟩, fun j j1 => by rw [egy28, va_up_ne _ _ (by omega)]; rw [egy25, va_up_ne _ _ (by omega)]⟩

set_option maxRecDepth 100000 in
set_option maxHeartbeats 4000000 in
theorem c_X10_odds_a (l : Launch) (D : va_G) (A : Nat → Prop) (cs : Nat → ClassId) (tt : Nat) (N : Nat) (ad : Nat → Nat) (g : Nat → va_E) (i : Nat) (hN : i + 30 ≤ N) (x : Int) (hx : 0 ≤ x ∧ x ≤ 512) (F r : Nat → Int) {st op ai fa mu tb tp : Nat → Int} (hM : okMr cs ad g i x F r st op ai fa mu tb tp) (hPl : F 25 = 0 ∧ F 26 = -1 ∧ F 27 = -1 ∧ F 29 = 0) (n : Nat) (hn4 : n < 4) (z1 : Int) (hz1 : -2147483648 ≤ z1 ∧ z1 ≤ 2147483647) (z2 : Int) (hz2 : -2147483648 ≤ z2 ∧ z2 ≤ 2147483647) : zM l yX10_odds cX10_odds 8 (some .int) ({ frames := 11, cells := 0, slots := 0, locals := 660 } : Room) D A cs tt N ad g [.ref (ad i), .int (zI ((n : Int))), .int (zI (z1)), .int (zI (z2))] (rI0 N ad fun q g' => (-2147483648 ≤ q ∧ q ≤ 2147483647) ∧ (∃ F' r' : Nat → Int, okMr cs ad g' i (x + 1) F' r' st op ai fa mu tb tp ∧ (F' 13 = F 13 ∧ F' 14 = F 14 ∧ F' 15 = F 15 ∧ F' 16 = F 16 ∧ F' 17 = F 17 ∧ F' 18 = F 18 ∧ F' 19 = F 19 ∧ F' 20 = F 20 ∧ F' 21 = F 21 ∧ F' 23 = F 23 ∧ F' 24 = F 24) ∧ (F' 25 = 0 ∧ F' 26 = -1 ∧ F' 27 = -1 ∧ F' 29 = 0) ∧ (∀ j, j < 350 ∨ 700 ≤ j → r' j = r j)) ∧ ∀ j, j < i ∨ i + 30 ≤ j ∨ (i + 8 ≤ j ∧ j ≤ i + 12) → g' j = g j) := by
  obtain ⟨hg, ⟨⟨e13, e14, e25, e27, e29⟩, k15, k16, k17, k18, k19, k20, k23, k21⟩, hRD, hTx, hA, ns, nh, nd, rf, pi, te, ki, li, ok1, ok2, fo, dd, dps, ⟨ha1, ha2, ha3, ha4, ha5, ha6, ha7, ha8, ha9, ha10, ha11, ha12, ha13, ha14, ha15, ha24, ha25, ha26, ha27, ha28, ha29⟩, hEv, hPt, hns, htp⟩ := id hM
  obtain ⟨-, hop, hai, hfa, hT, hT1⟩ := id hEv
  have hay1 : zAt ad (i) (ad i) := rfl
  have hay2 : zAt ad (i + 1) (ad (i + 1)) := rfl
  have hay3 : zAt ad (i + 2) (ad (i + 2)) := rfl
  have hay4 : zAt ad (i + 3) (ad (i + 3)) := rfl
  have hay5 : zAt ad (i + 4) (ad (i + 4)) := rfl
  have hay6 : zAt ad (i + 5) (ad (i + 5)) := rfl
  have hay7 : zAt ad (i + 6) (ad (i + 6)) := rfl
  have hay8 : zAt ad (i + 7) (ad (i + 7)) := rfl
  have hay9 : zAt ad (i + 8) (ad (i + 8)) := rfl
  have hay10 : zAt ad (i + 9) (ad (i + 9)) := rfl
  have hay11 : zAt ad (i + 10) (ad (i + 10)) := rfl
  have hay12 : zAt ad (i + 11) (ad (i + 11)) := rfl
  have hay13 : zAt ad (i + 12) (ad (i + 12)) := rfl
  have hay14 : zAt ad (i + 13) (ad (i + 13)) := rfl
  have hay15 : zAt ad (i + 14) (ad (i + 14)) := rfl
  have hay16 : zAt ad (i + 15) (ad (i + 15)) := rfl
  have hay17 : zAt ad (i + 24) (ad (i + 24)) := rfl
  have hay18 : zAt ad (i + 25) (ad (i + 25)) := rfl
  have hay19 : zAt ad (i + 26) (ad (i + 26)) := rfl
  have hay20 : zAt ad (i + 27) (ad (i + 27)) := rfl
  have hay21 : zAt ad (i + 28) (ad (i + 28)) := rfl
  have hay22 : zAt ad (i + 29) (ad (i + 29)) := rfl
  obtain ⟨⟨hsyy23, htyy23, hnyy23, hpyy23⟩, hlyy23⟩ := okA.at0 hA
  simp only [Nat.zero_add] at hsyy23 hnyy23 hpyy23
  have hmn : ∀ s, s < 4 → 0 ≤ r (6 + 86 * s) ∧ r (6 + 86 * s) ≤ 12 := fun s hs => (hsyy23 s hs).1
  have h5 : 0 ≤ r 5 ∧ r 5 ≤ 6 := hpyy23
  obtain ⟨hp25, hp26, hp27, hp29⟩ := id hPl
  refine z_of (by decide) (Nat.le_of_ble_eq_true rfl) ?_
  intro pZ eZ sZ mZ below meth cZ C hr hlk hnm
  refine z_lv (lv' := [(0, .ref (ad i)), (1, .int (zI ((n : Int)))), (2, .int (zI (z1))), (3, .int (zI (z2)))]) [0, 1, 2, 3] rfl ?_
  refine z_aload_n C 0 dX10_odds_0 rfl ?_
  refine z_iconst (z := 0) C dX10_odds_1 rfl ?_
  refine z_put (fs' := mF ad (i) (uZ F 12 (0))) C (lt_A0 hN rfl) hay1 hg tyX10 tyX10_ok nmX10 rfl inA_X10 12 (by decide) q_1471 rfl rfl rfl rfl (Nat.le_of_ble_eq_true rfl) rfl dX10_odds_2 (fun gy24 egy25 => ?_)
  have hgy26 := up_s egy25
  refine z_aload_n C 0 dX10_odds_5 rfl ?_
  refine z_iload_n C 1 dX10_odds_6 rfl ?_
  have h13vy27 : (uZ F 12 (0)) 13 = F 13 := (fn rfl (by decide))
  have hey28 : (uZ F 12 (0)) 12 = 0 := (uZ_s _ _ _)
  refine z_cV (As := [.int (zI ((n : Int)))]) (rest := []) (ci := 12) C (c_X10_isSlope l D A cs tt N ad _ i hN _ hgy26 (by omega) (by omega) ((n : Int)) (by omega)) (lt_A0 hN rfl) hay1 hgy26 rfl rfl mv_yX10_isSlope q_1803 hd_yX10_isSlope (by decide) (Nat.le_of_ble_eq_true rfl) (by decide) dX10_odds_7 rfl (kI0 fun vy27 gvy27 hvy27 => ?_)
  rw [h13vy27] at hvy27
  obtain ⟨hrvy27, ⟨Fvy27, hcvy27, htvy27, hFvy27⟩, hfvy27⟩ := hvy27
  rcases (show vy27 = 1 ∨ vy27 = 0 by omega) with rfl | rfl
  · have hxvy27 := hrvy27.2 rfl
    refine z_if_eq (tgt := 46) C dX10_odds_10 (by decide) (by omega) (fun h => absurd h (by omega)) (fun _ => ?_)
    refine z_aload_n C 0 dX10_odds_13 rfl ?_
    refine z_iload_n C 2 dX10_odds_14 rfl ?_
    refine z_iconst (z := 1) C dX10_odds_15 rfl ?_
    refine z_bipush (z := 6) C dX10_odds_16 (by decide) ?_
    refine z_cS (As := [.int (zI (z1)), .int (zI (1)), .int (zI (6))]) (rest := [.ref (ad i)]) C (c_X10_within l D A cs tt N ad _ (z1) (by omega) (1) (by omega) (6) (by omega)) ms_yX10_within q_1686 hd_yX10_within (by decide) (Nat.le_of_ble_eq_true rfl) (by decide) dX10_odds_18 rfl (kI0 fun vy29 gvy29 hvy29 => ?_)
    obtain ⟨hvy29, rfl⟩ := hvy29
    rcases hvy29 with ⟨rfl, hxvy29⟩ | ⟨rfl, hxvy29⟩
    · refine z_if_eq (tgt := 38) C dX10_odds_21 (by decide) (by omega) (fun h => absurd h (by omega)) (fun _ => ?_)
      refine z_iload_n C 3 dX10_odds_24 rfl ?_
      refine z_iconst (z := 0) C dX10_odds_25 rfl ?_
      refine z_bipush (z := 10) C dX10_odds_26 (by decide) ?_
      refine z_cS (As := [.int (zI (z2)), .int (zI (0)), .int (zI (10))]) (rest := [.ref (ad i)]) C (c_X10_within l D A cs tt N ad _ (z2) (by omega) (0) (by omega) (10) (by omega)) ms_yX10_within q_1686 hd_yX10_within (by decide) (Nat.le_of_ble_eq_true rfl) (by decide) dX10_odds_28 rfl (kI0 fun vy30 gvy30 hvy30 => ?_)
      obtain ⟨hvy30, rfl⟩ := hvy30
      rcases hvy30 with ⟨rfl, hxvy30⟩ | ⟨rfl, hxvy30⟩
      · refine z_if_eq (tgt := 38) C dX10_odds_31 (by decide) (by omega) (fun h => absurd h (by omega)) (fun _ => ?_)
        refine z_iconst (z := 1) C dX10_odds_34 rfl ?_
        refine z_goto (tgt := 39) C dX10_odds_35 (by decide) ?_
        refine z_iconst (z := 2) C dX10_odds_39 rfl ?_
        have hey32 : Fvy27 12 = Fvy27 12 := rfl
        refine z_cV (As := [.int (zI (1)), .int (zI (2))]) (rest := []) (ci := 12) C (c_X10_right l D A cs tt N ad _ i hN _ hcvy27 (by omega) (1) (by omega) (2) (by omega)) (lt_A0 hN rfl) hay1 hcvy27 rfl rfl mv_yX10_right q_1648 hd_yX10_right (by decide) (Nat.le_of_ble_eq_true rfl) (by decide) dX10_odds_40 rfl (kI0 fun vy31 gvy31 hvy31 => ?_)
        obtain ⟨hrvy31, ⟨Fvy31, hcvy31, htvy31, hFvy31⟩, hfvy31⟩ := hvy31
        rcases (show vy31 = 1 ∨ vy31 = 0 by omega) with rfl | rfl
        · refine z_if_ne (tgt := 48) C dX10_odds_43 (by decide) (by omega) (fun _ => ?_) (fun h => absurd h (by omega))
          refine z_iconst (z := 0) C dX10_odds_48 rfl ?_
          refine z_istore (lv' := [(4, .int (zI (0))), (0, .ref (ad i)), (1, .int (zI ((n : Int)))), (2, .int (zI (z1))), (3, .int (zI (z2)))]) C dX10_odds_49 (by decide) rfl ?_
          refine z_iconst (z := 0) C dX10_odds_51 rfl ?_
          refine z_istore (lv' := [(5, .int (zI (0))), (4, .int (zI (0))), (0, .ref (ad i)), (1, .int (zI ((n : Int)))), (2, .int (zI (z1))), (3, .int (zI (z2)))]) C dX10_odds_52 (by decide) rfl ?_
          have lp1 : ∀ (n9 : Nat) (al : Int) (wy : Int) (F9 : Nat → Int) (r9 : Nat → Int) (g1 : Nat → va_E), (65 - wy).toNat = n9 → (okMr cs ad g1 i x F9 r9 st op ai fa mu tb tp) → ((∀ f, f ≠ 12 → f ≠ 29 → F9 f = F f)) → ((∀ j, j < 350 ∨ 700 ≤ j → r9 j = r j)) → (∀ j, j < i ∨ i + 30 ≤ j ∨ (i + 8 ≤ j ∧ j ≤ i + 12) → g1 j = g j) → (-2147483648 ≤ al ∧ al ≤ 2147483647) → (0 ≤ wy ∧ wy ≤ 64) → (F9 29 = 0) → zV pZ l eZ ({ frames := 11, cells := 0, slots := 0, locals := 660 } : Room) sZ mZ ([.ref (ad i), .int (zI ((n : Int))), .int (zI (z1)), .int (zI (z2))] : List Value).toArray below meth cZ (MQ below (zPost D A (rI0 N ad fun q g' => (-2147483648 ≤ q ∧ q ≤ 2147483647) ∧ (∃ F' r' : Nat → Int, okMr cs ad g' i (x + 1) F' r' st op ai fa mu tb tp ∧ (F' 13 = F 13 ∧ F' 14 = F 14 ∧ F' 15 = F 15 ∧ F' 16 = F 16 ∧ F' 17 = F 17 ∧ F' 18 = F 18 ∧ F' 19 = F 19 ∧ F' 20 = F 20 ∧ F' 21 = F 21 ∧ F' 23 = F 23 ∧ F' 24 = F 24) ∧ (F' 25 = 0 ∧ F' 26 = -1 ∧ F' 27 = -1 ∧ F' 29 = 0) ∧ (∀ j, j < 350 ∨ 700 ≤ j → r' j = r j)) ∧ ∀ j, j < i ∨ i + 30 ≤ j ∨ (i + 8 ≤ j ∧ j ≤ i + 12) → g' j = g j)) ([.ref (ad i), .int (zI ((n : Int))), .int (zI (z1)), .int (zI (z2))] : List Value).toArray sZ ({ frames := 11, cells := 0, slots := 0, locals := 660 } : Room).cells ({ frames := 11, cells := 0, slots := 0, locals := 660 } : Room).slots A) D A 8 (N) ad g1 (0) (0) 54 [(0, .ref (ad i)), (1, .int (zI ((n : Int)))), (2, .int (zI (z1))), (3, .int (zI (z2))), (4, .int (zI (al))), (5, .int (zI (wy)))] [] := by
            intro n9
            induction n9 using Nat.strongRecOn with
            | ind n9 ih_lp1 =>
              intro al wy F9 r9 g1 hm9 fM fF fR f3 hvlp10 hvlp11 hvlp12
              obtain ⟨hg_y33, ⟨⟨e13_y33, e14_y33, e25_y33, e27_y33, e29_y33⟩, k15_y33, k16_y33, k17_y33, k18_y33, k19_y33, k20_y33, k23_y33, k21_y33⟩, hRD_y33, hTx_y33, hA_y33, ns_y33, nh_y33, nd_y33, rf_y33, pi_y33, te_y33, ki_y33, li_y33, ok1_y33, ok2_y33, fo_y33, dd_y33, dps_y33, ⟨ha1_y33, ha2_y33, ha3_y33, ha4_y33, ha5_y33, ha6_y33, ha7_y33, ha8_y33, ha9_y33, ha10_y33, ha11_y33, ha12_y33, ha13_y33, ha14_y33, ha15_y33, ha24_y33, ha25_y33, ha26_y33, ha27_y33, ha28_y33, ha29_y33⟩, hEv_y33, hPt_y33, hns_y33, htp_y33⟩ := id fM
              obtain ⟨-, hop_y33, hai_y33, hfa_y33, hT_y33, hT1_y33⟩ := id hEv_y33
              have e14 := e14_y33
              have e25 := e25_y33
              have e27 := e27_y33
              have e29 := e29_y33
              have hop := hop_y33
              have hai := hai_y33
              have hfa := hfa_y33
              have hT := hT_y33
              have hT1 := hT1_y33
              have hEv := hEv_y33
              have htp := htp_y33
              have hns := hns_y33
              have hPt := hPt_y33
              have hay34 : zAt ad (i) (ad i) := rfl
              have hay35 : zAt ad (i + 1) (ad (i + 1)) := rfl
              have hay36 : zAt ad (i + 2) (ad (i + 2)) := rfl
              have hay37 : zAt ad (i + 3) (ad (i + 3)) := rfl
              have hay38 : zAt ad (i + 4) (ad (i + 4)) := rfl
              have hay39 : zAt ad (i + 5) (ad (i + 5)) := rfl
              have hay40 : zAt ad (i + 6) (ad (i + 6)) := rfl
              have hay41 : zAt ad (i + 7) (ad (i + 7)) := rfl
              have hay42 : zAt ad (i + 8) (ad (i + 8)) := rfl
              have hay43 : zAt ad (i + 9) (ad (i + 9)) := rfl
              have hay44 : zAt ad (i + 10) (ad (i + 10)) := rfl
              have hay45 : zAt ad (i + 11) (ad (i + 11)) := rfl
              have hay46 : zAt ad (i + 12) (ad (i + 12)) := rfl
              have hay47 : zAt ad (i + 13) (ad (i + 13)) := rfl
              have hay48 : zAt ad (i + 14) (ad (i + 14)) := rfl
              have hay49 : zAt ad (i + 15) (ad (i + 15)) := rfl
              have hay50 : zAt ad (i + 24) (ad (i + 24)) := rfl
              have hay51 : zAt ad (i + 25) (ad (i + 25)) := rfl
              have hay52 : zAt ad (i + 26) (ad (i + 26)) := rfl
              have hay53 : zAt ad (i + 27) (ad (i + 27)) := rfl
              have hay54 : zAt ad (i + 28) (ad (i + 28)) := rfl
              have hay55 : zAt ad (i + 29) (ad (i + 29)) := rfl
              obtain ⟨⟨hsyy56, htyy56, hnyy56, hpyy56⟩, hlyy56⟩ := okA.at0 hA_y33
              simp only [Nat.zero_add] at hsyy56 hnyy56 hpyy56
              have hmn : ∀ s, s < 4 → 0 ≤ r9 (6 + 86 * s) ∧ r9 (6 + 86 * s) ≤ 12 := fun s hs => (hsyy56 s hs).1
              have h5 : 0 ≤ r9 5 ∧ r9 5 ≤ 6 := hpyy56
              have h13e : F9 13 = F 13 := fF 13 (by decide) (by decide)
              have h14e : F9 14 = F 14 := fF 14 (by decide) (by decide)
              have h17e : F9 17 = F 17 := fF 17 (by decide) (by decide)
              have h20e : F9 20 = F 20 := fF 20 (by decide) (by decide)
              have h21e : F9 21 = F 21 := fF 21 (by decide) (by decide)
              have h23e : F9 23 = F 23 := fF 23 (by decide) (by decide)
              have h24e : F9 24 = F 24 := fF 24 (by decide) (by decide)
              have h15e : F9 15 = F 15 := fF 15 (by decide) (by decide)
              have h16e : F9 16 = F 16 := fF 16 (by decide) (by decide)
              have h18e : F9 18 = F 18 := fF 18 (by decide) (by decide)
              have h19e : F9 19 = F 19 := fF 19 (by decide) (by decide)
              have h25e : F9 25 = F 25 := fF 25 (by decide) (by decide)
              have h26e : F9 26 = F 26 := fF 26 (by decide) (by decide)
              have h27e : F9 27 = F 27 := fF 27 (by decide) (by decide)
              refine z_iload C 5 dX10_odds_54 rfl ?_
              refine z_iconst (z := 1) C dX10_odds_56 rfl ?_
              refine z_iload_n C 2 dX10_odds_57 rfl ?_
              obtain ⟨xy57, exy58, hxy59⟩ := zI_of (zI (1) <<< (zI (z1) &&& 31))
              refine z_ishl (z := xy57) C dX10_odds_58 exy58 ?_
              have hshy60 := shl1_le (z := z1) (by omega) exy58 hxy59
              refine z_icmp_ge (tgt := 160) C dX10_odds_59 (by decide) (by omega) (by omega) (fun hby61 => ?_) (fun hby61 => ?_)
              · refine z_iload C 4 dX10_odds_160 rfl ?_
                have hMy62 : okMr cs ad g1 i (x + 1) F9 r9 st op ai fa mu tb tp := okMr.upd fM hg_y33 fM.2.1 (fun f _ => rfl) ha1_y33 (hA_y33.mono (by omega)) (fun j a b => by
                    exact Or.inl (by rfl))
                have hkpy63 : F9 13 = F9 13 := rfl
                have hkpy64 : F9 14 = F9 14 := rfl
                have hkpy65 : F9 15 = F9 15 := rfl
                have hkpy66 : F9 16 = F9 16 := rfl
                have hkpy67 : F9 17 = F9 17 := rfl
                have hkpy68 : F9 18 = F9 18 := rfl
                have hkpy69 : F9 19 = F9 19 := rfl
                have hkpy70 : F9 20 = F9 20 := rfl
                have hkpy71 : F9 21 = F9 21 := rfl
                have hkpy72 : F9 23 = F9 23 := rfl
                have hkpy73 : F9 24 = F9 24 := rfl
                have hkpy74 : F9 25 = F9 25 := rfl
                have hkpy75 : F9 26 = F9 26 := rfl
                have hkpy76 : F9 27 = F9 27 := rfl
                have hkpy77 : F9 29 = F9 29 := rfl
                exact z_iret C hr hlk dX10_odds_162 (by decide) (by decide) ⟨al, rfl, rfl, rfl, by omega, ⟨_, _, hMy62, ⟨(by omega), (by omega), (by omega), (by omega), (by omega), (by omega), (by omega), (by omega), (by omega), (by omega), (by omega)⟩, ⟨(by omega), (by omega), (by omega), (by omega)⟩, fR⟩, fun j j1 => by exact f3 j j1⟩
              · refine z_iconst (z := 1) C dX10_odds_62 rfl ?_
                refine z_istore (lv' := [(6, .int (zI (1))), (0, .ref (ad i)), (1, .int (zI ((n : Int)))), (2, .int (zI (z1))), (3, .int (zI (z2))), (4, .int (zI (al))), (5, .int (zI (wy)))]) C dX10_odds_63 (by decide) rfl ?_
                refine z_aload_n C 1 dX10_odds_65 rfl ?_
                refine z_cV (As := []) (rest := []) (ci := 12) C (c_X10_tries l D A cs tt N ad _ i hN _ hg_y33 _ ha1_y33 (x) hA_y33) (lt_A0 hN rfl) hay34 hg_y33 rfl rfl mv_yX10_tries q_1980 hd_yX10_tries (by decide) (Nat.le_of_ble_eq_true rfl) (by decide) dX10_odds_66 rfl (kV0 fun gvy78 hvy78 => ?_)
                obtain ⟨⟨rvy78, hdvy78, hAvy78, hWvy78, h0vy78, hyvy78⟩, hfvy78⟩ := hvy78
                obtain ⟨⟨hsyy79, htyy79, hnyy79, hpyy79⟩, hlyy79⟩ := okA.at0 hAvy78
                simp only [Nat.zero_add] at hsyy79 hnyy79 hpyy79
                have hmn : ∀ s, s < 4 → 0 ≤ rvy78 (6 + 86 * s) ∧ rvy78 (6 + 86 * s) ≤ 12 := fun s hs => (hsyy79 s hs).1
                have h5 : 0 ≤ rvy78 5 ∧ rvy78 5 ≤ 6 := hpyy79
                refine z_iconst (z := 0) C dX10_odds_69 rfl ?_
                refine z_istore (lv' := [(7, .int (zI (0))), (6, .int (zI (1))), (0, .ref (ad i)), (1, .int (zI ((n : Int)))), (2, .int (zI (z1))), (3, .int (zI (z2))), (4, .int (zI (al))), (5, .int (zI (wy)))]) C dX10_odds_70 (by decide) rfl ?_
                have lp2 : ∀ (n9 : Nat) (so : Int) (kk : Int) (F9b : Nat → Int) (r9b : Nat → Int) (g1 : Nat → va_E), (7 - kk).toNat = n9 → (okMr cs ad g1 i x F9b r9b st op ai fa mu tb tp) → ((∀ f, f ≠ 12 → f ≠ 29 → F9b f = F f)) → (okW r9b 350 (x)) → ((∀ j, j < 350 ∨ 700 ≤ j → r9b j = r j)) → (∀ j, j < i ∨ i + 30 ≤ j ∨ (i + 8 ≤ j ∧ j ≤ i + 12) → g1 j = g j) → (-2147483648 ≤ so ∧ so ≤ 2147483647) → (0 ≤ kk ∧ kk ≤ z1) → (r9b 350 ≤ 2000 + kk) → zV pZ l eZ ({ frames := 11, cells := 0, slots := 0, locals := 660 } : Room) sZ mZ ([.ref (ad i), .int (zI ((n : Int))), .int (zI (z1)), .int (zI (z2))] : List Value).toArray below meth cZ (MQ below (zPost D A (rI0 N ad fun q g' => (-2147483648 ≤ q ∧ q ≤ 2147483647) ∧ (∃ F' r' : Nat → Int, okMr cs ad g' i (x + 1) F' r' st op ai fa mu tb tp ∧ (F' 13 = F 13 ∧ F' 14 = F 14 ∧ F' 15 = F 15 ∧ F' 16 = F 16 ∧ F' 17 = F 17 ∧ F' 18 = F 18 ∧ F' 19 = F 19 ∧ F' 20 = F 20 ∧ F' 21 = F 21 ∧ F' 23 = F 23 ∧ F' 24 = F 24) ∧ (F' 25 = 0 ∧ F' 26 = -1 ∧ F' 27 = -1 ∧ F' 29 = 0) ∧ (∀ j, j < 350 ∨ 700 ≤ j → r' j = r j)) ∧ ∀ j, j < i ∨ i + 30 ≤ j ∨ (i + 8 ≤ j ∧ j ≤ i + 12) → g' j = g j)) ([.ref (ad i), .int (zI ((n : Int))), .int (zI (z1)), .int (zI (z2))] : List Value).toArray sZ ({ frames := 11, cells := 0, slots := 0, locals := 660 } : Room).cells ({ frames := 11, cells := 0, slots := 0, locals := 660 } : Room).slots A) D A 8 (N) ad g1 (0) (0) 72 [(0, .ref (ad i)), (1, .int (zI ((n : Int)))), (2, .int (zI (z1))), (3, .int (zI (z2))), (4, .int (zI (al))), (5, .int (zI (wy))), (6, .int (zI (so))), (7, .int (zI (kk)))] [] := by
                  intro n9
                  induction n9 using Nat.strongRecOn with
                  | ind n9 ih_lp2 =>
                    intro so kk F9b r9b g1 hm9 fMb fFb fWb fRb f3 hvlp20 hvlp21 hvlp22
                    obtain ⟨hg_y80, ⟨⟨e13_y80, e14_y80, e25_y80, e27_y80, e29_y80⟩, k15_y80, k16_y80, k17_y80, k18_y80, k19_y80, k20_y80, k23_y80, k21_y80⟩, hRD_y80, hTx_y80, hA_y80, ns_y80, nh_y80, nd_y80, rf_y80, pi_y80, te_y80, ki_y80, li_y80, ok1_y80, ok2_y80, fo_y80, dd_y80, dps_y80, ⟨ha1_y80, ha2_y80, ha3_y80, ha4_y80, ha5_y80, ha6_y80, ha7_y80, ha8_y80, ha9_y80, ha10_y80, ha11_y80, ha12_y80, ha13_y80, ha14_y80, ha15_y80, ha24_y80, ha25_y80, ha26_y80, ha27_y80, ha28_y80, ha29_y80⟩, hEv_y80, hPt_y80, hns_y80, htp_y80⟩ := id fMb
                    obtain ⟨-, hop_y80, hai_y80, hfa_y80, hT_y80, hT1_y80⟩ := id hEv_y80
                    have e14 := e14_y80
                    have e25 := e25_y80
                    have e27 := e27_y80
                    have e29 := e29_y80
                    have hop := hop_y80
                    have hai := hai_y80
                    have hfa := hfa_y80
                    have hT := hT_y80
                    have hT1 := hT1_y80
                    have hEv := hEv_y80
                    have htp := htp_y80
                    have hns := hns_y80
                    have hPt := hPt_y80
                    have hay81 : zAt ad (i) (ad i) := rfl
                    have hay82 : zAt ad (i + 1) (ad (i + 1)) := rfl
                    have hay83 : zAt ad (i + 2) (ad (i + 2)) := rfl
                    have hay84 : zAt ad (i + 3) (ad (i + 3)) := rfl
                    have hay85 : zAt ad (i + 4) (ad (i + 4)) := rfl
                    have hay86 : zAt ad (i + 5) (ad (i + 5)) := rfl
                    have hay87 : zAt ad (i + 6) (ad (i + 6)) := rfl
                    have hay88 : zAt ad (i + 7) (ad (i + 7)) := rfl
                    have hay89 : zAt ad (i + 8) (ad (i + 8)) := rfl
                    have hay90 : zAt ad (i + 9) (ad (i + 9)) := rfl
                    have hay91 : zAt ad (i + 10) (ad (i + 10)) := rfl
                    have hay92 : zAt ad (i + 11) (ad (i + 11)) := rfl
                    have hay93 : zAt ad (i + 12) (ad (i + 12)) := rfl
                    have hay94 : zAt ad (i + 13) (ad (i + 13)) := rfl
                    have hay95 : zAt ad (i + 14) (ad (i + 14)) := rfl
                    have hay96 : zAt ad (i + 15) (ad (i + 15)) := rfl
                    have hay97 : zAt ad (i + 24) (ad (i + 24)) := rfl
                    have hay98 : zAt ad (i + 25) (ad (i + 25)) := rfl
                    have hay99 : zAt ad (i + 26) (ad (i + 26)) := rfl
                    have hay100 : zAt ad (i + 27) (ad (i + 27)) := rfl
                    have hay101 : zAt ad (i + 28) (ad (i + 28)) := rfl
                    have hay102 : zAt ad (i + 29) (ad (i + 29)) := rfl
                    obtain ⟨⟨hsyy103, htyy103, hnyy103, hpyy103⟩, hlyy103⟩ := okA.at0 hA_y80
                    simp only [Nat.zero_add] at hsyy103 hnyy103 hpyy103
                    have hmn : ∀ s, s < 4 → 0 ≤ r9b (6 + 86 * s) ∧ r9b (6 + 86 * s) ≤ 12 := fun s hs => (hsyy103 s hs).1
                    have h5 : 0 ≤ r9b 5 ∧ r9b 5 ≤ 6 := hpyy103
                    have h13be : F9b 13 = F 13 := fFb 13 (by decide) (by decide)
                    have h14be : F9b 14 = F 14 := fFb 14 (by decide) (by decide)
                    have h17be : F9b 17 = F 17 := fFb 17 (by decide) (by decide)
                    have h20be : F9b 20 = F 20 := fFb 20 (by decide) (by decide)
                    have h21be : F9b 21 = F 21 := fFb 21 (by decide) (by decide)
                    have h23be : F9b 23 = F 23 := fFb 23 (by decide) (by decide)
                    have h24be : F9b 24 = F 24 := fFb 24 (by decide) (by decide)
                    have h15be : F9b 15 = F 15 := fFb 15 (by decide) (by decide)
                    have h16be : F9b 16 = F 16 := fFb 16 (by decide) (by decide)
                    have h18be : F9b 18 = F 18 := fFb 18 (by decide) (by decide)
                    have h19be : F9b 19 = F 19 := fFb 19 (by decide) (by decide)
                    have h25be : F9b 25 = F 25 := fFb 25 (by decide) (by decide)
                    have h26be : F9b 26 = F 26 := fFb 26 (by decide) (by decide)
                    have h27be : F9b 27 = F 27 := fFb 27 (by decide) (by decide)
                    have hW2b := fWb.2.1
                    refine z_iload C 7 dX10_odds_72 rfl ?_
                    refine z_iload_n C 2 dX10_odds_74 rfl ?_
                    refine z_icmp_ge (tgt := 131) C dX10_odds_75 (by decide) (by omega) (by omega) (fun hby104 => ?_) (fun hby104 => ?_)
                    · refine z_aload_n C 0 dX10_odds_131 rfl ?_
                      refine z_iconst (z := 0) C dX10_odds_132 rfl ?_
                      refine z_put (fs' := mF ad (i) (uZ F9b 29 (0))) C (lt_A0 hN rfl) hay81 hg_y80 tyX10 tyX10_ok nmX10 rfl inA_X10 29 (by decide) q_1488 rfl rfl (by decide) rfl (Nat.le_of_ble_eq_true rfl) rfl dX10_odds_133 (fun gy105 egy106 => ?_)
                      have hgy107 := up_s egy106
                      refine z_aload_n C 0 dX10_odds_136 rfl ?_
                      refine z_sipush (z := 350) C dX10_odds_137 (by decide) ?_
                      refine z_iload_n C 1 dX10_odds_140 rfl ?_
                      obtain ⟨py108, hpy108⟩ : ∃ p9 : Nat, 350 + 6 + 86 * n = p9 := ⟨_, rfl⟩
                      have hgy109 := up_n egy106 ha1_y80 (ne_o (i := i) (c := 1) (d := 0) rfl)
                      have hgy111 := up_n egy106 ha2_y80 (ne_o (i := i) (c := 2) (d := 0) rfl)
                      have hgy112 := up_n egy106 ha7_y80 (ne_o (i := i) (c := 7) (d := 0) rfl)
                      have hqy113 : qS r9b py108 := ((fWb.1 n (by omega)).of (p2 := py108) (by omega)).q (by have hb9 := mBb (t := r9b 350 + x) (by omega); omega)
                      have hmky114 := hqy113.1
                      refine z_cV (As := [.int (zI (350)), .int (zI ((n : Int)))]) (rest := []) (ci := 12) C (c_X10_isUnstable l D A cs tt N ad _ i hN _ hgy107 _ hgy109 _ hgy111 _ hgy112 350 n py108 hpy108 (by omega) (by omega) hqy113) (lt_A0 hN rfl) hay81 hgy107 rfl rfl mv_yX10_isUnstable q_1811 hd_yX10_isUnstable (by decide) (Nat.le_of_ble_eq_true rfl) (by decide) dX10_odds_141 rfl (kI0 fun vy110 gvy110 hvy110 => ?_)
                      obtain ⟨hvy110, rfl⟩ := hvy110
                      refine z_if_eq (tgt := 154) C dX10_odds_144 (by decide) (by omega) (fun hby115 => ?_) (fun hby115 => ?_)
                      · refine z_iinc (z := wy + 1) (lv' := [(5, .int (zI (wy + 1))), (0, .ref (ad i)), (1, .int (zI ((n : Int)))), (2, .int (zI (z1))), (3, .int (zI (z2))), (4, .int (zI (al))), (6, .int (zI (so))), (7, .int (zI (kk)))]) (j := 5) C dX10_odds_154 rfl rfl (by decide) rfl ?_
                        refine z_goto (tgt := 54) C dX10_odds_157 (by decide) ?_
                        have hFy116 : ∀ f, f ≠ 29 → (uZ F9b 29 (0)) f = F9b f := fun f n29 => ((uZ_n _ _ n29).trans rfl)
                        have hey117 : (uZ F9b 29 (0)) 13 = F9b 13 := (fn rfl (by decide))
                        have hey118 : (uZ F9b 29 (0)) 14 = F9b 14 := (fn rfl (by decide))
                        have hey119 : (uZ F9b 29 (0)) 15 = F9b 15 := (fn rfl (by decide))
                        have hey120 : (uZ F9b 29 (0)) 16 = F9b 16 := (fn rfl (by decide))
                        have hey121 : (uZ F9b 29 (0)) 17 = F9b 17 := (fn rfl (by decide))
                        have hey122 : (uZ F9b 29 (0)) 18 = F9b 18 := (fn rfl (by decide))
                        have hey123 : (uZ F9b 29 (0)) 19 = F9b 19 := (fn rfl (by decide))
                        have hey124 : (uZ F9b 29 (0)) 20 = F9b 20 := (fn rfl (by decide))
                        have hey125 : (uZ F9b 29 (0)) 21 = F9b 21 := (fn rfl (by decide))
                        have hey126 : (uZ F9b 29 (0)) 23 = F9b 23 := (fn rfl (by decide))
                        have hey127 : (uZ F9b 29 (0)) 25 = F9b 25 := (fn rfl (by decide))
                        have hey128 : (uZ F9b 29 (0)) 27 = F9b 27 := (fn rfl (by decide))
                        have hey129 : (uZ F9b 29 (0)) 28 = F9b 28 := (fn rfl (by decide))
                        have hey130 : (uZ F9b 29 (0)) 29 = 0 := (uZ_s _ _ _)
                        have hKy131 : okF (uZ F9b 29 (0)) := by unfold okF; omega
                        have hMy132 : okMr cs ad gy105 i (x) (uZ F9b 29 (0)) r9b st op ai fa mu tb tp := okMr.upd fMb hgy107 hKy131 (fun f a => hFy116 f (by omega)) hgy109 (hA_y80.mono (by omega)) (fun j a b => by
                            exact Or.inl (by rw [egy106, va_up_ne _ _ (by omega)]))
                        have hFy133 : ∀ f, f ≠ 29 → (uZ F9b 29 (0)) f = F9b f := fun f n29 => ((uZ_n _ _ n29).trans rfl)
                        have hFF : (∀ f, f ≠ 12 → f ≠ 29 → (uZ F9b 29 (0)) f = F f) := fun f n12 n29 => (hFy133 f n29).trans (fFb f n12 n29)
                        have hey134 : (uZ F9b 29 (0)) 13 = F9b 13 := (fn rfl (by decide))
                        have hey135 : (uZ F9b 29 (0)) 14 = F9b 14 := (fn rfl (by decide))
                        have hey136 : (uZ F9b 29 (0)) 29 = 0 := (uZ_s _ _ _)
                        refine z_lv (lv' := [(0, .ref (ad i)), (1, .int (zI ((n : Int)))), (2, .int (zI (z1))), (3, .int (zI (z2))), (4, .int (zI (al))), (5, .int (zI (wy + 1)))]) [1, 2, 3, 4, 5, 0] rfl ?_
                        exact ih_lp1 _ (by omega) (al) (wy + 1) _ _ gy105 rfl hMy132 hFF (fRb) (fun j j1 => by rw [egy106, va_up_ne _ _ (by omega)]; exact f3 j j1) (by omega) (by omega) (by omega)
                      · refine z_iload C 4 dX10_odds_147 rfl ?_
                        refine z_iload C 6 dX10_odds_149 rfl ?_
                        refine z_iadd C dX10_odds_151 ?_
                        refine z_istore (lv' := [(4, .int (zI (al + so))), (0, .ref (ad i)), (1, .int (zI ((n : Int)))), (2, .int (zI (z1))), (3, .int (zI (z2))), (5, .int (zI (wy))), (6, .int (zI (so))), (7, .int (zI (kk)))]) C dX10_odds_152 (by decide) rfl ?_
                        refine z_iinc (z := wy + 1) (lv' := [(5, .int (zI (wy + 1))), (4, .int (zI (al + so))), (0, .ref (ad i)), (1, .int (zI ((n : Int)))), (2, .int (zI (z1))), (3, .int (zI (z2))), (6, .int (zI (so))), (7, .int (zI (kk)))]) (j := 5) C dX10_odds_154 rfl rfl (by decide) rfl ?_
                        refine z_goto (tgt := 54) C dX10_odds_157 (by decide) ?_
                        obtain ⟨xy137, exy138, hxy139⟩ := zI_of (zI (al + so))
                        rw [exy138]
                        have hFy140 : ∀ f, f ≠ 29 → (uZ F9b 29 (0)) f = F9b f := fun f n29 => ((uZ_n _ _ n29).trans rfl)
                        have hey141 : (uZ F9b 29 (0)) 13 = F9b 13 := (fn rfl (by decide))
                        have hey142 : (uZ F9b 29 (0)) 14 = F9b 14 := (fn rfl (by decide))
                        have hey143 : (uZ F9b 29 (0)) 15 = F9b 15 := (fn rfl (by decide))
                        have hey144 : (uZ F9b 29 (0)) 16 = F9b 16 := (fn rfl (by decide))
                        have hey145 : (uZ F9b 29 (0)) 17 = F9b 17 := (fn rfl (by decide))
                        have hey146 : (uZ F9b 29 (0)) 18 = F9b 18 := (fn rfl (by decide))
                        have hey147 : (uZ F9b 29 (0)) 19 = F9b 19 := (fn rfl (by decide))
                        have hey148 : (uZ F9b 29 (0)) 20 = F9b 20 := (fn rfl (by decide))
                        have hey149 : (uZ F9b 29 (0)) 21 = F9b 21 := (fn rfl (by decide))
                        have hey150 : (uZ F9b 29 (0)) 23 = F9b 23 := (fn rfl (by decide))
                        have hey151 : (uZ F9b 29 (0)) 25 = F9b 25 := (fn rfl (by decide))
                        have hey152 : (uZ F9b 29 (0)) 27 = F9b 27 := (fn rfl (by decide))
                        have hey153 : (uZ F9b 29 (0)) 28 = F9b 28 := (fn rfl (by decide))
                        have hey154 : (uZ F9b 29 (0)) 29 = 0 := (uZ_s _ _ _)
                        have hKy155 : okF (uZ F9b 29 (0)) := by unfold okF; omega
                        have hMy156 : okMr cs ad gy105 i (x) (uZ F9b 29 (0)) r9b st op ai fa mu tb tp := okMr.upd fMb hgy107 hKy155 (fun f a => hFy140 f (by omega)) hgy109 (hA_y80.mono (by omega)) (fun j a b => by
                            exact Or.inl (by rw [egy106, va_up_ne _ _ (by omega)]))
                        have hFy157 : ∀ f, f ≠ 29 → (uZ F9b 29 (0)) f = F9b f := fun f n29 => ((uZ_n _ _ n29).trans rfl)
                        have hFF : (∀ f, f ≠ 12 → f ≠ 29 → (uZ F9b 29 (0)) f = F f) := fun f n12 n29 => (hFy157 f n29).trans (fFb f n12 n29)
                        have hey158 : (uZ F9b 29 (0)) 13 = F9b 13 := (fn rfl (by decide))
                        have hey159 : (uZ F9b 29 (0)) 14 = F9b 14 := (fn rfl (by decide))
                        have hey160 : (uZ F9b 29 (0)) 29 = 0 := (uZ_s _ _ _)
                        refine z_lv (lv' := [(0, .ref (ad i)), (1, .int (zI ((n : Int)))), (2, .int (zI (z1))), (3, .int (zI (z2))), (4, .int (zI (xy137))), (5, .int (zI (wy + 1)))]) [2, 3, 4, 5, 1, 0] rfl ?_
                        exact ih_lp1 _ (by omega) (xy137) (wy + 1) _ _ gy105 rfl hMy156 hFF (fRb) (fun j j1 => by rw [egy106, va_up_ne _ _ (by omega)]; exact f3 j j1) (by omega) (by omega) (by omega)
                    · refine z_aload_n C 0 dX10_odds_78 rfl ?_
                      refine z_iload C 5 dX10_odds_79 rfl ?_
                      refine z_iload C 7 dX10_odds_81 rfl ?_
                      obtain ⟨xy161, exy162, hxy163⟩ := zI_of (zI (wy) >>> (zI (kk) &&& 31))
                      refine z_ishr (z := xy161) C dX10_odds_83 exy162 ?_
                      refine z_iconst (z := 1) C dX10_odds_84 rfl ?_
                      obtain ⟨xy164, exy165, hxy166⟩ := zI_and (zI (xy161)) (m := zI 1) 1 (by decide)
                      refine z_iand (z := xy164) C dX10_odds_85 exy165 ?_
                      refine z_iconst (z := 1) C dX10_odds_86 rfl ?_
                      refine z_icmp_ne (tgt := 94) C dX10_odds_87 (by decide) (by omega) (by omega) (fun hby167 => ?_) (fun hby167 => ?_)
                      · refine z_iconst (z := 0) C dX10_odds_94 rfl ?_
                        refine z_put (fs' := mF ad (i) (uZ F9b 29 (0))) C (lt_A0 hN rfl) hay81 hg_y80 tyX10 tyX10_ok nmX10 rfl inA_X10 29 (by decide) q_1488 rfl rfl (by decide) rfl (Nat.le_of_ble_eq_true rfl) rfl dX10_odds_95 (fun gy168 egy169 => ?_)
                        have hgy170 := up_s egy169
                        refine z_iload C 6 dX10_odds_98 rfl ?_
                        refine z_aload_n C 0 dX10_odds_100 rfl ?_
                        refine z_get (v := .int (zI (0))) C (lt_A0 hN rfl) hay81 hgy170 rfl inA_X10 29 (by decide) q_1488 rfl (fv (F := (uZ F9b 29 (0))) (f := 29) (uZ_s _ _ _)) dX10_odds_101 ?_
                        refine z_if_eq (tgt := 111) C dX10_odds_104 (by decide) (by omega) (fun _ => ?_) (fun h => absurd h (by omega))
                        refine z_bipush (z := 10) C dX10_odds_111 (by decide) ?_
                        refine z_iload_n C 3 dX10_odds_113 rfl ?_
                        refine z_isub C dX10_odds_114 ?_
                        refine z_imul C dX10_odds_115 ?_
                        refine z_istore (lv' := [(6, .int (zI (so * (10 - z2)))), (0, .ref (ad i)), (1, .int (zI ((n : Int)))), (2, .int (zI (z1))), (3, .int (zI (z2))), (4, .int (zI (al))), (5, .int (zI (wy))), (7, .int (zI (kk)))]) C dX10_odds_116 (by decide) rfl ?_
                        refine z_aload_n C 1 dX10_odds_118 rfl ?_
                        refine z_sipush (z := 350) C dX10_odds_119 (by decide) ?_
                        have hey172 : (uZ F9b 29 (0)) 13 = F9b 13 := (fn rfl (by decide))
                        have hey173 : (uZ F9b 29 (0)) 14 = F9b 14 := (fn rfl (by decide))
                        have hey174 : (uZ F9b 29 (0)) 25 = F9b 25 := (fn rfl (by decide))
                        have hey175 : (uZ F9b 29 (0)) 27 = F9b 27 := (fn rfl (by decide))
                        have hey176 : (uZ F9b 29 (0)) 28 = F9b 28 := (fn rfl (by decide))
                        have hey177 : (uZ F9b 29 (0)) 29 = 0 := (uZ_s _ _ _)
                        have hEvy171 : okEnv (uZ F9b 29 (0)) _ _ _ _ _ := ⟨by omega, hop, hai, hfa, hT, hT1⟩
                        have hgy178 := up_n egy169 ha1_y80 (ne_o (i := i) (c := 1) (d := 0) rfl)
                        have hgy180 := up_n egy169 ha3_y80 (ne_o (i := i) (c := 3) (d := 0) rfl)
                        have hgy181 := up_n egy169 ha4_y80 (ne_o (i := i) (c := 4) (d := 0) rfl)
                        have hgy182 := up_n egy169 ha5_y80 (ne_o (i := i) (c := 5) (d := 0) rfl)
                        have hgy183 := up_n egy169 ha6_y80 (ne_o (i := i) (c := 6) (d := 0) rfl)
                        have hgy184 := up_n egy169 ha7_y80 (ne_o (i := i) (c := 7) (d := 0) rfl)
                        have hgy185 := up_n egy169 ha14_y80 (ne_o (i := i) (c := 14) (d := 0) rfl)
                        have hgy186 := up_n egy169 ha15_y80 (ne_o (i := i) (c := 15) (d := 0) rfl)
                        refine z_cV (As := [.int (zI (350))]) (rest := []) (ci := 12) C (c_X10_hour l D A cs tt N ad _ i hN _ hgy170 _ hgy178 _ hgy180 _ hgy181 _ hgy182 _ hgy183 _ hgy184 _ hgy185 _ hgy186 350 (by omega) hEvy171 (x) (by omega) fWb (by omega) (by omega)) (lt_A0 hN rfl) hay81 hgy170 rfl rfl mv_yX10_hour q_1885 hd_yX10_hour (by decide) (Nat.le_of_ble_eq_true rfl) (by decide) dX10_odds_122 rfl (kV0 fun gvy179 hvy179 => ?_)
                        obtain ⟨⟨rvy179, hcvy179, hwvy179, htvy179, hyvy179⟩, ⟨t4vy179, h4vy179⟩, ⟨t5vy179, h5vy179⟩, hfvy179⟩ := hvy179
                        have hAy187 : okA rvy179 (x) := okA.tried hA_y80 (fun j a => hyvy179 j (by omega))
                        obtain ⟨⟨hsyy188, htyy188, hnyy188, hpyy188⟩, hlyy188⟩ := okA.at0 hAy187
                        simp only [Nat.zero_add] at hsyy188 hnyy188 hpyy188
                        have hmn : ∀ s, s < 4 → 0 ≤ rvy179 (6 + 86 * s) ∧ rvy179 (6 + 86 * s) ≤ 12 := fun s hs => (hsyy188 s hs).1
                        have h5 : 0 ≤ rvy179 5 ∧ rvy179 5 ≤ 6 := hpyy188
                        refine z_iinc (z := kk + 1) (lv' := [(7, .int (zI (kk + 1))), (6, .int (zI (so * (10 - z2)))), (0, .ref (ad i)), (1, .int (zI ((n : Int)))), (2, .int (zI (z1))), (3, .int (zI (z2))), (4, .int (zI (al))), (5, .int (zI (wy)))]) (j := 7) C dX10_odds_125 rfl rfl (by decide) rfl ?_
                        refine z_goto (tgt := 72) C dX10_odds_128 (by decide) ?_
                        obtain ⟨xy189, exy190, hxy191⟩ := zI_of (zI (so * (10 - z2)))
                        rw [exy190]
                        have hgy192 := (hfvy179 (i) (ne_o (i := i) (c := 0) (d := 1) rfl) (ne_o (i := i) (c := 0) (d := 14) rfl) (ne_o (i := i) (c := 0) (d := 15) rfl)).trans hgy170
                        have hFy193 : ∀ f, f ≠ 29 → (uZ F9b 29 (0)) f = F9b f := fun f n29 => ((uZ_n _ _ n29).trans rfl)
                        have hey194 : (uZ F9b 29 (0)) 13 = F9b 13 := (fn rfl (by decide))
                        have hey195 : (uZ F9b 29 (0)) 14 = F9b 14 := (fn rfl (by decide))
                        have hey196 : (uZ F9b 29 (0)) 15 = F9b 15 := (fn rfl (by decide))
                        have hey197 : (uZ F9b 29 (0)) 16 = F9b 16 := (fn rfl (by decide))
                        have hey198 : (uZ F9b 29 (0)) 17 = F9b 17 := (fn rfl (by decide))
                        have hey199 : (uZ F9b 29 (0)) 18 = F9b 18 := (fn rfl (by decide))
                        have hey200 : (uZ F9b 29 (0)) 19 = F9b 19 := (fn rfl (by decide))
                        have hey201 : (uZ F9b 29 (0)) 20 = F9b 20 := (fn rfl (by decide))
                        have hey202 : (uZ F9b 29 (0)) 21 = F9b 21 := (fn rfl (by decide))
                        have hey203 : (uZ F9b 29 (0)) 23 = F9b 23 := (fn rfl (by decide))
                        have hey204 : (uZ F9b 29 (0)) 25 = F9b 25 := (fn rfl (by decide))
                        have hey205 : (uZ F9b 29 (0)) 27 = F9b 27 := (fn rfl (by decide))
                        have hey206 : (uZ F9b 29 (0)) 28 = F9b 28 := (fn rfl (by decide))
                        have hey207 : (uZ F9b 29 (0)) 29 = 0 := (uZ_s _ _ _)
                        have hKy208 : okF (uZ F9b 29 (0)) := by unfold okF; omega
                        have hMy209 : okMr cs ad gvy179 i (x) (uZ F9b 29 (0)) rvy179 st op ai fa mu tb tp := okMr.upd fMb hgy192 hKy208 (fun f a => hFy193 f (by omega)) hcvy179 (hAy187.mono (by omega)) (fun j a b => by
                            by_cases e0 : j = i + 14
                            · exact Or.inr ⟨14, _, e0, lsP.l (by decide), by rw [e0]; exact h4vy179⟩
                            by_cases e1 : j = i + 15
                            · exact Or.inr ⟨15, _, e1, lsP.l (by decide), by rw [e1]; exact h5vy179⟩
                            exact Or.inl (by rw [hfvy179 _ (by omega) (by omega) (by omega)]; rw [egy169, va_up_ne _ _ (by omega)]))
                        have hFy210 : ∀ f, f ≠ 29 → (uZ F9b 29 (0)) f = F9b f := fun f n29 => ((uZ_n _ _ n29).trans rfl)
                        have hFFb : (∀ f, f ≠ 12 → f ≠ 29 → (uZ F9b 29 (0)) f = F f) := fun f n12 n29 => (hFy210 f n29).trans (fFb f n12 n29)
                        have hey211 : (uZ F9b 29 (0)) 13 = F9b 13 := (fn rfl (by decide))
                        have hey212 : (uZ F9b 29 (0)) 14 = F9b 14 := (fn rfl (by decide))
                        refine z_lv (lv' := [(0, .ref (ad i)), (1, .int (zI ((n : Int)))), (2, .int (zI (z1))), (3, .int (zI (z2))), (4, .int (zI (al))), (5, .int (zI (wy))), (6, .int (zI (xy189))), (7, .int (zI (kk + 1)))]) [2, 3, 4, 5, 6, 7, 1, 0] rfl ?_
                        exact ih_lp2 _ (by omega) (xy189) (kk + 1) _ _ gvy179 rfl hMy209 hFFb hwvy179 ((fun j a9 => (hyvy179 j (by omega)).trans (fRb j a9))) (fun j j1 => by rw [hfvy179 _ (by omega) (by omega) (by omega)]; rw [egy169, va_up_ne _ _ (by omega)]; exact f3 j j1) (by omega) (by omega) (by omega)
                      · refine z_iconst (z := 1) C dX10_odds_90 rfl ?_
                        refine z_goto (tgt := 95) C dX10_odds_91 (by decide) ?_
                        refine z_put (fs' := mF ad (i) (uZ F9b 29 (1))) C (lt_A0 hN rfl) hay81 hg_y80 tyX10 tyX10_ok nmX10 rfl inA_X10 29 (by decide) q_1488 rfl rfl (by decide) rfl (Nat.le_of_ble_eq_true rfl) rfl dX10_odds_95 (fun gy213 egy214 => ?_)
                        have hgy215 := up_s egy214
                        refine z_iload C 6 dX10_odds_98 rfl ?_
                        refine z_aload_n C 0 dX10_odds_100 rfl ?_
                        refine z_get (v := .int (zI (1))) C (lt_A0 hN rfl) hay81 hgy215 rfl inA_X10 29 (by decide) q_1488 rfl (fv (F := (uZ F9b 29 (1))) (f := 29) (uZ_s _ _ _)) dX10_odds_101 ?_
                        refine z_if_eq (tgt := 111) C dX10_odds_104 (by decide) (by omega) (fun h => absurd h (by omega)) (fun _ => ?_)
                        refine z_iload_n C 3 dX10_odds_107 rfl ?_
                        refine z_goto (tgt := 115) C dX10_odds_108 (by decide) ?_
                        refine z_imul C dX10_odds_115 ?_
                        refine z_istore (lv' := [(6, .int (zI (so * z2))), (0, .ref (ad i)), (1, .int (zI ((n : Int)))), (2, .int (zI (z1))), (3, .int (zI (z2))), (4, .int (zI (al))), (5, .int (zI (wy))), (7, .int (zI (kk)))]) C dX10_odds_116 (by decide) rfl ?_
                        refine z_aload_n C 1 dX10_odds_118 rfl ?_
                        refine z_sipush (z := 350) C dX10_odds_119 (by decide) ?_
                        have hey217 : (uZ F9b 29 (1)) 13 = F9b 13 := (fn rfl (by decide))
                        have hey218 : (uZ F9b 29 (1)) 14 = F9b 14 := (fn rfl (by decide))
                        have hey219 : (uZ F9b 29 (1)) 25 = F9b 25 := (fn rfl (by decide))
                        have hey220 : (uZ F9b 29 (1)) 27 = F9b 27 := (fn rfl (by decide))
                        have hey221 : (uZ F9b 29 (1)) 28 = F9b 28 := (fn rfl (by decide))
                        have hey222 : (uZ F9b 29 (1)) 29 = 1 := (uZ_s _ _ _)
                        have hEvy216 : okEnv (uZ F9b 29 (1)) _ _ _ _ _ := ⟨by omega, hop, hai, hfa, hT, hT1⟩
                        have hgy223 := up_n egy214 ha1_y80 (ne_o (i := i) (c := 1) (d := 0) rfl)
                        have hgy225 := up_n egy214 ha3_y80 (ne_o (i := i) (c := 3) (d := 0) rfl)
                        have hgy226 := up_n egy214 ha4_y80 (ne_o (i := i) (c := 4) (d := 0) rfl)
                        have hgy227 := up_n egy214 ha5_y80 (ne_o (i := i) (c := 5) (d := 0) rfl)
                        have hgy228 := up_n egy214 ha6_y80 (ne_o (i := i) (c := 6) (d := 0) rfl)
                        have hgy229 := up_n egy214 ha7_y80 (ne_o (i := i) (c := 7) (d := 0) rfl)
                        have hgy230 := up_n egy214 ha14_y80 (ne_o (i := i) (c := 14) (d := 0) rfl)
                        have hgy231 := up_n egy214 ha15_y80 (ne_o (i := i) (c := 15) (d := 0) rfl)
                        refine z_cV (As := [.int (zI (350))]) (rest := []) (ci := 12) C (c_X10_hour l D A cs tt N ad _ i hN _ hgy215 _ hgy223 _ hgy225 _ hgy226 _ hgy227 _ hgy228 _ hgy229 _ hgy230 _ hgy231 350 (by omega) hEvy216 (x) (by omega) fWb (by omega) (by omega)) (lt_A0 hN rfl) hay81 hgy215 rfl rfl mv_yX10_hour q_1885 hd_yX10_hour (by decide) (Nat.le_of_ble_eq_true rfl) (by decide) dX10_odds_122 rfl (kV0 fun gvy224 hvy224 => ?_)
                        obtain ⟨⟨rvy224, hcvy224, hwvy224, htvy224, hyvy224⟩, ⟨t4vy224, h4vy224⟩, ⟨t5vy224, h5vy224⟩, hfvy224⟩ := hvy224
                        have hAy232 : okA rvy224 (x) := okA.tried hA_y80 (fun j a => hyvy224 j (by omega))
                        obtain ⟨⟨hsyy233, htyy233, hnyy233, hpyy233⟩, hlyy233⟩ := okA.at0 hAy232
                        simp only [Nat.zero_add] at hsyy233 hnyy233 hpyy233
                        have hmn : ∀ s, s < 4 → 0 ≤ rvy224 (6 + 86 * s) ∧ rvy224 (6 + 86 * s) ≤ 12 := fun s hs => (hsyy233 s hs).1
                        have h5 : 0 ≤ rvy224 5 ∧ rvy224 5 ≤ 6 := hpyy233
                        refine z_iinc (z := kk + 1) (lv' := [(7, .int (zI (kk + 1))), (6, .int (zI (so * z2))), (0, .ref (ad i)), (1, .int (zI ((n : Int)))), (2, .int (zI (z1))), (3, .int (zI (z2))), (4, .int (zI (al))), (5, .int (zI (wy)))]) (j := 7) C dX10_odds_125 rfl rfl (by decide) rfl ?_
                        refine z_goto (tgt := 72) C dX10_odds_128 (by decide) ?_
                        obtain ⟨xy234, exy235, hxy236⟩ := zI_of (zI (so * z2))
                        rw [exy235]
                        have hgy237 := (hfvy224 (i) (ne_o (i := i) (c := 0) (d := 1) rfl) (ne_o (i := i) (c := 0) (d := 14) rfl) (ne_o (i := i) (c := 0) (d := 15) rfl)).trans hgy215
                        have hFy238 : ∀ f, f ≠ 29 → (uZ F9b 29 (1)) f = F9b f := fun f n29 => ((uZ_n _ _ n29).trans rfl)
                        have hey239 : (uZ F9b 29 (1)) 13 = F9b 13 := (fn rfl (by decide))
                        have hey240 : (uZ F9b 29 (1)) 14 = F9b 14 := (fn rfl (by decide))
                        have hey241 : (uZ F9b 29 (1)) 15 = F9b 15 := (fn rfl (by decide))
                        have hey242 : (uZ F9b 29 (1)) 16 = F9b 16 := (fn rfl (by decide))
                        have hey243 : (uZ F9b 29 (1)) 17 = F9b 17 := (fn rfl (by decide))
                        have hey244 : (uZ F9b 29 (1)) 18 = F9b 18 := (fn rfl (by decide))
                        have hey245 : (uZ F9b 29 (1)) 19 = F9b 19 := (fn rfl (by decide))
                        have hey246 : (uZ F9b 29 (1)) 20 = F9b 20 := (fn rfl (by decide))
                        have hey247 : (uZ F9b 29 (1)) 21 = F9b 21 := (fn rfl (by decide))
                        have hey248 : (uZ F9b 29 (1)) 23 = F9b 23 := (fn rfl (by decide))
                        have hey249 : (uZ F9b 29 (1)) 25 = F9b 25 := (fn rfl (by decide))
                        have hey250 : (uZ F9b 29 (1)) 27 = F9b 27 := (fn rfl (by decide))
                        have hey251 : (uZ F9b 29 (1)) 28 = F9b 28 := (fn rfl (by decide))
                        have hey252 : (uZ F9b 29 (1)) 29 = 1 := (uZ_s _ _ _)
                        have hKy253 : okF (uZ F9b 29 (1)) := by unfold okF; omega
                        have hMy254 : okMr cs ad gvy224 i (x) (uZ F9b 29 (1)) rvy224 st op ai fa mu tb tp := okMr.upd fMb hgy237 hKy253 (fun f a => hFy238 f (by omega)) hcvy224 (hAy232.mono (by omega)) (fun j a b => by
                            by_cases e0 : j = i + 14
                            · exact Or.inr ⟨14, _, e0, lsP.l (by decide), by rw [e0]; exact h4vy224⟩
                            by_cases e1 : j = i + 15
                            · exact Or.inr ⟨15, _, e1, lsP.l (by decide), by rw [e1]; exact h5vy224⟩
                            exact Or.inl (by rw [hfvy224 _ (by omega) (by omega) (by omega)]; rw [egy214, va_up_ne _ _ (by omega)]))
                        have hFy255 : ∀ f, f ≠ 29 → (uZ F9b 29 (1)) f = F9b f := fun f n29 => ((uZ_n _ _ n29).trans rfl)
                        have hFFb : (∀ f, f ≠ 12 → f ≠ 29 → (uZ F9b 29 (1)) f = F f) := fun f n12 n29 => (hFy255 f n29).trans (fFb f n12 n29)
                        have hey256 : (uZ F9b 29 (1)) 13 = F9b 13 := (fn rfl (by decide))
                        have hey257 : (uZ F9b 29 (1)) 14 = F9b 14 := (fn rfl (by decide))
                        refine z_lv (lv' := [(0, .ref (ad i)), (1, .int (zI ((n : Int)))), (2, .int (zI (z1))), (3, .int (zI (z2))), (4, .int (zI (al))), (5, .int (zI (wy))), (6, .int (zI (xy234))), (7, .int (zI (kk + 1)))]) [2, 3, 4, 5, 6, 7, 1, 0] rfl ?_
                        exact ih_lp2 _ (by omega) (xy234) (kk + 1) _ _ gvy224 rfl hMy254 hFFb hwvy224 ((fun j a9 => (hyvy224 j (by omega)).trans (fRb j a9))) (fun j j1 => by rw [hfvy224 _ (by omega) (by omega) (by omega)]; rw [egy214, va_up_ne _ _ (by omega)]; exact f3 j j1) (by omega) (by omega) (by omega)
                have hgy258 := (hfvy78 (i) (ne_o (i := i) (c := 0) (d := 1) rfl)).trans hg_y33
                have hMy259 : okMr cs ad gvy78 i (x) F9 rvy78 st op ai fa mu tb tp := okMr.upd fM hgy258 fM.2.1 (fun f _ => rfl) hdvy78 (hAvy78.mono (by omega)) (fun j a b => by
                    exact Or.inl (by rw [hfvy78 _ (by omega)]))
                have hFFb : (∀ f, f ≠ 12 → f ≠ 29 → F9 f = F f) := fun f n12 n29 => fF f n12 n29
                have hey260 : F9 13 = F9 13 := rfl
                have hey261 : F9 14 = F9 14 := rfl
                refine z_lv (lv' := [(0, .ref (ad i)), (1, .int (zI ((n : Int)))), (2, .int (zI (z1))), (3, .int (zI (z2))), (4, .int (zI (al))), (5, .int (zI (wy))), (6, .int (zI (1))), (7, .int (zI (0)))]) [2, 3, 4, 5, 6, 7, 1, 0] rfl ?_
                exact lp2 _ (1) (0) _ _ gvy78 rfl hMy259 hFFb hWvy78 ((fun j a9 => (hyvy78 j a9).trans (fR j a9))) (fun j j1 => by rw [hfvy78 _ (by omega)]; exact f3 j j1) (by omega) (by omega) (by omega)
          have hgy262 := up_n egy25 ha1 (ne_o (i := i) (c := 1) (d := 0) rfl)
          have hgy263 := (hfvy27 (i + 1) (ne_o (i := i) (c := 1) (d := 0) rfl)).trans hgy262
          have hgy264 := (hfvy31 (i + 1) (ne_o (i := i) (c := 1) (d := 0) rfl)).trans hgy263
          have hFy265 : ∀ f, f ≠ 12 → Fvy31 f = F f := fun f n12 => ((hFvy31 f n12).trans ((hFvy27 f n12).trans ((uZ_n _ _ n12).trans rfl)))
          have hey266 : Fvy31 13 = F 13 := ((hFvy31 13 (by decide)).trans ((hFvy27 13 (by decide)).trans (fn rfl (by decide))))
          have hey267 : Fvy31 14 = F 14 := ((hFvy31 14 (by decide)).trans ((hFvy27 14 (by decide)).trans (fn rfl (by decide))))
          have hey268 : Fvy31 15 = F 15 := ((hFvy31 15 (by decide)).trans ((hFvy27 15 (by decide)).trans (fn rfl (by decide))))
          have hey269 : Fvy31 16 = F 16 := ((hFvy31 16 (by decide)).trans ((hFvy27 16 (by decide)).trans (fn rfl (by decide))))
          have hey270 : Fvy31 17 = F 17 := ((hFvy31 17 (by decide)).trans ((hFvy27 17 (by decide)).trans (fn rfl (by decide))))
          have hey271 : Fvy31 18 = F 18 := ((hFvy31 18 (by decide)).trans ((hFvy27 18 (by decide)).trans (fn rfl (by decide))))
          have hey272 : Fvy31 19 = F 19 := ((hFvy31 19 (by decide)).trans ((hFvy27 19 (by decide)).trans (fn rfl (by decide))))
          have hey273 : Fvy31 20 = F 20 := ((hFvy31 20 (by decide)).trans ((hFvy27 20 (by decide)).trans (fn rfl (by decide))))
          have hey274 : Fvy31 21 = F 21 := ((hFvy31 21 (by decide)).trans ((hFvy27 21 (by decide)).trans (fn rfl (by decide))))
          have hey275 : Fvy31 23 = F 23 := ((hFvy31 23 (by decide)).trans ((hFvy27 23 (by decide)).trans (fn rfl (by decide))))
          have hey276 : Fvy31 25 = F 25 := ((hFvy31 25 (by decide)).trans ((hFvy27 25 (by decide)).trans (fn rfl (by decide))))
          have hey277 : Fvy31 27 = F 27 := ((hFvy31 27 (by decide)).trans ((hFvy27 27 (by decide)).trans (fn rfl (by decide))))
          have hey278 : Fvy31 28 = F 28 := ((hFvy31 28 (by decide)).trans ((hFvy27 28 (by decide)).trans (fn rfl (by decide))))
          have hey279 : Fvy31 29 = F 29 := ((hFvy31 29 (by decide)).trans ((hFvy27 29 (by decide)).trans (fn rfl (by decide))))
          have hKy280 : okF Fvy31 := okF.mv hM.2.1 hey266 hey267 hey268 hey269 hey270 hey271 hey272 hey273 hey274 hey275 hey276 hey277 hey278 hey279
          have hMy281 : okMr cs ad gvy31 i (x) Fvy31 r st op ai fa mu tb tp := okMr.upd hM hcvy31 hKy280 (fun f a => hFy265 f (by omega)) hgy264 (hA.mono (by omega)) (fun j a b => by
              exact Or.inl (by rw [hfvy31 _ (by omega)]; rw [hfvy27 _ (by omega)]; rw [egy25, va_up_ne _ _ (by omega)]))
          have hFy282 : ∀ f, f ≠ 12 → Fvy31 f = F f := fun f n12 => ((hFvy31 f n12).trans ((hFvy27 f n12).trans ((uZ_n _ _ n12).trans rfl)))
          have hFF : (∀ f, f ≠ 12 → f ≠ 29 → Fvy31 f = F f) := fun f n12 n29 => (hFy282 f n12)
          have hey283 : Fvy31 13 = F 13 := ((hFvy31 13 (by decide)).trans ((hFvy27 13 (by decide)).trans (fn rfl (by decide))))
          have hey284 : Fvy31 14 = F 14 := ((hFvy31 14 (by decide)).trans ((hFvy27 14 (by decide)).trans (fn rfl (by decide))))
          have hey285 : Fvy31 29 = F 29 := ((hFvy31 29 (by decide)).trans ((hFvy27 29 (by decide)).trans (fn rfl (by decide))))
          refine z_lv (lv' := [(0, .ref (ad i)), (1, .int (zI ((n : Int)))), (2, .int (zI (z1))), (3, .int (zI (z2))), (4, .int (zI (0))), (5, .int (zI (0)))]) [2, 3, 4, 5, 1, 0] rfl ?_
          exact lp1 _ (0) (0) _ _ gvy31 rfl hMy281 hFF ((fun j _ => rfl)) (fun j j1 => by rw [hfvy31 _ (by omega)]; rw [hfvy27 _ (by omega)]; rw [egy25, va_up_ne _ _ (by omega)]) (by omega) (by omega) (by omega)
        · refine z_if_ne (tgt := 48) C dX10_odds_43 (by decide) (by omega) (fun h => absurd h (by omega)) (fun _ => ?_)
          refine z_iconst (z := 0) C dX10_odds_46 rfl ?_
          have hgy286 := up_n egy25 ha1 (ne_o (i := i) (c := 1) (d := 0) rfl)
          have hgy287 := (hfvy27 (i + 1) (ne_o (i := i) (c := 1) (d := 0) rfl)).trans hgy286
          have hgy288 := (hfvy31 (i + 1) (ne_o (i := i) (c := 1) (d := 0) rfl)).trans hgy287
          have hFy289 : ∀ f, f ≠ 12 → Fvy31 f = F f := fun f n12 => ((hFvy31 f n12).trans ((hFvy27 f n12).trans ((uZ_n _ _ n12).trans rfl)))
          have hey290 : Fvy31 13 = F 13 := ((hFvy31 13 (by decide)).trans ((hFvy27 13 (by decide)).trans (fn rfl (by decide))))
          have hey291 : Fvy31 14 = F 14 := ((hFvy31 14 (by decide)).trans ((hFvy27 14 (by decide)).trans (fn rfl (by decide))))
          have hey292 : Fvy31 15 = F 15 := ((hFvy31 15 (by decide)).trans ((hFvy27 15 (by decide)).trans (fn rfl (by decide))))
          have hey293 : Fvy31 16 = F 16 := ((hFvy31 16 (by decide)).trans ((hFvy27 16 (by decide)).trans (fn rfl (by decide))))
          have hey294 : Fvy31 17 = F 17 := ((hFvy31 17 (by decide)).trans ((hFvy27 17 (by decide)).trans (fn rfl (by decide))))
          have hey295 : Fvy31 18 = F 18 := ((hFvy31 18 (by decide)).trans ((hFvy27 18 (by decide)).trans (fn rfl (by decide))))
          have hey296 : Fvy31 19 = F 19 := ((hFvy31 19 (by decide)).trans ((hFvy27 19 (by decide)).trans (fn rfl (by decide))))
          have hey297 : Fvy31 20 = F 20 := ((hFvy31 20 (by decide)).trans ((hFvy27 20 (by decide)).trans (fn rfl (by decide))))
          have hey298 : Fvy31 21 = F 21 := ((hFvy31 21 (by decide)).trans ((hFvy27 21 (by decide)).trans (fn rfl (by decide))))
          have hey299 : Fvy31 23 = F 23 := ((hFvy31 23 (by decide)).trans ((hFvy27 23 (by decide)).trans (fn rfl (by decide))))
          have hey300 : Fvy31 25 = F 25 := ((hFvy31 25 (by decide)).trans ((hFvy27 25 (by decide)).trans (fn rfl (by decide))))
          have hey301 : Fvy31 27 = F 27 := ((hFvy31 27 (by decide)).trans ((hFvy27 27 (by decide)).trans (fn rfl (by decide))))
          have hey302 : Fvy31 28 = F 28 := ((hFvy31 28 (by decide)).trans ((hFvy27 28 (by decide)).trans (fn rfl (by decide))))
          have hey303 : Fvy31 29 = F 29 := ((hFvy31 29 (by decide)).trans ((hFvy27 29 (by decide)).trans (fn rfl (by decide))))
          have hKy304 : okF Fvy31 := okF.mv hM.2.1 hey290 hey291 hey292 hey293 hey294 hey295 hey296 hey297 hey298 hey299 hey300 hey301 hey302 hey303
          have hMy305 : okMr cs ad gvy31 i (x + 1) Fvy31 r st op ai fa mu tb tp := okMr.upd hM hcvy31 hKy304 (fun f a => hFy289 f (by omega)) hgy288 (hA.mono (by omega)) (fun j a b => by
              exact Or.inl (by rw [hfvy31 _ (by omega)]; rw [hfvy27 _ (by omega)]; rw [egy25, va_up_ne _ _ (by omega)]))
          have hkpy306 : Fvy31 13 = F 13 := ((hFvy31 13 (by decide)).trans ((hFvy27 13 (by decide)).trans (fn rfl (by decide))))
          have hkpy307 : Fvy31 14 = F 14 := ((hFvy31 14 (by decide)).trans ((hFvy27 14 (by decide)).trans (fn rfl (by decide))))
          have hkpy308 : Fvy31 15 = F 15 := ((hFvy31 15 (by decide)).trans ((hFvy27 15 (by decide)).trans (fn rfl (by decide))))
          have hkpy309 : Fvy31 16 = F 16 := ((hFvy31 16 (by decide)).trans ((hFvy27 16 (by decide)).trans (fn rfl (by decide))))
          have hkpy310 : Fvy31 17 = F 17 := ((hFvy31 17 (by decide)).trans ((hFvy27 17 (by decide)).trans (fn rfl (by decide))))
          have hkpy311 : Fvy31 18 = F 18 := ((hFvy31 18 (by decide)).trans ((hFvy27 18 (by decide)).trans (fn rfl (by decide))))
          have hkpy312 : Fvy31 19 = F 19 := ((hFvy31 19 (by decide)).trans ((hFvy27 19 (by decide)).trans (fn rfl (by decide))))
          have hkpy313 : Fvy31 20 = F 20 := ((hFvy31 20 (by decide)).trans ((hFvy27 20 (by decide)).trans (fn rfl (by decide))))
          have hkpy314 : Fvy31 21 = F 21 := ((hFvy31 21 (by decide)).trans ((hFvy27 21 (by decide)).trans (fn rfl (by decide))))
          have hkpy315 : Fvy31 23 = F 23 := ((hFvy31 23 (by decide)).trans ((hFvy27 23 (by decide)).trans (fn rfl (by decide))))
          have hkpy316 : Fvy31 24 = F 24 := ((hFvy31 24 (by decide)).trans ((hFvy27 24 (by decide)).trans (fn rfl (by decide))))
          have hkpy317 : Fvy31 25 = F 25 := ((hFvy31 25 (by decide)).trans ((hFvy27 25 (by decide)).trans (fn rfl (by decide))))
          have hkpy318 : Fvy31 26 = F 26 := ((hFvy31 26 (by decide)).trans ((hFvy27 26 (by decide)).trans (fn rfl (by decide))))
          have hkpy319 : Fvy31 27 = F 27 := ((hFvy31 27 (by decide)).trans ((hFvy27 27 (by decide)).trans (fn rfl (by decide))))
          have hkpy320 : Fvy31 29 = F 29 := ((hFvy31 29 (by decide)).trans ((hFvy27 29 (by decide)).trans (fn rfl (by decide))))
          exact z_iret C hr hlk dX10_odds_47 (by decide) (by decide) ⟨0, rfl, rfl, rfl, by omega, ⟨_, _, hMy305, ⟨hkpy306, hkpy307, hkpy308, hkpy309, hkpy310, hkpy311, hkpy312, hkpy313, hkpy314, hkpy315, hkpy316⟩, ⟨(hkpy317.trans hp25), (hkpy318.trans hp26), (hkpy319.trans hp27), (hkpy320.trans hp29)⟩, (fun j _ => rfl)⟩, fun j j1 => by rw [hfvy31 _ (by omega)]; rw [hfvy27 _ (by omega)]; rw [egy25, va_up_ne _ _ (by omega)]⟩
      · refine z_if_eq (tgt := 38) C dX10_odds_31 (by decide) (by omega) (fun _ => ?_) (fun h => absurd h (by omega))
        refine z_iconst (z := 0) C dX10_odds_38 rfl ?_
        refine z_iconst (z := 2) C dX10_odds_39 rfl ?_
        have hey322 : Fvy27 12 = Fvy27 12 := rfl
        refine z_cV (As := [.int (zI (0)), .int (zI (2))]) (rest := []) (ci := 12) C (c_X10_right l D A cs tt N ad _ i hN _ hcvy27 (by omega) (0) (by omega) (2) (by omega)) (lt_A0 hN rfl) hay1 hcvy27 rfl rfl mv_yX10_right q_1648 hd_yX10_right (by decide) (Nat.le_of_ble_eq_true rfl) (by decide) dX10_odds_40 rfl (kI0 fun vy321 gvy321 hvy321 => ?_)
        obtain ⟨hrvy321, ⟨Fvy321, hcvy321, htvy321, hFvy321⟩, hfvy321⟩ := hvy321
        obtain rfl : vy321 = 0 := by omega
        refine z_if_ne (tgt := 48) C dX10_odds_43 (by decide) (by omega) (fun h => absurd h (by omega)) (fun _ => ?_)
        refine z_iconst (z := 0) C dX10_odds_46 rfl ?_
        have hgy323 := up_n egy25 ha1 (ne_o (i := i) (c := 1) (d := 0) rfl)
        have hgy324 := (hfvy27 (i + 1) (ne_o (i := i) (c := 1) (d := 0) rfl)).trans hgy323
        have hgy325 := (hfvy321 (i + 1) (ne_o (i := i) (c := 1) (d := 0) rfl)).trans hgy324
        have hFy326 : ∀ f, f ≠ 12 → Fvy321 f = F f := fun f n12 => ((hFvy321 f n12).trans ((hFvy27 f n12).trans ((uZ_n _ _ n12).trans rfl)))
        have hey327 : Fvy321 13 = F 13 := ((hFvy321 13 (by decide)).trans ((hFvy27 13 (by decide)).trans (fn rfl (by decide))))
        have hey328 : Fvy321 14 = F 14 := ((hFvy321 14 (by decide)).trans ((hFvy27 14 (by decide)).trans (fn rfl (by decide))))
        have hey329 : Fvy321 15 = F 15 := ((hFvy321 15 (by decide)).trans ((hFvy27 15 (by decide)).trans (fn rfl (by decide))))
        have hey330 : Fvy321 16 = F 16 := ((hFvy321 16 (by decide)).trans ((hFvy27 16 (by decide)).trans (fn rfl (by decide))))
        have hey331 : Fvy321 17 = F 17 := ((hFvy321 17 (by decide)).trans ((hFvy27 17 (by decide)).trans (fn rfl (by decide))))
        have hey332 : Fvy321 18 = F 18 := ((hFvy321 18 (by decide)).trans ((hFvy27 18 (by decide)).trans (fn rfl (by decide))))
        have hey333 : Fvy321 19 = F 19 := ((hFvy321 19 (by decide)).trans ((hFvy27 19 (by decide)).trans (fn rfl (by decide))))
        have hey334 : Fvy321 20 = F 20 := ((hFvy321 20 (by decide)).trans ((hFvy27 20 (by decide)).trans (fn rfl (by decide))))
        have hey335 : Fvy321 21 = F 21 := ((hFvy321 21 (by decide)).trans ((hFvy27 21 (by decide)).trans (fn rfl (by decide))))
        have hey336 : Fvy321 23 = F 23 := ((hFvy321 23 (by decide)).trans ((hFvy27 23 (by decide)).trans (fn rfl (by decide))))
        have hey337 : Fvy321 25 = F 25 := ((hFvy321 25 (by decide)).trans ((hFvy27 25 (by decide)).trans (fn rfl (by decide))))
        have hey338 : Fvy321 27 = F 27 := ((hFvy321 27 (by decide)).trans ((hFvy27 27 (by decide)).trans (fn rfl (by decide))))
        have hey339 : Fvy321 28 = F 28 := ((hFvy321 28 (by decide)).trans ((hFvy27 28 (by decide)).trans (fn rfl (by decide))))
        have hey340 : Fvy321 29 = F 29 := ((hFvy321 29 (by decide)).trans ((hFvy27 29 (by decide)).trans (fn rfl (by decide))))
        have hKy341 : okF Fvy321 := okF.mv hM.2.1 hey327 hey328 hey329 hey330 hey331 hey332 hey333 hey334 hey335 hey336 hey337 hey338 hey339 hey340
        have hMy342 : okMr cs ad gvy321 i (x + 1) Fvy321 r st op ai fa mu tb tp := okMr.upd hM hcvy321 hKy341 (fun f a => hFy326 f (by omega)) hgy325 (hA.mono (by omega)) (fun j a b => by
            exact Or.inl (by rw [hfvy321 _ (by omega)]; rw [hfvy27 _ (by omega)]; rw [egy25, va_up_ne _ _ (by omega)]))
        have hkpy343 : Fvy321 13 = F 13 := ((hFvy321 13 (by decide)).trans ((hFvy27 13 (by decide)).trans (fn rfl (by decide))))
        have hkpy344 : Fvy321 14 = F 14 := ((hFvy321 14 (by decide)).trans ((hFvy27 14 (by decide)).trans (fn rfl (by decide))))
        have hkpy345 : Fvy321 15 = F 15 := ((hFvy321 15 (by decide)).trans ((hFvy27 15 (by decide)).trans (fn rfl (by decide))))
        have hkpy346 : Fvy321 16 = F 16 := ((hFvy321 16 (by decide)).trans ((hFvy27 16 (by decide)).trans (fn rfl (by decide))))
        have hkpy347 : Fvy321 17 = F 17 := ((hFvy321 17 (by decide)).trans ((hFvy27 17 (by decide)).trans (fn rfl (by decide))))
        have hkpy348 : Fvy321 18 = F 18 := ((hFvy321 18 (by decide)).trans ((hFvy27 18 (by decide)).trans (fn rfl (by decide))))
        have hkpy349 : Fvy321 19 = F 19 := ((hFvy321 19 (by decide)).trans ((hFvy27 19 (by decide)).trans (fn rfl (by decide))))
        have hkpy350 : Fvy321 20 = F 20 := ((hFvy321 20 (by decide)).trans ((hFvy27 20 (by decide)).trans (fn rfl (by decide))))
        have hkpy351 : Fvy321 21 = F 21 := ((hFvy321 21 (by decide)).trans ((hFvy27 21 (by decide)).trans (fn rfl (by decide))))
        have hkpy352 : Fvy321 23 = F 23 := ((hFvy321 23 (by decide)).trans ((hFvy27 23 (by decide)).trans (fn rfl (by decide))))
        have hkpy353 : Fvy321 24 = F 24 := ((hFvy321 24 (by decide)).trans ((hFvy27 24 (by decide)).trans (fn rfl (by decide))))
        have hkpy354 : Fvy321 25 = F 25 := ((hFvy321 25 (by decide)).trans ((hFvy27 25 (by decide)).trans (fn rfl (by decide))))
        have hkpy355 : Fvy321 26 = F 26 := ((hFvy321 26 (by decide)).trans ((hFvy27 26 (by decide)).trans (fn rfl (by decide))))
        have hkpy356 : Fvy321 27 = F 27 := ((hFvy321 27 (by decide)).trans ((hFvy27 27 (by decide)).trans (fn rfl (by decide))))
        have hkpy357 : Fvy321 29 = F 29 := ((hFvy321 29 (by decide)).trans ((hFvy27 29 (by decide)).trans (fn rfl (by decide))))
        exact z_iret C hr hlk dX10_odds_47 (by decide) (by decide) ⟨0, rfl, rfl, rfl, by omega, ⟨_, _, hMy342, ⟨hkpy343, hkpy344, hkpy345, hkpy346, hkpy347, hkpy348, hkpy349, hkpy350, hkpy351, hkpy352, hkpy353⟩, ⟨(hkpy354.trans hp25), (hkpy355.trans hp26), (hkpy356.trans hp27), (hkpy357.trans hp29)⟩, (fun j _ => rfl)⟩, fun j j1 => by rw [hfvy321 _ (by omega)]; rw [hfvy27 _ (by omega)]; rw [egy25, va_up_ne _ _ (by omega)]⟩
    · refine z_if_eq (tgt := 38) C dX10_odds_21 (by decide) (by omega) (fun _ => ?_) (fun h => absurd h (by omega))
      refine z_iconst (z := 0) C dX10_odds_38 rfl ?_
      refine z_iconst (z := 2) C dX10_odds_39 rfl ?_
      have hey359 : Fvy27 12 = Fvy27 12 := rfl
      refine z_cV (As := [.int (zI (0)), .int (zI (2))]) (rest := []) (ci := 12) C (c_X10_right l D A cs tt N ad _ i hN _ hcvy27 (by omega) (0) (by omega) (2) (by omega)) (lt_A0 hN rfl) hay1 hcvy27 rfl rfl mv_yX10_right q_1648 hd_yX10_right (by decide) (Nat.le_of_ble_eq_true rfl) (by decide) dX10_odds_40 rfl (kI0 fun vy358 gvy358 hvy358 => ?_)
      obtain ⟨hrvy358, ⟨Fvy358, hcvy358, htvy358, hFvy358⟩, hfvy358⟩ := hvy358
      obtain rfl : vy358 = 0 := by omega
      refine z_if_ne (tgt := 48) C dX10_odds_43 (by decide) (by omega) (fun h => absurd h (by omega)) (fun _ => ?_)
      refine z_iconst (z := 0) C dX10_odds_46 rfl ?_
      have hgy360 := up_n egy25 ha1 (ne_o (i := i) (c := 1) (d := 0) rfl)
      have hgy361 := (hfvy27 (i + 1) (ne_o (i := i) (c := 1) (d := 0) rfl)).trans hgy360
      have hgy362 := (hfvy358 (i + 1) (ne_o (i := i) (c := 1) (d := 0) rfl)).trans hgy361
      have hFy363 : ∀ f, f ≠ 12 → Fvy358 f = F f := fun f n12 => ((hFvy358 f n12).trans ((hFvy27 f n12).trans ((uZ_n _ _ n12).trans rfl)))
      have hey364 : Fvy358 13 = F 13 := ((hFvy358 13 (by decide)).trans ((hFvy27 13 (by decide)).trans (fn rfl (by decide))))
      have hey365 : Fvy358 14 = F 14 := ((hFvy358 14 (by decide)).trans ((hFvy27 14 (by decide)).trans (fn rfl (by decide))))
      have hey366 : Fvy358 15 = F 15 := ((hFvy358 15 (by decide)).trans ((hFvy27 15 (by decide)).trans (fn rfl (by decide))))
      have hey367 : Fvy358 16 = F 16 := ((hFvy358 16 (by decide)).trans ((hFvy27 16 (by decide)).trans (fn rfl (by decide))))
      have hey368 : Fvy358 17 = F 17 := ((hFvy358 17 (by decide)).trans ((hFvy27 17 (by decide)).trans (fn rfl (by decide))))
      have hey369 : Fvy358 18 = F 18 := ((hFvy358 18 (by decide)).trans ((hFvy27 18 (by decide)).trans (fn rfl (by decide))))
      have hey370 : Fvy358 19 = F 19 := ((hFvy358 19 (by decide)).trans ((hFvy27 19 (by decide)).trans (fn rfl (by decide))))
      have hey371 : Fvy358 20 = F 20 := ((hFvy358 20 (by decide)).trans ((hFvy27 20 (by decide)).trans (fn rfl (by decide))))
      have hey372 : Fvy358 21 = F 21 := ((hFvy358 21 (by decide)).trans ((hFvy27 21 (by decide)).trans (fn rfl (by decide))))
      have hey373 : Fvy358 23 = F 23 := ((hFvy358 23 (by decide)).trans ((hFvy27 23 (by decide)).trans (fn rfl (by decide))))
      have hey374 : Fvy358 25 = F 25 := ((hFvy358 25 (by decide)).trans ((hFvy27 25 (by decide)).trans (fn rfl (by decide))))
      have hey375 : Fvy358 27 = F 27 := ((hFvy358 27 (by decide)).trans ((hFvy27 27 (by decide)).trans (fn rfl (by decide))))
      have hey376 : Fvy358 28 = F 28 := ((hFvy358 28 (by decide)).trans ((hFvy27 28 (by decide)).trans (fn rfl (by decide))))
      have hey377 : Fvy358 29 = F 29 := ((hFvy358 29 (by decide)).trans ((hFvy27 29 (by decide)).trans (fn rfl (by decide))))
      have hKy378 : okF Fvy358 := okF.mv hM.2.1 hey364 hey365 hey366 hey367 hey368 hey369 hey370 hey371 hey372 hey373 hey374 hey375 hey376 hey377
      have hMy379 : okMr cs ad gvy358 i (x + 1) Fvy358 r st op ai fa mu tb tp := okMr.upd hM hcvy358 hKy378 (fun f a => hFy363 f (by omega)) hgy362 (hA.mono (by omega)) (fun j a b => by
          exact Or.inl (by rw [hfvy358 _ (by omega)]; rw [hfvy27 _ (by omega)]; rw [egy25, va_up_ne _ _ (by omega)]))
      have hkpy380 : Fvy358 13 = F 13 := ((hFvy358 13 (by decide)).trans ((hFvy27 13 (by decide)).trans (fn rfl (by decide))))
      have hkpy381 : Fvy358 14 = F 14 := ((hFvy358 14 (by decide)).trans ((hFvy27 14 (by decide)).trans (fn rfl (by decide))))
      have hkpy382 : Fvy358 15 = F 15 := ((hFvy358 15 (by decide)).trans ((hFvy27 15 (by decide)).trans (fn rfl (by decide))))
      have hkpy383 : Fvy358 16 = F 16 := ((hFvy358 16 (by decide)).trans ((hFvy27 16 (by decide)).trans (fn rfl (by decide))))
      have hkpy384 : Fvy358 17 = F 17 := ((hFvy358 17 (by decide)).trans ((hFvy27 17 (by decide)).trans (fn rfl (by decide))))
      have hkpy385 : Fvy358 18 = F 18 := ((hFvy358 18 (by decide)).trans ((hFvy27 18 (by decide)).trans (fn rfl (by decide))))
      have hkpy386 : Fvy358 19 = F 19 := ((hFvy358 19 (by decide)).trans ((hFvy27 19 (by decide)).trans (fn rfl (by decide))))
      have hkpy387 : Fvy358 20 = F 20 := ((hFvy358 20 (by decide)).trans ((hFvy27 20 (by decide)).trans (fn rfl (by decide))))
      have hkpy388 : Fvy358 21 = F 21 := ((hFvy358 21 (by decide)).trans ((hFvy27 21 (by decide)).trans (fn rfl (by decide))))
      have hkpy389 : Fvy358 23 = F 23 := ((hFvy358 23 (by decide)).trans ((hFvy27 23 (by decide)).trans (fn rfl (by decide))))
      have hkpy390 : Fvy358 24 = F 24 := ((hFvy358 24 (by decide)).trans ((hFvy27 24 (by decide)).trans (fn rfl (by decide))))
      have hkpy391 : Fvy358 25 = F 25 := ((hFvy358 25 (by decide)).trans ((hFvy27 25 (by decide)).trans (fn rfl (by decide))))
      have hkpy392 : Fvy358 26 = F 26 := ((hFvy358 26 (by decide)).trans ((hFvy27 26 (by decide)).trans (fn rfl (by decide))))
      have hkpy393 : Fvy358 27 = F 27 := ((hFvy358 27 (by decide)).trans ((hFvy27 27 (by decide)).trans (fn rfl (by decide))))
      have hkpy394 : Fvy358 29 = F 29 := ((hFvy358 29 (by decide)).trans ((hFvy27 29 (by decide)).trans (fn rfl (by decide))))
      exact z_iret C hr hlk dX10_odds_47 (by decide) (by decide) ⟨0, rfl, rfl, rfl, by omega, ⟨_, _, hMy379, ⟨hkpy380, hkpy381, hkpy382, hkpy383, hkpy384, hkpy385, hkpy386, hkpy387, hkpy388, hkpy389, hkpy390⟩, ⟨(hkpy391.trans hp25), (hkpy392.trans hp26), (hkpy393.trans hp27), (hkpy394.trans hp29)⟩, (fun j _ => rfl)⟩, fun j j1 => by rw [hfvy358 _ (by omega)]; rw [hfvy27 _ (by omega)]; rw [egy25, va_up_ne _ _ (by omega)]⟩
  · refine z_if_eq (tgt := 46) C dX10_odds_10 (by decide) (by omega) (fun _ => ?_) (fun h => absurd h (by omega))
    refine z_iconst (z := 0) C dX10_odds_46 rfl ?_
    have hgy395 := up_n egy25 ha1 (ne_o (i := i) (c := 1) (d := 0) rfl)
    have hgy396 := (hfvy27 (i + 1) (ne_o (i := i) (c := 1) (d := 0) rfl)).trans hgy395
    have hFy397 : ∀ f, f ≠ 12 → Fvy27 f = F f := fun f n12 => ((hFvy27 f n12).trans ((uZ_n _ _ n12).trans rfl))
    have hey398 : Fvy27 13 = F 13 := ((hFvy27 13 (by decide)).trans (fn rfl (by decide)))
    have hey399 : Fvy27 14 = F 14 := ((hFvy27 14 (by decide)).trans (fn rfl (by decide)))
    have hey400 : Fvy27 15 = F 15 := ((hFvy27 15 (by decide)).trans (fn rfl (by decide)))
    have hey401 : Fvy27 16 = F 16 := ((hFvy27 16 (by decide)).trans (fn rfl (by decide)))
    have hey402 : Fvy27 17 = F 17 := ((hFvy27 17 (by decide)).trans (fn rfl (by decide)))
    have hey403 : Fvy27 18 = F 18 := ((hFvy27 18 (by decide)).trans (fn rfl (by decide)))
    have hey404 : Fvy27 19 = F 19 := ((hFvy27 19 (by decide)).trans (fn rfl (by decide)))
    have hey405 : Fvy27 20 = F 20 := ((hFvy27 20 (by decide)).trans (fn rfl (by decide)))
    have hey406 : Fvy27 21 = F 21 := ((hFvy27 21 (by decide)).trans (fn rfl (by decide)))
    have hey407 : Fvy27 23 = F 23 := ((hFvy27 23 (by decide)).trans (fn rfl (by decide)))
    have hey408 : Fvy27 25 = F 25 := ((hFvy27 25 (by decide)).trans (fn rfl (by decide)))
    have hey409 : Fvy27 27 = F 27 := ((hFvy27 27 (by decide)).trans (fn rfl (by decide)))
    have hey410 : Fvy27 28 = F 28 := ((hFvy27 28 (by decide)).trans (fn rfl (by decide)))
    have hey411 : Fvy27 29 = F 29 := ((hFvy27 29 (by decide)).trans (fn rfl (by decide)))
    have hKy412 : okF Fvy27 := okF.mv hM.2.1 hey398 hey399 hey400 hey401 hey402 hey403 hey404 hey405 hey406 hey407 hey408 hey409 hey410 hey411
    have hMy413 : okMr cs ad gvy27 i (x + 1) Fvy27 r st op ai fa mu tb tp := okMr.upd hM hcvy27 hKy412 (fun f a => hFy397 f (by omega)) hgy396 (hA.mono (by omega)) (fun j a b => by
        exact Or.inl (by rw [hfvy27 _ (by omega)]; rw [egy25, va_up_ne _ _ (by omega)]))
    have hkpy414 : Fvy27 13 = F 13 := ((hFvy27 13 (by decide)).trans (fn rfl (by decide)))
    have hkpy415 : Fvy27 14 = F 14 := ((hFvy27 14 (by decide)).trans (fn rfl (by decide)))
    have hkpy416 : Fvy27 15 = F 15 := ((hFvy27 15 (by decide)).trans (fn rfl (by decide)))
    have hkpy417 : Fvy27 16 = F 16 := ((hFvy27 16 (by decide)).trans (fn rfl (by decide)))
    have hkpy418 : Fvy27 17 = F 17 := ((hFvy27 17 (by decide)).trans (fn rfl (by decide)))
    have hkpy419 : Fvy27 18 = F 18 := ((hFvy27 18 (by decide)).trans (fn rfl (by decide)))
    have hkpy420 : Fvy27 19 = F 19 := ((hFvy27 19 (by decide)).trans (fn rfl (by decide)))
    have hkpy421 : Fvy27 20 = F 20 := ((hFvy27 20 (by decide)).trans (fn rfl (by decide)))
    have hkpy422 : Fvy27 21 = F 21 := ((hFvy27 21 (by decide)).trans (fn rfl (by decide)))
    have hkpy423 : Fvy27 23 = F 23 := ((hFvy27 23 (by decide)).trans (fn rfl (by decide)))
    have hkpy424 : Fvy27 24 = F 24 := ((hFvy27 24 (by decide)).trans (fn rfl (by decide)))
    have hkpy425 : Fvy27 25 = F 25 := ((hFvy27 25 (by decide)).trans (fn rfl (by decide)))
    have hkpy426 : Fvy27 26 = F 26 := ((hFvy27 26 (by decide)).trans (fn rfl (by decide)))
    have hkpy427 : Fvy27 27 = F 27 := ((hFvy27 27 (by decide)).trans (fn rfl (by decide)))
    have hkpy428 : Fvy27 29 = F 29 := ((hFvy27 29 (by decide)).trans (fn rfl (by decide)))
    exact z_iret C hr hlk dX10_odds_47 (by decide) (by decide) ⟨0, rfl, rfl, rfl, by omega, ⟨_, _, hMy413, ⟨hkpy414, hkpy415, hkpy416, hkpy417, hkpy418, hkpy419, hkpy420, hkpy421, hkpy422, hkpy423, hkpy424⟩, ⟨(hkpy425.trans hp25), (hkpy426.trans hp26), (hkpy427.trans hp27), (hkpy428.trans hp29)⟩, (fun j _ => rfl)⟩, fun j j1 => by rw [hfvy27 _ (by omega)]; rw [egy25, va_up_ne _ _ (by omega)]⟩

set_option maxRecDepth 100000 in
set_option maxHeartbeats 4000000 in
theorem c_X10_odds_b (l : Launch) (D : va_G) (A : Nat → Prop) (cs : Nat → ClassId) (tt : Nat) (N : Nat) (ad : Nat → Nat) (g : Nat → va_E) (i : Nat) (hN : i + 30 ≤ N) (x : Int) (hx : 0 ≤ x ∧ x ≤ 512) (F r : Nat → Int) {st op ai fa mu tb tp : Nat → Int} (hM : okMr cs ad g i x F r st op ai fa mu tb tp) (hPl : F 25 = 0 ∧ F 26 = -1 ∧ F 27 = -1 ∧ F 29 = 0) (z : Int) (hz : -2147483648 ≤ z ∧ z ≤ 2147483647) (hzo : z < 0 ∨ 3 < z) (z1 : Int) (hz1 : -2147483648 ≤ z1 ∧ z1 ≤ 2147483647) (z2 : Int) (hz2 : -2147483648 ≤ z2 ∧ z2 ≤ 2147483647) : zM l yX10_odds cX10_odds 8 (some .int) ({ frames := 11, cells := 0, slots := 0, locals := 660 } : Room) D A cs tt N ad g [.ref (ad i), .int (zI (z)), .int (zI (z1)), .int (zI (z2))] (rI0 N ad fun q g' => (-2147483648 ≤ q ∧ q ≤ 2147483647) ∧ (∃ F' r' : Nat → Int, okMr cs ad g' i (x + 1) F' r' st op ai fa mu tb tp ∧ (F' 13 = F 13 ∧ F' 14 = F 14 ∧ F' 15 = F 15 ∧ F' 16 = F 16 ∧ F' 17 = F 17 ∧ F' 18 = F 18 ∧ F' 19 = F 19 ∧ F' 20 = F 20 ∧ F' 21 = F 21 ∧ F' 23 = F 23 ∧ F' 24 = F 24) ∧ (F' 25 = 0 ∧ F' 26 = -1 ∧ F' 27 = -1 ∧ F' 29 = 0) ∧ (∀ j, j < 350 ∨ 700 ≤ j → r' j = r j)) ∧ ∀ j, j < i ∨ i + 30 ≤ j ∨ (i + 8 ≤ j ∧ j ≤ i + 12) → g' j = g j) := by
  obtain ⟨hg, ⟨⟨e13, e14, e25, e27, e29⟩, k15, k16, k17, k18, k19, k20, k23, k21⟩, hRD, hTx, hA, ns, nh, nd, rf, pi, te, ki, li, ok1, ok2, fo, dd, dps, ⟨ha1, ha2, ha3, ha4, ha5, ha6, ha7, ha8, ha9, ha10, ha11, ha12, ha13, ha14, ha15, ha24, ha25, ha26, ha27, ha28, ha29⟩, hEv, hPt, hns, htp⟩ := id hM
  obtain ⟨-, hop, hai, hfa, hT, hT1⟩ := id hEv
  have hay1 : zAt ad (i) (ad i) := rfl
  have hay2 : zAt ad (i + 1) (ad (i + 1)) := rfl
  have hay3 : zAt ad (i + 2) (ad (i + 2)) := rfl
  have hay4 : zAt ad (i + 3) (ad (i + 3)) := rfl
  have hay5 : zAt ad (i + 4) (ad (i + 4)) := rfl
  have hay6 : zAt ad (i + 5) (ad (i + 5)) := rfl
  have hay7 : zAt ad (i + 6) (ad (i + 6)) := rfl
  have hay8 : zAt ad (i + 7) (ad (i + 7)) := rfl
  have hay9 : zAt ad (i + 8) (ad (i + 8)) := rfl
  have hay10 : zAt ad (i + 9) (ad (i + 9)) := rfl
  have hay11 : zAt ad (i + 10) (ad (i + 10)) := rfl
  have hay12 : zAt ad (i + 11) (ad (i + 11)) := rfl
  have hay13 : zAt ad (i + 12) (ad (i + 12)) := rfl
  have hay14 : zAt ad (i + 13) (ad (i + 13)) := rfl
  have hay15 : zAt ad (i + 14) (ad (i + 14)) := rfl
  have hay16 : zAt ad (i + 15) (ad (i + 15)) := rfl
  have hay17 : zAt ad (i + 24) (ad (i + 24)) := rfl
  have hay18 : zAt ad (i + 25) (ad (i + 25)) := rfl
  have hay19 : zAt ad (i + 26) (ad (i + 26)) := rfl
  have hay20 : zAt ad (i + 27) (ad (i + 27)) := rfl
  have hay21 : zAt ad (i + 28) (ad (i + 28)) := rfl
  have hay22 : zAt ad (i + 29) (ad (i + 29)) := rfl
  obtain ⟨⟨hsyy23, htyy23, hnyy23, hpyy23⟩, hlyy23⟩ := okA.at0 hA
  simp only [Nat.zero_add] at hsyy23 hnyy23 hpyy23
  have hmn : ∀ s, s < 4 → 0 ≤ r (6 + 86 * s) ∧ r (6 + 86 * s) ≤ 12 := fun s hs => (hsyy23 s hs).1
  have h5 : 0 ≤ r 5 ∧ r 5 ≤ 6 := hpyy23
  obtain ⟨hp25, hp26, hp27, hp29⟩ := id hPl
  refine z_of (by decide) (Nat.le_of_ble_eq_true rfl) ?_
  intro pZ eZ sZ mZ below meth cZ C hr hlk hnm
  refine z_lv (lv' := [(0, .ref (ad i)), (1, .int (zI (z))), (2, .int (zI (z1))), (3, .int (zI (z2)))]) [0, 1, 2, 3] rfl ?_
  refine z_aload_n C 0 dX10_odds_0 rfl ?_
  refine z_iconst (z := 0) C dX10_odds_1 rfl ?_
  refine z_put (fs' := mF ad (i) (uZ F 12 (0))) C (lt_A0 hN rfl) hay1 hg tyX10 tyX10_ok nmX10 rfl inA_X10 12 (by decide) q_1471 rfl rfl rfl rfl (Nat.le_of_ble_eq_true rfl) rfl dX10_odds_2 (fun gy24 egy25 => ?_)
  have hgy26 := up_s egy25
  refine z_aload_n C 0 dX10_odds_5 rfl ?_
  refine z_iload_n C 1 dX10_odds_6 rfl ?_
  have h13vy27 : (uZ F 12 (0)) 13 = F 13 := (fn rfl (by decide))
  have hey28 : (uZ F 12 (0)) 12 = 0 := (uZ_s _ _ _)
  refine z_cV (As := [.int (zI (z))]) (rest := []) (ci := 12) C (c_X10_isSlope l D A cs tt N ad _ i hN _ hgy26 (by omega) (by omega) (z) (by omega)) (lt_A0 hN rfl) hay1 hgy26 rfl rfl mv_yX10_isSlope q_1803 hd_yX10_isSlope (by decide) (Nat.le_of_ble_eq_true rfl) (by decide) dX10_odds_7 rfl (kI0 fun vy27 gvy27 hvy27 => ?_)
  rw [h13vy27] at hvy27
  obtain ⟨hrvy27, ⟨Fvy27, hcvy27, htvy27, hFvy27⟩, hfvy27⟩ := hvy27
  obtain rfl : vy27 = 0 := by omega
  refine z_if_eq (tgt := 46) C dX10_odds_10 (by decide) (by omega) (fun _ => ?_) (fun h => absurd h (by omega))
  refine z_iconst (z := 0) C dX10_odds_46 rfl ?_
  have hgy29 := up_n egy25 ha1 (ne_o (i := i) (c := 1) (d := 0) rfl)
  have hgy30 := (hfvy27 (i + 1) (ne_o (i := i) (c := 1) (d := 0) rfl)).trans hgy29
  have hFy31 : ∀ f, f ≠ 12 → Fvy27 f = F f := fun f n12 => ((hFvy27 f n12).trans ((uZ_n _ _ n12).trans rfl))
  have hey32 : Fvy27 13 = F 13 := ((hFvy27 13 (by decide)).trans (fn rfl (by decide)))
  have hey33 : Fvy27 14 = F 14 := ((hFvy27 14 (by decide)).trans (fn rfl (by decide)))
  have hey34 : Fvy27 15 = F 15 := ((hFvy27 15 (by decide)).trans (fn rfl (by decide)))
  have hey35 : Fvy27 16 = F 16 := ((hFvy27 16 (by decide)).trans (fn rfl (by decide)))
  have hey36 : Fvy27 17 = F 17 := ((hFvy27 17 (by decide)).trans (fn rfl (by decide)))
  have hey37 : Fvy27 18 = F 18 := ((hFvy27 18 (by decide)).trans (fn rfl (by decide)))
  have hey38 : Fvy27 19 = F 19 := ((hFvy27 19 (by decide)).trans (fn rfl (by decide)))
  have hey39 : Fvy27 20 = F 20 := ((hFvy27 20 (by decide)).trans (fn rfl (by decide)))
  have hey40 : Fvy27 21 = F 21 := ((hFvy27 21 (by decide)).trans (fn rfl (by decide)))
  have hey41 : Fvy27 23 = F 23 := ((hFvy27 23 (by decide)).trans (fn rfl (by decide)))
  have hey42 : Fvy27 25 = F 25 := ((hFvy27 25 (by decide)).trans (fn rfl (by decide)))
  have hey43 : Fvy27 27 = F 27 := ((hFvy27 27 (by decide)).trans (fn rfl (by decide)))
  have hey44 : Fvy27 28 = F 28 := ((hFvy27 28 (by decide)).trans (fn rfl (by decide)))
  have hey45 : Fvy27 29 = F 29 := ((hFvy27 29 (by decide)).trans (fn rfl (by decide)))
  have hKy46 : okF Fvy27 := okF.mv hM.2.1 hey32 hey33 hey34 hey35 hey36 hey37 hey38 hey39 hey40 hey41 hey42 hey43 hey44 hey45
  have hMy47 : okMr cs ad gvy27 i (x + 1) Fvy27 r st op ai fa mu tb tp := okMr.upd hM hcvy27 hKy46 (fun f a => hFy31 f (by omega)) hgy30 (hA.mono (by omega)) (fun j a b => by
      exact Or.inl (by rw [hfvy27 _ (by omega)]; rw [egy25, va_up_ne _ _ (by omega)]))
  have hkpy48 : Fvy27 13 = F 13 := ((hFvy27 13 (by decide)).trans (fn rfl (by decide)))
  have hkpy49 : Fvy27 14 = F 14 := ((hFvy27 14 (by decide)).trans (fn rfl (by decide)))
  have hkpy50 : Fvy27 15 = F 15 := ((hFvy27 15 (by decide)).trans (fn rfl (by decide)))
  have hkpy51 : Fvy27 16 = F 16 := ((hFvy27 16 (by decide)).trans (fn rfl (by decide)))
  have hkpy52 : Fvy27 17 = F 17 := ((hFvy27 17 (by decide)).trans (fn rfl (by decide)))
  have hkpy53 : Fvy27 18 = F 18 := ((hFvy27 18 (by decide)).trans (fn rfl (by decide)))
  have hkpy54 : Fvy27 19 = F 19 := ((hFvy27 19 (by decide)).trans (fn rfl (by decide)))
  have hkpy55 : Fvy27 20 = F 20 := ((hFvy27 20 (by decide)).trans (fn rfl (by decide)))
  have hkpy56 : Fvy27 21 = F 21 := ((hFvy27 21 (by decide)).trans (fn rfl (by decide)))
  have hkpy57 : Fvy27 23 = F 23 := ((hFvy27 23 (by decide)).trans (fn rfl (by decide)))
  have hkpy58 : Fvy27 24 = F 24 := ((hFvy27 24 (by decide)).trans (fn rfl (by decide)))
  have hkpy59 : Fvy27 25 = F 25 := ((hFvy27 25 (by decide)).trans (fn rfl (by decide)))
  have hkpy60 : Fvy27 26 = F 26 := ((hFvy27 26 (by decide)).trans (fn rfl (by decide)))
  have hkpy61 : Fvy27 27 = F 27 := ((hFvy27 27 (by decide)).trans (fn rfl (by decide)))
  have hkpy62 : Fvy27 29 = F 29 := ((hFvy27 29 (by decide)).trans (fn rfl (by decide)))
  exact z_iret C hr hlk dX10_odds_47 (by decide) (by decide) ⟨0, rfl, rfl, rfl, by omega, ⟨_, _, hMy47, ⟨hkpy48, hkpy49, hkpy50, hkpy51, hkpy52, hkpy53, hkpy54, hkpy55, hkpy56, hkpy57, hkpy58⟩, ⟨(hkpy59.trans hp25), (hkpy60.trans hp26), (hkpy61.trans hp27), (hkpy62.trans hp29)⟩, (fun j _ => rfl)⟩, fun j j1 => by rw [hfvy27 _ (by omega)]; rw [egy25, va_up_ne _ _ (by omega)]⟩

set_option maxRecDepth 100000 in
set_option maxHeartbeats 4000000 in
theorem c_X10_odds (l : Launch) (D : va_G) (A : Nat → Prop) (cs : Nat → ClassId) (tt : Nat) (N : Nat) (ad : Nat → Nat) (g : Nat → va_E) (i : Nat) (hN : i + 30 ≤ N) (x : Int) (hx : 0 ≤ x ∧ x ≤ 512) (F r : Nat → Int) {st op ai fa mu tb tp : Nat → Int} (hM : okMr cs ad g i x F r st op ai fa mu tb tp) (hPl : F 25 = 0 ∧ F 26 = -1 ∧ F 27 = -1 ∧ F 29 = 0) (z : Int) (hz : -2147483648 ≤ z ∧ z ≤ 2147483647) (z1 : Int) (hz1 : -2147483648 ≤ z1 ∧ z1 ≤ 2147483647) (z2 : Int) (hz2 : -2147483648 ≤ z2 ∧ z2 ≤ 2147483647) : zM l yX10_odds cX10_odds 8 (some .int) ({ frames := 11, cells := 0, slots := 0, locals := 660 } : Room) D A cs tt N ad g [.ref (ad i), .int (zI (z)), .int (zI (z1)), .int (zI (z2))] (rI0 N ad fun q g' => (-2147483648 ≤ q ∧ q ≤ 2147483647) ∧ (∃ F' r' : Nat → Int, okMr cs ad g' i (x + 1) F' r' st op ai fa mu tb tp ∧ (F' 13 = F 13 ∧ F' 14 = F 14 ∧ F' 15 = F 15 ∧ F' 16 = F 16 ∧ F' 17 = F 17 ∧ F' 18 = F 18 ∧ F' 19 = F 19 ∧ F' 20 = F 20 ∧ F' 21 = F 21 ∧ F' 23 = F 23 ∧ F' 24 = F 24) ∧ (F' 25 = 0 ∧ F' 26 = -1 ∧ F' 27 = -1 ∧ F' 29 = 0) ∧ (∀ j, j < 350 ∨ 700 ≤ j → r' j = r j)) ∧ ∀ j, j < i ∨ i + 30 ≤ j ∨ (i + 8 ≤ j ∧ j ≤ i + 12) → g' j = g j) := by
  by_cases h9 : 0 ≤ z ∧ z ≤ 3
  · obtain ⟨n, rfl⟩ : ∃ n : Nat, z = (n : Int) := ⟨z.toNat, by omega⟩
    exact c_X10_odds_a l D A cs tt N ad g i hN x hx F r hM hPl n (by omega) z1 hz1 z2 hz2
  · exact c_X10_odds_b l D A cs tt N ad g i hN x hx F r hM hPl z hz (by omega) z1 hz1 z2 hz2

set_option maxRecDepth 100000 in
set_option maxHeartbeats 4000000 in
theorem c_X10_draw (l : Launch) (D : va_G) (A : Nat → Prop) (cs : Nat → ClassId) (tt : Nat) (N : Nat) (ad : Nat → Nat) (g : Nat → va_E) (i : Nat) (hN : i + 30 ≤ N) (F : Nat → Int) (hg : g i = mC ad i F) (z : Int) (hz : 1 ≤ z ∧ z ≤ 100) : zM l yX10_draw cX10_draw 2 (some .int) ({ frames := 1, cells := 0, slots := 0, locals := 60 } : Room) D A cs tt N ad g [.ref (ad i), .int (zI (z))] (rI0 N ad fun q g' => (0 ≤ q ∧ q < z) ∧ (∃ F' : Nat → Int, g' i = mC ad i F' ∧ (∀ f, f ≠ 59 → F' f = F f)) ∧ ∀ j, j ≠ i → g' j = g j) := by
  have hay1 : zAt ad (i) (ad i) := rfl
  refine z_of (by decide) (Nat.le_of_ble_eq_true rfl) ?_
  intro pZ eZ sZ mZ below meth cZ C hr hlk hnm
  refine z_lv (lv' := [(0, .ref (ad i)), (1, .int (zI (z)))]) [0, 1] rfl ?_
  refine z_aload_n C 0 dX10_draw_0 rfl ?_
  refine z_aload_n C 0 dX10_draw_1 rfl ?_
  refine z_get (v := .int (zI (F 59))) C (lt_A0 hN rfl) hay1 hg rfl inA_X10 59 (by decide) q_1518 rfl (fv (F := F) (f := 59) rfl) dX10_draw_2 ?_
  refine z_ldcw (z := 1103515245) C dX10_draw_5 q_2107 (by decide) ?_
  refine z_imul C dX10_draw_8 ?_
  refine z_sipush (z := 12345) C dX10_draw_9 (by decide) ?_
  refine z_iadd C dX10_draw_12 ?_
  refine z_put (fs' := mF ad (i) (uZ F 59 (((F 59) * 1103515245) + 12345))) C (lt_A0 hN rfl) hay1 hg tyX10 tyX10_ok nmX10 rfl inA_X10 59 (by decide) q_1518 rfl rfl rfl rfl (Nat.le_of_ble_eq_true rfl) rfl dX10_draw_13 (fun gy2 egy3 => ?_)
  have hgy4 := up_s egy3
  refine z_aload_n C 0 dX10_draw_16 rfl ?_
  refine z_get (v := .int (zI (((F 59) * 1103515245) + 12345))) C (lt_A0 hN rfl) hay1 hgy4 rfl inA_X10 59 (by decide) q_1518 rfl (fv (F := (uZ F 59 (((F 59) * 1103515245) + 12345))) (f := 59) (uZ_s _ _ _)) dX10_draw_17 ?_
  refine z_bipush (z := 16) C dX10_draw_20 (by decide) ?_
  obtain ⟨xy5, exy6, hxy7⟩ := zI_of (zI (((F 59) * 1103515245) + 12345) >>> (zI (16) &&& 31))
  refine z_ishr (z := xy5) C dX10_draw_22 exy6 ?_
  refine z_sipush (z := 32767) C dX10_draw_23 (by decide) ?_
  obtain ⟨xy8, exy9, hxy10⟩ := zI_and (zI (xy5)) (m := zI 32767) 15 (by decide)
  refine z_iand (z := xy8) C dX10_draw_26 exy9 ?_
  refine z_iload_n C 1 dX10_draw_27 rfl ?_
  refine z_irem C dX10_draw_28 (by omega) (by omega) (by omega) ?_
  obtain ⟨xy11, exy11, hxy11⟩ := tmd (a := xy8) (k := z) (by omega) (by omega)
  rw [exy11]
  have hFy12 : ∀ f, f ≠ 59 → (uZ F 59 (((F 59) * 1103515245) + 12345)) f = F f := fun f n59 => ((uZ_n _ _ n59).trans rfl)
  exact z_iret C hr hlk dX10_draw_29 (by decide) (by decide) ⟨xy11, rfl, rfl, rfl, by omega, ⟨_, hgy4, hFy12⟩, fun j j1 => by rw [egy3, va_up_ne _ _ (by omega)]⟩

set_option maxRecDepth 100000 in
set_option maxHeartbeats 4000000 in
theorem c_X10_year (l : Launch) (D : va_G) (A : Nat → Prop) (cs : Nat → ClassId) (tt : Nat) (N : Nat) (ad : Nat → Nat) (g : Nat → va_E) (i : Nat) (hN : i + 30 ≤ N) (x : Int) (hx : 0 ≤ x ∧ x ≤ 512) (F r : Nat → Int) {st op ai fa mu tb tp : Nat → Int} (hM : okMr cs ad g i x F r st op ai fa mu tb tp) (y : Int) (hy : 0 ≤ y ∧ y ≤ 541) (hW : okW r 350 y) (ht : r 350 + 6 ≤ 2180) : zM l yX10_year cX10_year 3 none ({ frames := 12, cells := 0, slots := 0, locals := 720 } : Room) D A cs tt N ad g [.ref (ad i)] (rV0 N ad fun g' => (∃ F' r' : Nat → Int, okMr cs ad g' i x F' r' st op ai fa mu tb tp ∧ (∀ f, f ≠ 59 → F' f = F f) ∧ okW r' 350 (y + 1) ∧ r' 350 ≤ r 350 + 6 ∧ (∀ j, j < 350 ∨ 700 ≤ j → r' j = r j)) ∧ ∀ j, j < i ∨ i + 30 ≤ j ∨ (i + 8 ≤ j ∧ j ≤ i + 12) → g' j = g j) := by
  obtain ⟨hg, ⟨⟨e13, e14, e25, e27, e29⟩, k15, k16, k17, k18, k19, k20, k23, k21⟩, hRD, hTx, hA, ns, nh, nd, rf, pi, te, ki, li, ok1, ok2, fo, dd, dps, ⟨ha1, ha2, ha3, ha4, ha5, ha6, ha7, ha8, ha9, ha10, ha11, ha12, ha13, ha14, ha15, ha24, ha25, ha26, ha27, ha28, ha29⟩, hEv, hPt, hns, htp⟩ := id hM
  obtain ⟨-, hop, hai, hfa, hT, hT1⟩ := id hEv
  have hay1 : zAt ad (i) (ad i) := rfl
  have hay2 : zAt ad (i + 1) (ad (i + 1)) := rfl
  have hay3 : zAt ad (i + 2) (ad (i + 2)) := rfl
  have hay4 : zAt ad (i + 3) (ad (i + 3)) := rfl
  have hay5 : zAt ad (i + 4) (ad (i + 4)) := rfl
  have hay6 : zAt ad (i + 5) (ad (i + 5)) := rfl
  have hay7 : zAt ad (i + 6) (ad (i + 6)) := rfl
  have hay8 : zAt ad (i + 7) (ad (i + 7)) := rfl
  have hay9 : zAt ad (i + 8) (ad (i + 8)) := rfl
  have hay10 : zAt ad (i + 9) (ad (i + 9)) := rfl
  have hay11 : zAt ad (i + 10) (ad (i + 10)) := rfl
  have hay12 : zAt ad (i + 11) (ad (i + 11)) := rfl
  have hay13 : zAt ad (i + 12) (ad (i + 12)) := rfl
  have hay14 : zAt ad (i + 13) (ad (i + 13)) := rfl
  have hay15 : zAt ad (i + 14) (ad (i + 14)) := rfl
  have hay16 : zAt ad (i + 15) (ad (i + 15)) := rfl
  have hay17 : zAt ad (i + 24) (ad (i + 24)) := rfl
  have hay18 : zAt ad (i + 25) (ad (i + 25)) := rfl
  have hay19 : zAt ad (i + 26) (ad (i + 26)) := rfl
  have hay20 : zAt ad (i + 27) (ad (i + 27)) := rfl
  have hay21 : zAt ad (i + 28) (ad (i + 28)) := rfl
  have hay22 : zAt ad (i + 29) (ad (i + 29)) := rfl
  obtain ⟨⟨hsyy23, htyy23, hnyy23, hpyy23⟩, hlyy23⟩ := okA.at0 hA
  simp only [Nat.zero_add] at hsyy23 hnyy23 hpyy23
  have hmn : ∀ s, s < 4 → 0 ≤ r (6 + 86 * s) ∧ r (6 + 86 * s) ≤ 12 := fun s hs => (hsyy23 s hs).1
  have h5 : 0 ≤ r 5 ∧ r 5 ≤ 6 := hpyy23
  have hW2 := hW.2.1
  refine z_of (by decide) (Nat.le_of_ble_eq_true rfl) ?_
  intro pZ eZ sZ mZ below meth cZ C hr hlk hnm
  refine z_lv (lv' := [(0, .ref (ad i))]) [0] rfl ?_
  refine z_aload_n C 0 dX10_year_0 rfl ?_
  refine z_bipush (z := 6) C dX10_year_1 (by decide) ?_
  refine z_cV (As := [.int (zI (6))]) (rest := []) (ci := 12) C (c_X10_draw l D A cs tt N ad _ i hN _ hg (6) (by omega)) (lt_A0 hN rfl) hay1 hg rfl rfl mv_yX10_draw q_2103 hd_yX10_draw (by decide) (Nat.le_of_ble_eq_true rfl) (by decide) dX10_year_3 rfl (kI0 fun vy24 gvy24 hvy24 => ?_)
  obtain ⟨hrvy24, ⟨Fvy24, hcvy24, hFvy24⟩, hfvy24⟩ := hvy24
  refine z_istore_n (lv' := [(1, .int (zI (vy24))), (0, .ref (ad i))]) C dX10_year_6 rfl (by decide) rfl ?_
  refine z_iload_n C 0 dX10_year_7 rfl ?_
  refine z_iconst (z := 2) C dX10_year_8 rfl ?_
  refine z_icmp_ge (tgt := 30) C dX10_year_9 (by decide) (by omega) (by omega) (fun hby25 => ?_) (fun hby25 => ?_)
  · refine z_iload_n C 0 dX10_year_30 rfl ?_
    refine z_iconst (z := 5) C dX10_year_31 rfl ?_
    refine z_icmp_ne (tgt := 74) C dX10_year_32 (by decide) (by omega) (by omega) (fun hby26 => ?_) (fun hby26 => ?_)
    · refine z_aload_n C 1 dX10_year_74 rfl ?_
      refine z_get (v := .int (zI (F 13))) C (lt_A0 hN rfl) hay1 hcvy24 rfl inA_X10 13 (by decide) q_1472 rfl (fv (F := Fvy24) (f := 13) (hFvy24 13 (by decide))) dX10_year_75 ?_
      refine z_if_le (tgt := 143) C dX10_year_78 (by decide) (by omega) (fun hby27 => ?_) (fun hby27 => ?_)
      · have hgy28 := (hfvy24 (i + 1) (ne_o (i := i) (c := 1) (d := 0) rfl)).trans ha1
        have hFy29 : ∀ f, f ≠ 59 → Fvy24 f = F f := fun f n59 => (hFvy24 f n59)
        have hey30 : Fvy24 13 = F 13 := (hFvy24 13 (by decide))
        have hey31 : Fvy24 14 = F 14 := (hFvy24 14 (by decide))
        have hey32 : Fvy24 15 = F 15 := (hFvy24 15 (by decide))
        have hey33 : Fvy24 16 = F 16 := (hFvy24 16 (by decide))
        have hey34 : Fvy24 17 = F 17 := (hFvy24 17 (by decide))
        have hey35 : Fvy24 18 = F 18 := (hFvy24 18 (by decide))
        have hey36 : Fvy24 19 = F 19 := (hFvy24 19 (by decide))
        have hey37 : Fvy24 20 = F 20 := (hFvy24 20 (by decide))
        have hey38 : Fvy24 21 = F 21 := (hFvy24 21 (by decide))
        have hey39 : Fvy24 23 = F 23 := (hFvy24 23 (by decide))
        have hey40 : Fvy24 25 = F 25 := (hFvy24 25 (by decide))
        have hey41 : Fvy24 27 = F 27 := (hFvy24 27 (by decide))
        have hey42 : Fvy24 28 = F 28 := (hFvy24 28 (by decide))
        have hey43 : Fvy24 29 = F 29 := (hFvy24 29 (by decide))
        have hKy44 : okF Fvy24 := okF.mv hM.2.1 hey30 hey31 hey32 hey33 hey34 hey35 hey36 hey37 hey38 hey39 hey40 hey41 hey42 hey43
        have hMy45 : okMr cs ad gvy24 i (x) Fvy24 r st op ai fa mu tb tp := okMr.upd hM hcvy24 hKy44 (fun f a => hFy29 f (by omega)) hgy28 (hA.mono (by omega)) (fun j a b => by
            exact Or.inl (by rw [hfvy24 _ (by omega)]))
        have hFy46 : ∀ f, f ≠ 59 → Fvy24 f = F f := fun f n59 => (hFvy24 f n59)
        exact z_vret C hr hlk dX10_year_143 (by decide) (by decide) ⟨rfl, rfl, rfl, ⟨_, _, hMy45, fun f n59 => (hFy46 f n59), hW.mono (by omega), by omega, (fun j _ => rfl)⟩, fun j j1 => by rw [hfvy24 _ (by omega)]⟩
      · refine z_aload_n C 1 dX10_year_81 rfl ?_
        refine z_aload_n C 1 dX10_year_82 rfl ?_
        refine z_get (v := .int (zI (F 13))) C (lt_A0 hN rfl) hay1 hcvy24 rfl inA_X10 13 (by decide) q_1472 rfl (fv (F := Fvy24) (f := 13) (hFvy24 13 (by decide))) dX10_year_83 ?_
        refine z_cV (As := [.int (zI (F 13))]) (rest := []) (ci := 12) C (c_X10_draw l D A cs tt N ad _ i hN _ hcvy24 (F 13) (by omega)) (lt_A0 hN rfl) hay1 hcvy24 rfl rfl mv_yX10_draw q_2103 hd_yX10_draw (by decide) (Nat.le_of_ble_eq_true rfl) (by decide) dX10_year_86 rfl (kI0 fun vy47 gvy47 hvy47 => ?_)
        obtain ⟨hrvy47, ⟨Fvy47, hcvy47, hFvy47⟩, hfvy47⟩ := hvy47
        refine z_istore_n (lv' := [(2, .int (zI (vy47))), (1, .int (zI (vy24))), (0, .ref (ad i))]) C dX10_year_89 rfl (by decide) rfl ?_
        refine z_iload_n C 1 dX10_year_90 rfl ?_
        refine z_iconst (z := 4) C dX10_year_91 rfl ?_
        refine z_icmp_ne (tgt := 117) C dX10_year_92 (by decide) (by omega) (by omega) (fun hby48 => ?_) (fun hby48 => ?_)
        · refine z_aload_n C 2 dX10_year_117 rfl ?_
          refine z_sipush (z := 350) C dX10_year_118 (by decide) ?_
          refine z_iload_n C 0 dX10_year_121 rfl ?_
          refine z_iload_n C 1 dX10_year_122 rfl ?_
          refine z_iconst (z := 1) C dX10_year_123 rfl ?_
          refine z_isub C dX10_year_124 ?_
          refine z_aload_n C 2 dX10_year_125 rfl ?_
          refine z_bipush (z := 20) C dX10_year_126 (by decide) ?_
          refine z_cV (As := [.int (zI (20))]) (rest := [.int (zI (vy24 - 1)), .int (zI (vy47)), .int (zI (350)), .ref (ad i)]) (ci := 12) C (c_X10_draw l D A cs tt N ad _ i hN _ hcvy47 (20) (by omega)) (lt_A0 hN rfl) hay1 hcvy47 rfl rfl mv_yX10_draw q_2103 hd_yX10_draw (by decide) (Nat.le_of_ble_eq_true rfl) (by decide) dX10_year_128 rfl (kI0 fun vy49 gvy49 hvy49 => ?_)
          obtain ⟨hrvy49, ⟨Fvy49, hcvy49, hFvy49⟩, hfvy49⟩ := hvy49
          refine z_iconst (z := 1) C dX10_year_131 rfl ?_
          refine z_iadd C dX10_year_132 ?_
          refine z_aload_n C 2 dX10_year_133 rfl ?_
          refine z_sipush (z := 350) C dX10_year_134 (by decide) ?_
          have hgy50 := (hfvy24 (i + 1) (ne_o (i := i) (c := 1) (d := 0) rfl)).trans ha1
          have hgy51 := (hfvy47 (i + 1) (ne_o (i := i) (c := 1) (d := 0) rfl)).trans hgy50
          have hgy52 := (hfvy49 (i + 1) (ne_o (i := i) (c := 1) (d := 0) rfl)).trans hgy51
          have hey54 : Fvy49 14 = F 14 := ((hFvy49 14 (by decide)).trans ((hFvy47 14 (by decide)).trans (hFvy24 14 (by decide))))
          have hey55 : Fvy49 25 = F 25 := ((hFvy49 25 (by decide)).trans ((hFvy47 25 (by decide)).trans (hFvy24 25 (by decide))))
          have hgy56 := (hfvy24 (i + 4) (ne_o (i := i) (c := 4) (d := 0) rfl)).trans ha4
          have hgy57 := (hfvy47 (i + 4) (ne_o (i := i) (c := 4) (d := 0) rfl)).trans hgy56
          have hgy58 := (hfvy49 (i + 4) (ne_o (i := i) (c := 4) (d := 0) rfl)).trans hgy57
          refine z_cV (As := [.int (zI (350))]) (rest := [.int (zI (vy49 + 1)), .int (zI (vy24 - 1)), .int (zI (vy47)), .int (zI (350)), .ref (ad i)]) (ci := 12) C (c_X10_airOf l D A cs tt N ad _ i hN _ hcvy49 _ hgy52 _ hgy58 350 (by omega) (by omega) (by omega) (by omega) hai) (lt_A0 hN rfl) hay1 hcvy49 rfl rfl mv_yX10_airOf q_1827 hd_yX10_airOf (by decide) (Nat.le_of_ble_eq_true rfl) (by decide) dX10_year_137 rfl (kI0 fun vy53 gvy53 hvy53 => ?_)
          obtain ⟨hvy53, rfl⟩ := hvy53
          obtain ⟨ny59, hny59⟩ : ∃ n9 : Nat, vy47 = (n9 : Int) := ⟨(vy47).toNat, by omega⟩
          rw [hny59]
          obtain ⟨py60, hpy60⟩ : ∃ p9 : Nat, 350 + 6 + 86 * ny59 = p9 := ⟨_, rfl⟩
          have hSy61 := (hW.1 ny59 (by omega)).of (p2 := py60) (by omega)
          obtain ⟨b1hSy61, b2hSy61, b3hSy61, b4hSy61⟩ := mBb (t := r 350 + y) (by omega)
          have hmky62 := hSy61.1
          have hcy63n := hW.2.2.1
          have hcy63t := hW.2.1
          refine z_cV (As := [.int (zI (350)), .int (zI ((ny59 : Int))), .int (zI (vy24 - 1)), .int (zI (vy49 + 1)), .int (zI (vy53))]) (rest := []) (ci := 12) C (c_X10_drops l D A cs tt N ad _ i hN _ hcvy49 _ hgy52  350 ny59 py60 hpy60 (by omega) (by omega) (by omega) (mB (r 350 + y)) (eB (r 350 + y)) (by omega) (by omega) hSy61 (by omega) (by omega) (vy24 - 1) (by omega) (vy49 + 1) (by omega) (vy53) (by omega)) (lt_A0 hN rfl) hay1 hcvy49 rfl rfl mv_yX10_drops q_1893 hd_yX10_drops (by decide) (Nat.le_of_ble_eq_true rfl) (by decide) dX10_year_140 rfl (kV0 fun gvy64 hvy64 => ?_)
          obtain ⟨⟨rvy64, hcvy64, hovy64, hnvy64, hyvy64⟩, hfvy64⟩ := hvy64
          have hkvy64 := hovy64.1
          have hcy630 : rvy64 350 = r 350 := (hyvy64 350 (by omega) (by omega))
          have hcy635 : rvy64 (350 + 5) = r (350 + 5) := (hyvy64 (350 + 5) (by omega) (by omega))
          have hcy636 := hW.2.2.2
          have hcy63 : okW rvy64 350 (y + 1) := okW.slope hW (s := ny59) (p := py60) (by omega) (by omega) (hovy64.mono (by omega) (by omega)) hnvy64 hcy630 (by omega) (fun j a1 a2 a3 => (hyvy64 j (by omega) (by omega)))
          have hAy65 : okA rvy64 (x) := okA.tried hA (fun j a => (hyvy64 j (by omega) (by omega)))
          obtain ⟨⟨hsyy66, htyy66, hnyy66, hpyy66⟩, hlyy66⟩ := okA.at0 hAy65
          simp only [Nat.zero_add] at hsyy66 hnyy66 hpyy66
          have hmn : ∀ s, s < 4 → 0 ≤ rvy64 (6 + 86 * s) ∧ rvy64 (6 + 86 * s) ≤ 12 := fun s hs => (hsyy66 s hs).1
          have h5 : 0 ≤ rvy64 5 ∧ rvy64 5 ≤ 6 := hpyy66
          have hgy67 := (hfvy64 (i) (ne_o (i := i) (c := 0) (d := 1) rfl)).trans hcvy49
          have hFy68 : ∀ f, f ≠ 59 → Fvy49 f = F f := fun f n59 => ((hFvy49 f n59).trans ((hFvy47 f n59).trans (hFvy24 f n59)))
          have hey69 : Fvy49 13 = F 13 := ((hFvy49 13 (by decide)).trans ((hFvy47 13 (by decide)).trans (hFvy24 13 (by decide))))
          have hey70 : Fvy49 14 = F 14 := ((hFvy49 14 (by decide)).trans ((hFvy47 14 (by decide)).trans (hFvy24 14 (by decide))))
          have hey71 : Fvy49 15 = F 15 := ((hFvy49 15 (by decide)).trans ((hFvy47 15 (by decide)).trans (hFvy24 15 (by decide))))
          have hey72 : Fvy49 16 = F 16 := ((hFvy49 16 (by decide)).trans ((hFvy47 16 (by decide)).trans (hFvy24 16 (by decide))))
          have hey73 : Fvy49 17 = F 17 := ((hFvy49 17 (by decide)).trans ((hFvy47 17 (by decide)).trans (hFvy24 17 (by decide))))
          have hey74 : Fvy49 18 = F 18 := ((hFvy49 18 (by decide)).trans ((hFvy47 18 (by decide)).trans (hFvy24 18 (by decide))))
          have hey75 : Fvy49 19 = F 19 := ((hFvy49 19 (by decide)).trans ((hFvy47 19 (by decide)).trans (hFvy24 19 (by decide))))
          have hey76 : Fvy49 20 = F 20 := ((hFvy49 20 (by decide)).trans ((hFvy47 20 (by decide)).trans (hFvy24 20 (by decide))))
          have hey77 : Fvy49 21 = F 21 := ((hFvy49 21 (by decide)).trans ((hFvy47 21 (by decide)).trans (hFvy24 21 (by decide))))
          have hey78 : Fvy49 23 = F 23 := ((hFvy49 23 (by decide)).trans ((hFvy47 23 (by decide)).trans (hFvy24 23 (by decide))))
          have hey79 : Fvy49 25 = F 25 := ((hFvy49 25 (by decide)).trans ((hFvy47 25 (by decide)).trans (hFvy24 25 (by decide))))
          have hey80 : Fvy49 27 = F 27 := ((hFvy49 27 (by decide)).trans ((hFvy47 27 (by decide)).trans (hFvy24 27 (by decide))))
          have hey81 : Fvy49 28 = F 28 := ((hFvy49 28 (by decide)).trans ((hFvy47 28 (by decide)).trans (hFvy24 28 (by decide))))
          have hey82 : Fvy49 29 = F 29 := ((hFvy49 29 (by decide)).trans ((hFvy47 29 (by decide)).trans (hFvy24 29 (by decide))))
          have hKy83 : okF Fvy49 := okF.mv hM.2.1 hey69 hey70 hey71 hey72 hey73 hey74 hey75 hey76 hey77 hey78 hey79 hey80 hey81 hey82
          have hMy84 : okMr cs ad gvy64 i (x) Fvy49 rvy64 st op ai fa mu tb tp := okMr.upd hM hgy67 hKy83 (fun f a => hFy68 f (by omega)) hcvy64 (hAy65.mono (by omega)) (fun j a b => by
              exact Or.inl (by rw [hfvy64 _ (by omega)]; rw [hfvy49 _ (by omega)]; rw [hfvy47 _ (by omega)]; rw [hfvy24 _ (by omega)]))
          have hFy85 : ∀ f, f ≠ 59 → Fvy49 f = F f := fun f n59 => ((hFvy49 f n59).trans ((hFvy47 f n59).trans (hFvy24 f n59)))
          exact z_vret C hr hlk dX10_year_143 (by decide) (by decide) ⟨rfl, rfl, rfl, ⟨_, _, hMy84, fun f n59 => (hFy85 f n59), hcy63.mono (by omega), by omega, (fun j a => ((hyvy64 j (by omega) (by omega))).trans ((fun j _ => rfl) j a))⟩, fun j j1 => by rw [hfvy64 _ (by omega)]; rw [hfvy49 _ (by omega)]; rw [hfvy47 _ (by omega)]; rw [hfvy24 _ (by omega)]⟩
        · refine z_aload_n C 2 dX10_year_95 rfl ?_
          refine z_sipush (z := 350) C dX10_year_96 (by decide) ?_
          refine z_iload_n C 0 dX10_year_99 rfl ?_
          obtain ⟨ny86, hny86⟩ : ∃ n9 : Nat, vy47 = (n9 : Int) := ⟨(vy47).toNat, by omega⟩
          rw [hny86]
          obtain ⟨py87, hpy87⟩ : ∃ p9 : Nat, 350 + 6 + 86 * ny86 = p9 := ⟨_, rfl⟩
          have hmyy88 := (hW.1 ny86 (by omega)).1
          rw [hpy87] at hmyy88
          have hgy89 := (hfvy24 (i + 1) (ne_o (i := i) (c := 1) (d := 0) rfl)).trans ha1
          have hgy90 := (hfvy47 (i + 1) (ne_o (i := i) (c := 1) (d := 0) rfl)).trans hgy89
          refine z_cV (As := [.int (zI (350)), .int (zI ((ny86 : Int)))]) (rest := []) (ci := 12) C (c_X10_many l D A cs tt N ad _ i hN _ hcvy47 _ hgy90 350 ny86 py87 hpy87 (by omega) (by omega)) (lt_A0 hN rfl) hay1 hcvy47 rfl rfl mv_yX10_many q_1733 hd_yX10_many (by decide) (Nat.le_of_ble_eq_true rfl) (by decide) dX10_year_100 rfl (kI0 fun vy91 gvy91 hvy91 => ?_)
          obtain ⟨rfl, rfl⟩ := hvy91
          refine z_if_le (tgt := 143) C dX10_year_103 (by decide) (by omega) (fun hby92 => ?_) (fun hby92 => ?_)
          · have hFy93 : ∀ f, f ≠ 59 → Fvy47 f = F f := fun f n59 => ((hFvy47 f n59).trans (hFvy24 f n59))
            have hey94 : Fvy47 13 = F 13 := ((hFvy47 13 (by decide)).trans (hFvy24 13 (by decide)))
            have hey95 : Fvy47 14 = F 14 := ((hFvy47 14 (by decide)).trans (hFvy24 14 (by decide)))
            have hey96 : Fvy47 15 = F 15 := ((hFvy47 15 (by decide)).trans (hFvy24 15 (by decide)))
            have hey97 : Fvy47 16 = F 16 := ((hFvy47 16 (by decide)).trans (hFvy24 16 (by decide)))
            have hey98 : Fvy47 17 = F 17 := ((hFvy47 17 (by decide)).trans (hFvy24 17 (by decide)))
            have hey99 : Fvy47 18 = F 18 := ((hFvy47 18 (by decide)).trans (hFvy24 18 (by decide)))
            have hey100 : Fvy47 19 = F 19 := ((hFvy47 19 (by decide)).trans (hFvy24 19 (by decide)))
            have hey101 : Fvy47 20 = F 20 := ((hFvy47 20 (by decide)).trans (hFvy24 20 (by decide)))
            have hey102 : Fvy47 21 = F 21 := ((hFvy47 21 (by decide)).trans (hFvy24 21 (by decide)))
            have hey103 : Fvy47 23 = F 23 := ((hFvy47 23 (by decide)).trans (hFvy24 23 (by decide)))
            have hey104 : Fvy47 25 = F 25 := ((hFvy47 25 (by decide)).trans (hFvy24 25 (by decide)))
            have hey105 : Fvy47 27 = F 27 := ((hFvy47 27 (by decide)).trans (hFvy24 27 (by decide)))
            have hey106 : Fvy47 28 = F 28 := ((hFvy47 28 (by decide)).trans (hFvy24 28 (by decide)))
            have hey107 : Fvy47 29 = F 29 := ((hFvy47 29 (by decide)).trans (hFvy24 29 (by decide)))
            have hKy108 : okF Fvy47 := okF.mv hM.2.1 hey94 hey95 hey96 hey97 hey98 hey99 hey100 hey101 hey102 hey103 hey104 hey105 hey106 hey107
            have hMy109 : okMr cs ad gvy47 i (x) Fvy47 r st op ai fa mu tb tp := okMr.upd hM hcvy47 hKy108 (fun f a => hFy93 f (by omega)) hgy90 (hA.mono (by omega)) (fun j a b => by
                exact Or.inl (by rw [hfvy47 _ (by omega)]; rw [hfvy24 _ (by omega)]))
            have hFy110 : ∀ f, f ≠ 59 → Fvy47 f = F f := fun f n59 => ((hFvy47 f n59).trans (hFvy24 f n59))
            exact z_vret C hr hlk dX10_year_143 (by decide) (by decide) ⟨rfl, rfl, rfl, ⟨_, _, hMy109, fun f n59 => (hFy110 f n59), hW.mono (by omega), by omega, (fun j _ => rfl)⟩, fun j j1 => by rw [hfvy47 _ (by omega)]; rw [hfvy24 _ (by omega)]⟩
          · refine z_aload_n C 2 dX10_year_106 rfl ?_
            refine z_sipush (z := 350) C dX10_year_107 (by decide) ?_
            refine z_iload_n C 0 dX10_year_110 rfl ?_
            have hSy111 := (hW.1 ny86 (by omega)).of (p2 := py87) (by omega)
            obtain ⟨b1hSy111, b2hSy111, b3hSy111, b4hSy111⟩ := mBb (t := r 350 + y) (by omega)
            have hmky112 := hSy111.1
            have hcy113n := hW.2.2.1
            have hcy113t := hW.2.1
            refine z_cV (As := [.int (zI (350)), .int (zI ((ny86 : Int)))]) (rest := []) (ci := 12) C (c_X10_digs l D A cs tt N ad _ i hN _ hcvy47 _ hgy90 350 ny86 py87 hpy87 (by omega) (by omega) (mB (r 350 + y)) (eB (r 350 + y)) (by omega) (by omega) hSy111 (by omega)) (lt_A0 hN rfl) hay1 hcvy47 rfl rfl mv_yX10_digs q_1956 hd_yX10_digs (by decide) (Nat.le_of_ble_eq_true rfl) (by decide) dX10_year_111 rfl (kV0 fun gvy114 hvy114 => ?_)
            obtain ⟨⟨rvy114, hcvy114, hovy114, hyvy114⟩, hfvy114⟩ := hvy114
            have hcy1130 : rvy114 350 = r 350 := (hyvy114 350 (by omega) (by omega) (by omega) (by omega))
            have hcy113 : okW rvy114 350 (y) := okW.slope0 hW (s := ny86) (p := py87) (by omega) (by omega) hovy114 (fun j a1 a2 a3 a4 a5 a6 => hyvy114 j a3 a4 a5 a6)
            have hAy115 : okA rvy114 (x) := okA.tried hA (fun j a => (hyvy114 j (by omega) (by omega) (by omega) (by omega)))
            obtain ⟨⟨hsyy116, htyy116, hnyy116, hpyy116⟩, hlyy116⟩ := okA.at0 hAy115
            simp only [Nat.zero_add] at hsyy116 hnyy116 hpyy116
            have hmn : ∀ s, s < 4 → 0 ≤ rvy114 (6 + 86 * s) ∧ rvy114 (6 + 86 * s) ≤ 12 := fun s hs => (hsyy116 s hs).1
            have h5 : 0 ≤ rvy114 5 ∧ rvy114 5 ≤ 6 := hpyy116
            refine z_goto (tgt := 143) C dX10_year_114 (by decide) ?_
            have hgy117 := (hfvy114 (i) (ne_o (i := i) (c := 0) (d := 1) rfl)).trans hcvy47
            have hFy118 : ∀ f, f ≠ 59 → Fvy47 f = F f := fun f n59 => ((hFvy47 f n59).trans (hFvy24 f n59))
            have hey119 : Fvy47 13 = F 13 := ((hFvy47 13 (by decide)).trans (hFvy24 13 (by decide)))
            have hey120 : Fvy47 14 = F 14 := ((hFvy47 14 (by decide)).trans (hFvy24 14 (by decide)))
            have hey121 : Fvy47 15 = F 15 := ((hFvy47 15 (by decide)).trans (hFvy24 15 (by decide)))
            have hey122 : Fvy47 16 = F 16 := ((hFvy47 16 (by decide)).trans (hFvy24 16 (by decide)))
            have hey123 : Fvy47 17 = F 17 := ((hFvy47 17 (by decide)).trans (hFvy24 17 (by decide)))
            have hey124 : Fvy47 18 = F 18 := ((hFvy47 18 (by decide)).trans (hFvy24 18 (by decide)))
            have hey125 : Fvy47 19 = F 19 := ((hFvy47 19 (by decide)).trans (hFvy24 19 (by decide)))
            have hey126 : Fvy47 20 = F 20 := ((hFvy47 20 (by decide)).trans (hFvy24 20 (by decide)))
            have hey127 : Fvy47 21 = F 21 := ((hFvy47 21 (by decide)).trans (hFvy24 21 (by decide)))
            have hey128 : Fvy47 23 = F 23 := ((hFvy47 23 (by decide)).trans (hFvy24 23 (by decide)))
            have hey129 : Fvy47 25 = F 25 := ((hFvy47 25 (by decide)).trans (hFvy24 25 (by decide)))
            have hey130 : Fvy47 27 = F 27 := ((hFvy47 27 (by decide)).trans (hFvy24 27 (by decide)))
            have hey131 : Fvy47 28 = F 28 := ((hFvy47 28 (by decide)).trans (hFvy24 28 (by decide)))
            have hey132 : Fvy47 29 = F 29 := ((hFvy47 29 (by decide)).trans (hFvy24 29 (by decide)))
            have hKy133 : okF Fvy47 := okF.mv hM.2.1 hey119 hey120 hey121 hey122 hey123 hey124 hey125 hey126 hey127 hey128 hey129 hey130 hey131 hey132
            have hMy134 : okMr cs ad gvy114 i (x) Fvy47 rvy114 st op ai fa mu tb tp := okMr.upd hM hgy117 hKy133 (fun f a => hFy118 f (by omega)) hcvy114 (hAy115.mono (by omega)) (fun j a b => by
                exact Or.inl (by rw [hfvy114 _ (by omega)]; rw [hfvy47 _ (by omega)]; rw [hfvy24 _ (by omega)]))
            have hFy135 : ∀ f, f ≠ 59 → Fvy47 f = F f := fun f n59 => ((hFvy47 f n59).trans (hFvy24 f n59))
            exact z_vret C hr hlk dX10_year_143 (by decide) (by decide) ⟨rfl, rfl, rfl, ⟨_, _, hMy134, fun f n59 => (hFy135 f n59), hcy113.mono (by omega), by omega, (fun j a => ((hyvy114 j (by omega) (by omega) (by omega) (by omega))).trans ((fun j _ => rfl) j a))⟩, fun j j1 => by rw [hfvy114 _ (by omega)]; rw [hfvy47 _ (by omega)]; rw [hfvy24 _ (by omega)]⟩
    · refine z_iconst (z := 0) C dX10_year_35 rfl ?_
      refine z_istore_n (lv' := [(2, .int (zI (0))), (1, .int (zI (vy24))), (0, .ref (ad i))]) C dX10_year_36 rfl (by decide) rfl ?_
      have lp1 : ∀ (n9 : Nat) (ss : Int) (F9 : Nat → Int) (r9 : Nat → Int) (g1 : Nat → va_E), (5 - ss).toNat = n9 → (okMr cs ad g1 i x F9 r9 st op ai fa mu tb tp) → ((∀ f, f ≠ 59 → F9 f = F f)) → (okW r9 350 (y)) → ((∀ j, j < 350 ∨ 700 ≤ j → r9 j = r j)) → (∀ j, j < i ∨ i + 30 ≤ j ∨ (i + 8 ≤ j ∧ j ≤ i + 12) → g1 j = g j) → (0 ≤ ss ∧ ss ≤ F 13) → (r9 350 ≤ r 350) → zV pZ l eZ ({ frames := 12, cells := 0, slots := 0, locals := 720 } : Room) sZ mZ ([.ref (ad i)] : List Value).toArray below meth cZ (MQ below (zPost D A (rV0 N ad fun g' => (∃ F' r' : Nat → Int, okMr cs ad g' i x F' r' st op ai fa mu tb tp ∧ (∀ f, f ≠ 59 → F' f = F f) ∧ okW r' 350 (y + 1) ∧ r' 350 ≤ r 350 + 6 ∧ (∀ j, j < 350 ∨ 700 ≤ j → r' j = r j)) ∧ ∀ j, j < i ∨ i + 30 ≤ j ∨ (i + 8 ≤ j ∧ j ≤ i + 12) → g' j = g j)) ([.ref (ad i)] : List Value).toArray sZ ({ frames := 12, cells := 0, slots := 0, locals := 720 } : Room).cells ({ frames := 12, cells := 0, slots := 0, locals := 720 } : Room).slots A) D A 3 (N) ad g1 (0) (0) 37 [(0, .ref (ad i)), (2, .int (zI (ss)))] [] := by
        intro n9
        induction n9 using Nat.strongRecOn with
        | ind n9 ih_lp1 =>
          intro ss F9 r9 g1 hm9 fM fF fW fR f3 hvlp10 hvlp11
          obtain ⟨hg_y136, ⟨⟨e13_y136, e14_y136, e25_y136, e27_y136, e29_y136⟩, k15_y136, k16_y136, k17_y136, k18_y136, k19_y136, k20_y136, k23_y136, k21_y136⟩, hRD_y136, hTx_y136, hA_y136, ns_y136, nh_y136, nd_y136, rf_y136, pi_y136, te_y136, ki_y136, li_y136, ok1_y136, ok2_y136, fo_y136, dd_y136, dps_y136, ⟨ha1_y136, ha2_y136, ha3_y136, ha4_y136, ha5_y136, ha6_y136, ha7_y136, ha8_y136, ha9_y136, ha10_y136, ha11_y136, ha12_y136, ha13_y136, ha14_y136, ha15_y136, ha24_y136, ha25_y136, ha26_y136, ha27_y136, ha28_y136, ha29_y136⟩, hEv_y136, hPt_y136, hns_y136, htp_y136⟩ := id fM
          obtain ⟨-, hop_y136, hai_y136, hfa_y136, hT_y136, hT1_y136⟩ := id hEv_y136
          have e14 := e14_y136
          have e25 := e25_y136
          have e27 := e27_y136
          have e29 := e29_y136
          have hop := hop_y136
          have hai := hai_y136
          have hfa := hfa_y136
          have hT := hT_y136
          have hT1 := hT1_y136
          have hEv := hEv_y136
          have htp := htp_y136
          have hns := hns_y136
          have hPt := hPt_y136
          have hay137 : zAt ad (i) (ad i) := rfl
          have hay138 : zAt ad (i + 1) (ad (i + 1)) := rfl
          have hay139 : zAt ad (i + 2) (ad (i + 2)) := rfl
          have hay140 : zAt ad (i + 3) (ad (i + 3)) := rfl
          have hay141 : zAt ad (i + 4) (ad (i + 4)) := rfl
          have hay142 : zAt ad (i + 5) (ad (i + 5)) := rfl
          have hay143 : zAt ad (i + 6) (ad (i + 6)) := rfl
          have hay144 : zAt ad (i + 7) (ad (i + 7)) := rfl
          have hay145 : zAt ad (i + 8) (ad (i + 8)) := rfl
          have hay146 : zAt ad (i + 9) (ad (i + 9)) := rfl
          have hay147 : zAt ad (i + 10) (ad (i + 10)) := rfl
          have hay148 : zAt ad (i + 11) (ad (i + 11)) := rfl
          have hay149 : zAt ad (i + 12) (ad (i + 12)) := rfl
          have hay150 : zAt ad (i + 13) (ad (i + 13)) := rfl
          have hay151 : zAt ad (i + 14) (ad (i + 14)) := rfl
          have hay152 : zAt ad (i + 15) (ad (i + 15)) := rfl
          have hay153 : zAt ad (i + 24) (ad (i + 24)) := rfl
          have hay154 : zAt ad (i + 25) (ad (i + 25)) := rfl
          have hay155 : zAt ad (i + 26) (ad (i + 26)) := rfl
          have hay156 : zAt ad (i + 27) (ad (i + 27)) := rfl
          have hay157 : zAt ad (i + 28) (ad (i + 28)) := rfl
          have hay158 : zAt ad (i + 29) (ad (i + 29)) := rfl
          obtain ⟨⟨hsyy159, htyy159, hnyy159, hpyy159⟩, hlyy159⟩ := okA.at0 hA_y136
          simp only [Nat.zero_add] at hsyy159 hnyy159 hpyy159
          have hmn : ∀ s, s < 4 → 0 ≤ r9 (6 + 86 * s) ∧ r9 (6 + 86 * s) ≤ 12 := fun s hs => (hsyy159 s hs).1
          have h5 : 0 ≤ r9 5 ∧ r9 5 ≤ 6 := hpyy159
          have h13e : F9 13 = F 13 := fF 13 (by decide)
          have h14e : F9 14 = F 14 := fF 14 (by decide)
          have h17e : F9 17 = F 17 := fF 17 (by decide)
          have h20e : F9 20 = F 20 := fF 20 (by decide)
          have h21e : F9 21 = F 21 := fF 21 (by decide)
          have h23e : F9 23 = F 23 := fF 23 (by decide)
          have h24e : F9 24 = F 24 := fF 24 (by decide)
          have h15e : F9 15 = F 15 := fF 15 (by decide)
          have h16e : F9 16 = F 16 := fF 16 (by decide)
          have h18e : F9 18 = F 18 := fF 18 (by decide)
          have h19e : F9 19 = F 19 := fF 19 (by decide)
          have h25e : F9 25 = F 25 := fF 25 (by decide)
          have h26e : F9 26 = F 26 := fF 26 (by decide)
          have h27e : F9 27 = F 27 := fF 27 (by decide)
          have h29e : F9 29 = F 29 := fF 29 (by decide)
          have hW2 := fW.2.1
          refine z_iload_n C 1 dX10_year_37 rfl ?_
          refine z_aload_n C 0 dX10_year_38 rfl ?_
          refine z_get (v := .int (zI (F9 13))) C (lt_A0 hN rfl) hay137 hg_y136 rfl inA_X10 13 (by decide) q_1472 rfl (fv (F := F9) (f := 13) rfl) dX10_year_39 ?_
          refine z_icmp_ge (tgt := 71) C dX10_year_42 (by decide) (by omega) (by omega) (fun hby160 => ?_) (fun hby160 => ?_)
          · refine z_goto (tgt := 143) C dX10_year_71 (by decide) ?_
            have hMy161 : okMr cs ad g1 i (x) F9 r9 st op ai fa mu tb tp := okMr.upd fM hg_y136 fM.2.1 (fun f _ => rfl) ha1_y136 (hA_y136.mono (by omega)) (fun j a b => by
                exact Or.inl (by rfl))
            exact z_vret C hr hlk dX10_year_143 (by decide) (by decide) ⟨rfl, rfl, rfl, ⟨_, _, hMy161, fun f n59 => (fF f n59), fW.mono (by omega), by omega, fR⟩, fun j j1 => by exact f3 j j1⟩
          · refine z_aload_n C 0 dX10_year_45 rfl ?_
            refine z_sipush (z := 350) C dX10_year_46 (by decide) ?_
            refine z_iload_n C 1 dX10_year_49 rfl ?_
            obtain ⟨ny162, hny162⟩ : ∃ n9 : Nat, ss = (n9 : Int) := ⟨(ss).toNat, by omega⟩
            rw [hny162]
            obtain ⟨py163, hpy163⟩ : ∃ p9 : Nat, 350 + 6 + 86 * ny162 = p9 := ⟨_, rfl⟩
            have hqy165 : qS r9 py163 := ((fW.1 ny162 (by omega)).of (p2 := py163) (by omega)).q (by have hb9 := mBb (t := r9 350 + y) (by omega); omega)
            have hmky166 := hqy165.1
            refine z_cV (As := [.int (zI (350)), .int (zI ((ny162 : Int)))]) (rest := []) (ci := 12) C (c_X10_isUnstable l D A cs tt N ad _ i hN _ hg_y136 _ ha1_y136 _ ha2_y136 _ ha7_y136 350 ny162 py163 hpy163 (by omega) (by omega) hqy165) (lt_A0 hN rfl) hay137 hg_y136 rfl rfl mv_yX10_isUnstable q_1811 hd_yX10_isUnstable (by decide) (Nat.le_of_ble_eq_true rfl) (by decide) dX10_year_50 rfl (kI0 fun vy164 gvy164 hvy164 => ?_)
            obtain ⟨hvy164, rfl⟩ := hvy164
            refine z_if_eq (tgt := 65) C dX10_year_53 (by decide) (by omega) (fun hby167 => ?_) (fun hby167 => ?_)
            · refine z_iinc (z := (ny162 : Int) + 1) (lv' := [(2, .int (zI ((ny162 : Int) + 1))), (0, .ref (ad i))]) (j := 1) C dX10_year_65 rfl rfl (by decide) rfl ?_
              refine z_goto (tgt := 37) C dX10_year_68 (by decide) ?_
              have hMy168 : okMr cs ad g1 i (x) F9 r9 st op ai fa mu tb tp := okMr.upd fM hg_y136 fM.2.1 (fun f _ => rfl) ha1_y136 (hA_y136.mono (by omega)) (fun j a b => by
                  exact Or.inl (by rfl))
              have hFF : (∀ f, f ≠ 59 → F9 f = F f) := fun f n59 => fF f n59
              have hey169 : F9 13 = F9 13 := rfl
              have hey170 : F9 14 = F9 14 := rfl
              refine z_lv (lv' := [(0, .ref (ad i)), (2, .int (zI ((ny162 : Int) + 1)))]) [1, 0] rfl ?_
              exact ih_lp1 _ (by omega) ((ny162 : Int) + 1) _ _ g1 rfl hMy168 hFF fW (fR) (fun j j1 => by exact f3 j j1) (by omega) (by omega)
            · refine z_aload_n C 0 dX10_year_56 rfl ?_
              refine z_sipush (z := 350) C dX10_year_57 (by decide) ?_
              refine z_iload_n C 1 dX10_year_60 rfl ?_
              have hSy171 := (fW.1 ny162 (by omega)).of (p2 := py163) (by omega)
              obtain ⟨b1hSy171, b2hSy171, b3hSy171, b4hSy171⟩ := mBb (t := r9 350 + y) (by omega)
              have hmky172 := hSy171.1
              have hcy173n := fW.2.2.1
              have hcy173t := fW.2.1
              refine z_cV (As := [.int (zI (350)), .int (zI ((ny162 : Int)))]) (rest := []) (ci := 12) C (c_X10_slides l D A cs tt N ad _ i hN _ hg_y136 _ ha1_y136 _ ha2_y136 _ ha7_y136 350 ny162 py163 hpy163 (by omega) (by omega) (mB (r9 350 + y)) (eB (r9 350 + y)) (by omega) (by omega) hSy171) (lt_A0 hN rfl) hay137 hg_y136 rfl rfl mv_yX10_slides q_1964 hd_yX10_slides (by decide) (Nat.le_of_ble_eq_true rfl) (by decide) dX10_year_61 rfl (kI0 fun vy174 gvy174 hvy174 => ?_)
              obtain ⟨hrvy174, ⟨rvy174, hcvy174, hovy174, hyvy174⟩, hfvy174⟩ := hvy174
              have hcy1730 : rvy174 350 = r9 350 := (hyvy174 350 (by omega) (by omega) (by omega) (by omega))
              have hcy173 : okW rvy174 350 (y) := okW.slope0 fW (s := ny162) (p := py163) (by omega) (by omega) hovy174 (fun j a1 a2 a3 a4 a5 a6 => hyvy174 j a3 a4 a5 a6)
              have hAy175 : okA rvy174 (x) := okA.tried hA_y136 (fun j a => (hyvy174 j (by omega) (by omega) (by omega) (by omega)))
              obtain ⟨⟨hsyy176, htyy176, hnyy176, hpyy176⟩, hlyy176⟩ := okA.at0 hAy175
              simp only [Nat.zero_add] at hsyy176 hnyy176 hpyy176
              have hmn : ∀ s, s < 4 → 0 ≤ rvy174 (6 + 86 * s) ∧ rvy174 (6 + 86 * s) ≤ 12 := fun s hs => (hsyy176 s hs).1
              have h5 : 0 ≤ rvy174 5 ∧ rvy174 5 ≤ 6 := hpyy176
              refine z_pop C dX10_year_64 rfl ?_
              refine z_iinc (z := (ny162 : Int) + 1) (lv' := [(2, .int (zI ((ny162 : Int) + 1))), (0, .ref (ad i))]) (j := 1) C dX10_year_65 rfl rfl (by decide) rfl ?_
              refine z_goto (tgt := 37) C dX10_year_68 (by decide) ?_
              have hgy177 := (hfvy174 (i) (ne_o (i := i) (c := 0) (d := 1) rfl)).trans hg_y136
              have hMy178 : okMr cs ad gvy174 i (x) F9 rvy174 st op ai fa mu tb tp := okMr.upd fM hgy177 fM.2.1 (fun f _ => rfl) hcvy174 (hAy175.mono (by omega)) (fun j a b => by
                  exact Or.inl (by rw [hfvy174 _ (by omega)]))
              have hFF : (∀ f, f ≠ 59 → F9 f = F f) := fun f n59 => fF f n59
              have hey179 : F9 13 = F9 13 := rfl
              have hey180 : F9 14 = F9 14 := rfl
              refine z_lv (lv' := [(0, .ref (ad i)), (2, .int (zI ((ny162 : Int) + 1)))]) [1, 0] rfl ?_
              exact ih_lp1 _ (by omega) ((ny162 : Int) + 1) _ _ gvy174 rfl hMy178 hFF hcy173 ((fun j a => ((hyvy174 j (by omega) (by omega) (by omega) (by omega))).trans (fR j a))) (fun j j1 => by rw [hfvy174 _ (by omega)]; exact f3 j j1) (by omega) (by omega)
      have hgy181 := (hfvy24 (i + 1) (ne_o (i := i) (c := 1) (d := 0) rfl)).trans ha1
      have hFy182 : ∀ f, f ≠ 59 → Fvy24 f = F f := fun f n59 => (hFvy24 f n59)
      have hey183 : Fvy24 13 = F 13 := (hFvy24 13 (by decide))
      have hey184 : Fvy24 14 = F 14 := (hFvy24 14 (by decide))
      have hey185 : Fvy24 15 = F 15 := (hFvy24 15 (by decide))
      have hey186 : Fvy24 16 = F 16 := (hFvy24 16 (by decide))
      have hey187 : Fvy24 17 = F 17 := (hFvy24 17 (by decide))
      have hey188 : Fvy24 18 = F 18 := (hFvy24 18 (by decide))
      have hey189 : Fvy24 19 = F 19 := (hFvy24 19 (by decide))
      have hey190 : Fvy24 20 = F 20 := (hFvy24 20 (by decide))
      have hey191 : Fvy24 21 = F 21 := (hFvy24 21 (by decide))
      have hey192 : Fvy24 23 = F 23 := (hFvy24 23 (by decide))
      have hey193 : Fvy24 25 = F 25 := (hFvy24 25 (by decide))
      have hey194 : Fvy24 27 = F 27 := (hFvy24 27 (by decide))
      have hey195 : Fvy24 28 = F 28 := (hFvy24 28 (by decide))
      have hey196 : Fvy24 29 = F 29 := (hFvy24 29 (by decide))
      have hKy197 : okF Fvy24 := okF.mv hM.2.1 hey183 hey184 hey185 hey186 hey187 hey188 hey189 hey190 hey191 hey192 hey193 hey194 hey195 hey196
      have hMy198 : okMr cs ad gvy24 i (x) Fvy24 r st op ai fa mu tb tp := okMr.upd hM hcvy24 hKy197 (fun f a => hFy182 f (by omega)) hgy181 (hA.mono (by omega)) (fun j a b => by
          exact Or.inl (by rw [hfvy24 _ (by omega)]))
      have hFy199 : ∀ f, f ≠ 59 → Fvy24 f = F f := fun f n59 => (hFvy24 f n59)
      have hFF : (∀ f, f ≠ 59 → Fvy24 f = F f) := fun f n59 => (hFy199 f n59)
      have hey200 : Fvy24 13 = F 13 := (hFvy24 13 (by decide))
      have hey201 : Fvy24 14 = F 14 := (hFvy24 14 (by decide))
      refine z_lv (lv' := [(0, .ref (ad i)), (2, .int (zI (0)))]) [2, 0] rfl ?_
      exact lp1 _ (0) _ _ gvy24 rfl hMy198 hFF hW ((fun j _ => rfl)) (fun j j1 => by rw [hfvy24 _ (by omega)]) (by omega) (by omega)
  · refine z_aload_n C 1 dX10_year_12 rfl ?_
    refine z_sipush (z := 350) C dX10_year_13 (by decide) ?_
    refine z_aload_n C 1 dX10_year_16 rfl ?_
    refine z_bipush (z := 6) C dX10_year_17 (by decide) ?_
    refine z_cV (As := [.int (zI (6))]) (rest := [.int (zI (350)), .ref (ad i)]) (ci := 12) C (c_X10_draw l D A cs tt N ad _ i hN _ hcvy24 (6) (by omega)) (lt_A0 hN rfl) hay1 hcvy24 rfl rfl mv_yX10_draw q_2103 hd_yX10_draw (by decide) (Nat.le_of_ble_eq_true rfl) (by decide) dX10_year_19 rfl (kI0 fun vy202 gvy202 hvy202 => ?_)
    obtain ⟨hrvy202, ⟨Fvy202, hcvy202, hFvy202⟩, hfvy202⟩ := hvy202
    refine z_iconst (z := 1) C dX10_year_22 rfl ?_
    refine z_iadd C dX10_year_23 ?_
    have hey204 : Fvy202 13 = F 13 := ((hFvy202 13 (by decide)).trans (hFvy24 13 (by decide)))
    have hey205 : Fvy202 14 = F 14 := ((hFvy202 14 (by decide)).trans (hFvy24 14 (by decide)))
    have hey206 : Fvy202 25 = F 25 := ((hFvy202 25 (by decide)).trans (hFvy24 25 (by decide)))
    have hey207 : Fvy202 27 = F 27 := ((hFvy202 27 (by decide)).trans (hFvy24 27 (by decide)))
    have hey208 : Fvy202 28 = F 28 := ((hFvy202 28 (by decide)).trans (hFvy24 28 (by decide)))
    have hey209 : Fvy202 29 = F 29 := ((hFvy202 29 (by decide)).trans (hFvy24 29 (by decide)))
    have hEvy203 : okEnv Fvy202 _ _ _ _ _ := ⟨by omega, hop, hai, hfa, hT, hT1⟩
    have hgy210 := (hfvy24 (i + 1) (ne_o (i := i) (c := 1) (d := 0) rfl)).trans ha1
    have hgy211 := (hfvy202 (i + 1) (ne_o (i := i) (c := 1) (d := 0) rfl)).trans hgy210
    have hgy213 := (hfvy24 (i + 3) (ne_o (i := i) (c := 3) (d := 0) rfl)).trans ha3
    have hgy214 := (hfvy202 (i + 3) (ne_o (i := i) (c := 3) (d := 0) rfl)).trans hgy213
    have hgy215 := (hfvy24 (i + 4) (ne_o (i := i) (c := 4) (d := 0) rfl)).trans ha4
    have hgy216 := (hfvy202 (i + 4) (ne_o (i := i) (c := 4) (d := 0) rfl)).trans hgy215
    have hgy217 := (hfvy24 (i + 5) (ne_o (i := i) (c := 5) (d := 0) rfl)).trans ha5
    have hgy218 := (hfvy202 (i + 5) (ne_o (i := i) (c := 5) (d := 0) rfl)).trans hgy217
    have hgy219 := (hfvy24 (i + 6) (ne_o (i := i) (c := 6) (d := 0) rfl)).trans ha6
    have hgy220 := (hfvy202 (i + 6) (ne_o (i := i) (c := 6) (d := 0) rfl)).trans hgy219
    have hgy221 := (hfvy24 (i + 7) (ne_o (i := i) (c := 7) (d := 0) rfl)).trans ha7
    have hgy222 := (hfvy202 (i + 7) (ne_o (i := i) (c := 7) (d := 0) rfl)).trans hgy221
    have hgy223 := (hfvy24 (i + 14) (ne_o (i := i) (c := 14) (d := 0) rfl)).trans ha14
    have hgy224 := (hfvy202 (i + 14) (ne_o (i := i) (c := 14) (d := 0) rfl)).trans hgy223
    have hgy225 := (hfvy24 (i + 15) (ne_o (i := i) (c := 15) (d := 0) rfl)).trans ha15
    have hgy226 := (hfvy202 (i + 15) (ne_o (i := i) (c := 15) (d := 0) rfl)).trans hgy225
    refine z_cV (As := [.int (zI (350)), .int (zI (vy202 + 1))]) (rest := []) (ci := 12) C (c_X10_goes l D A cs tt N ad _ i hN _ hcvy202 _ hgy211 _ hgy214 _ hgy216 _ hgy218 _ hgy220 _ hgy222 _ hgy224 _ hgy226 350 (by omega) hEvy203 (y) (by omega) hW (vy202 + 1) (by omega) (by omega) (by omega)) (lt_A0 hN rfl) hay1 hcvy202 rfl rfl mv_yX10_goes q_1881 hd_yX10_goes (by decide) (Nat.le_of_ble_eq_true rfl) (by decide) dX10_year_24 rfl (kV0 fun gvy212 hvy212 => ?_)
    obtain ⟨⟨rvy212, hcvy212, hwvy212, htvy212, hyvy212⟩, ⟨t4vy212, h4vy212⟩, ⟨t5vy212, h5vy212⟩, hfvy212⟩ := hvy212
    have hAy227 : okA rvy212 (x) := okA.tried hA (fun j a => hyvy212 j (by omega))
    obtain ⟨⟨hsyy228, htyy228, hnyy228, hpyy228⟩, hlyy228⟩ := okA.at0 hAy227
    simp only [Nat.zero_add] at hsyy228 hnyy228 hpyy228
    have hmn : ∀ s, s < 4 → 0 ≤ rvy212 (6 + 86 * s) ∧ rvy212 (6 + 86 * s) ≤ 12 := fun s hs => (hsyy228 s hs).1
    have h5 : 0 ≤ rvy212 5 ∧ rvy212 5 ≤ 6 := hpyy228
    refine z_goto (tgt := 143) C dX10_year_27 (by decide) ?_
    have hgy229 := (hfvy212 (i) (ne_o (i := i) (c := 0) (d := 1) rfl) (ne_o (i := i) (c := 0) (d := 14) rfl) (ne_o (i := i) (c := 0) (d := 15) rfl)).trans hcvy202
    have hFy230 : ∀ f, f ≠ 59 → Fvy202 f = F f := fun f n59 => ((hFvy202 f n59).trans (hFvy24 f n59))
    have hey231 : Fvy202 13 = F 13 := ((hFvy202 13 (by decide)).trans (hFvy24 13 (by decide)))
    have hey232 : Fvy202 14 = F 14 := ((hFvy202 14 (by decide)).trans (hFvy24 14 (by decide)))
    have hey233 : Fvy202 15 = F 15 := ((hFvy202 15 (by decide)).trans (hFvy24 15 (by decide)))
    have hey234 : Fvy202 16 = F 16 := ((hFvy202 16 (by decide)).trans (hFvy24 16 (by decide)))
    have hey235 : Fvy202 17 = F 17 := ((hFvy202 17 (by decide)).trans (hFvy24 17 (by decide)))
    have hey236 : Fvy202 18 = F 18 := ((hFvy202 18 (by decide)).trans (hFvy24 18 (by decide)))
    have hey237 : Fvy202 19 = F 19 := ((hFvy202 19 (by decide)).trans (hFvy24 19 (by decide)))
    have hey238 : Fvy202 20 = F 20 := ((hFvy202 20 (by decide)).trans (hFvy24 20 (by decide)))
    have hey239 : Fvy202 21 = F 21 := ((hFvy202 21 (by decide)).trans (hFvy24 21 (by decide)))
    have hey240 : Fvy202 23 = F 23 := ((hFvy202 23 (by decide)).trans (hFvy24 23 (by decide)))
    have hey241 : Fvy202 25 = F 25 := ((hFvy202 25 (by decide)).trans (hFvy24 25 (by decide)))
    have hey242 : Fvy202 27 = F 27 := ((hFvy202 27 (by decide)).trans (hFvy24 27 (by decide)))
    have hey243 : Fvy202 28 = F 28 := ((hFvy202 28 (by decide)).trans (hFvy24 28 (by decide)))
    have hey244 : Fvy202 29 = F 29 := ((hFvy202 29 (by decide)).trans (hFvy24 29 (by decide)))
    have hKy245 : okF Fvy202 := okF.mv hM.2.1 hey231 hey232 hey233 hey234 hey235 hey236 hey237 hey238 hey239 hey240 hey241 hey242 hey243 hey244
    have hMy246 : okMr cs ad gvy212 i (x) Fvy202 rvy212 st op ai fa mu tb tp := okMr.upd hM hgy229 hKy245 (fun f a => hFy230 f (by omega)) hcvy212 (hAy227.mono (by omega)) (fun j a b => by
        by_cases e0 : j = i + 14
        · exact Or.inr ⟨14, _, e0, lsP.l (by decide), by rw [e0]; exact h4vy212⟩
        by_cases e1 : j = i + 15
        · exact Or.inr ⟨15, _, e1, lsP.l (by decide), by rw [e1]; exact h5vy212⟩
        exact Or.inl (by rw [hfvy212 _ (by omega) (by omega) (by omega)]; rw [hfvy202 _ (by omega)]; rw [hfvy24 _ (by omega)]))
    have hFy247 : ∀ f, f ≠ 59 → Fvy202 f = F f := fun f n59 => ((hFvy202 f n59).trans (hFvy24 f n59))
    exact z_vret C hr hlk dX10_year_143 (by decide) (by decide) ⟨rfl, rfl, rfl, ⟨_, _, hMy246, fun f n59 => (hFy247 f n59), hwvy212.mono (by omega), by omega, (fun j a9 => (hyvy212 j (by omega)).trans ((fun j _ => rfl) j a9))⟩, fun j j1 => by rw [hfvy212 _ (by omega) (by omega) (by omega)]; rw [hfvy202 _ (by omega)]; rw [hfvy24 _ (by omega)]⟩

set_option maxRecDepth 100000 in
set_option maxHeartbeats 4000000 in
theorem c_X10_years (l : Launch) (D : va_G) (A : Nat → Prop) (cs : Nat → ClassId) (tt : Nat) (N : Nat) (ad : Nat → Nat) (g : Nat → va_E) (i : Nat) (hN : i + 30 ≤ N) (x : Int) (hx : 0 ≤ x ∧ x ≤ 512) (F r : Nat → Int) {st op ai fa mu tb tp : Nat → Int} (hM : okMr cs ad g i x F r st op ai fa mu tb tp) (hPl : F 25 = 0 ∧ F 26 = -1 ∧ F 27 = -1 ∧ F 29 = 0) (z : Int) (hz : -2147483648 ≤ z ∧ z ≤ 2147483647) (z1 : Int) (hz1 : -2147483648 ≤ z1 ∧ z1 ≤ 2147483647) (z2 : Int) (hz2 : -2147483648 ≤ z2 ∧ z2 ≤ 2147483647) : zM l yX10_years cX10_years 6 (some .int) ({ frames := 13, cells := 0, slots := 0, locals := 780 } : Room) D A cs tt N ad g [.ref (ad i), .int (zI (z)), .int (zI (z1)), .int (zI (z2))] (rI0 N ad fun q g' => (-2147483648 ≤ q ∧ q ≤ 2147483647) ∧ (∃ F' r' : Nat → Int, okMr cs ad g' i (x + 1) F' r' st op ai fa mu tb tp ∧ (F' 13 = F 13 ∧ F' 14 = F 14 ∧ F' 15 = F 15 ∧ F' 16 = F 16 ∧ F' 17 = F 17 ∧ F' 18 = F 18 ∧ F' 19 = F 19 ∧ F' 20 = F 20 ∧ F' 21 = F 21 ∧ F' 23 = F 23 ∧ F' 24 = F 24) ∧ (F' 25 = 0 ∧ F' 26 = -1 ∧ F' 27 = -1 ∧ F' 29 = 0) ∧ (∀ j, j < 350 ∨ 700 ≤ j → r' j = r j)) ∧ ∀ j, j < i ∨ i + 30 ≤ j ∨ (i + 8 ≤ j ∧ j ≤ i + 12) → g' j = g j) := by
  obtain ⟨hg, ⟨⟨e13, e14, e25, e27, e29⟩, k15, k16, k17, k18, k19, k20, k23, k21⟩, hRD, hTx, hA, ns, nh, nd, rf, pi, te, ki, li, ok1, ok2, fo, dd, dps, ⟨ha1, ha2, ha3, ha4, ha5, ha6, ha7, ha8, ha9, ha10, ha11, ha12, ha13, ha14, ha15, ha24, ha25, ha26, ha27, ha28, ha29⟩, hEv, hPt, hns, htp⟩ := id hM
  obtain ⟨-, hop, hai, hfa, hT, hT1⟩ := id hEv
  have hay1 : zAt ad (i) (ad i) := rfl
  have hay2 : zAt ad (i + 1) (ad (i + 1)) := rfl
  have hay3 : zAt ad (i + 2) (ad (i + 2)) := rfl
  have hay4 : zAt ad (i + 3) (ad (i + 3)) := rfl
  have hay5 : zAt ad (i + 4) (ad (i + 4)) := rfl
  have hay6 : zAt ad (i + 5) (ad (i + 5)) := rfl
  have hay7 : zAt ad (i + 6) (ad (i + 6)) := rfl
  have hay8 : zAt ad (i + 7) (ad (i + 7)) := rfl
  have hay9 : zAt ad (i + 8) (ad (i + 8)) := rfl
  have hay10 : zAt ad (i + 9) (ad (i + 9)) := rfl
  have hay11 : zAt ad (i + 10) (ad (i + 10)) := rfl
  have hay12 : zAt ad (i + 11) (ad (i + 11)) := rfl
  have hay13 : zAt ad (i + 12) (ad (i + 12)) := rfl
  have hay14 : zAt ad (i + 13) (ad (i + 13)) := rfl
  have hay15 : zAt ad (i + 14) (ad (i + 14)) := rfl
  have hay16 : zAt ad (i + 15) (ad (i + 15)) := rfl
  have hay17 : zAt ad (i + 24) (ad (i + 24)) := rfl
  have hay18 : zAt ad (i + 25) (ad (i + 25)) := rfl
  have hay19 : zAt ad (i + 26) (ad (i + 26)) := rfl
  have hay20 : zAt ad (i + 27) (ad (i + 27)) := rfl
  have hay21 : zAt ad (i + 28) (ad (i + 28)) := rfl
  have hay22 : zAt ad (i + 29) (ad (i + 29)) := rfl
  obtain ⟨⟨hsyy23, htyy23, hnyy23, hpyy23⟩, hlyy23⟩ := okA.at0 hA
  simp only [Nat.zero_add] at hsyy23 hnyy23 hpyy23
  have hmn : ∀ s, s < 4 → 0 ≤ r (6 + 86 * s) ∧ r (6 + 86 * s) ≤ 12 := fun s hs => (hsyy23 s hs).1
  have h5 : 0 ≤ r 5 ∧ r 5 ≤ 6 := hpyy23
  obtain ⟨hp25, hp26, hp27, hp29⟩ := id hPl
  refine z_of (by decide) (Nat.le_of_ble_eq_true rfl) ?_
  intro pZ eZ sZ mZ below meth cZ C hr hlk hnm
  refine z_lv (lv' := [(0, .ref (ad i)), (1, .int (zI (z))), (2, .int (zI (z1))), (3, .int (zI (z2)))]) [0, 1, 2, 3] rfl ?_
  refine z_aload_n C 0 dX10_years_0 rfl ?_
  refine z_iconst (z := 0) C dX10_years_1 rfl ?_
  refine z_put (fs' := mF ad (i) (uZ F 12 (0))) C (lt_A0 hN rfl) hay1 hg tyX10 tyX10_ok nmX10 rfl inA_X10 12 (by decide) q_1471 rfl rfl rfl rfl (Nat.le_of_ble_eq_true rfl) rfl dX10_years_2 (fun gy24 egy25 => ?_)
  have hgy26 := up_s egy25
  refine z_aload_n C 0 dX10_years_5 rfl ?_
  refine z_iload_n C 3 dX10_years_6 rfl ?_
  refine z_iconst (z := 0) C dX10_years_7 rfl ?_
  refine z_iconst (z := 2) C dX10_years_8 rfl ?_
  refine z_cS (As := [.int (zI (z2)), .int (zI (0)), .int (zI (2))]) (rest := [.ref (ad i)]) C (c_X10_within l D A cs tt N ad _ (z2) (by omega) (0) (by omega) (2) (by omega)) ms_yX10_within q_1686 hd_yX10_within (by decide) (Nat.le_of_ble_eq_true rfl) (by decide) dX10_years_9 rfl (kI0 fun vy27 gvy27 hvy27 => ?_)
  obtain ⟨hvy27, rfl⟩ := hvy27
  rcases hvy27 with ⟨rfl, hxvy27⟩ | ⟨rfl, hxvy27⟩
  · refine z_iconst (z := 1) C dX10_years_12 rfl ?_
    have hey29 : (uZ F 12 (0)) 12 = 0 := (uZ_s _ _ _)
    refine z_cV (As := [.int (zI (1)), .int (zI (1))]) (rest := []) (ci := 12) C (c_X10_right l D A cs tt N ad _ i hN _ hgy26 (by omega) (1) (by omega) (1) (by omega)) (lt_A0 hN rfl) hay1 hgy26 rfl rfl mv_yX10_right q_1648 hd_yX10_right (by decide) (Nat.le_of_ble_eq_true rfl) (by decide) dX10_years_13 rfl (kI0 fun vy28 gvy28 hvy28 => ?_)
    obtain ⟨hrvy28, ⟨Fvy28, hcvy28, htvy28, hFvy28⟩, hfvy28⟩ := hvy28
    rcases (show vy28 = 1 ∨ vy28 = 0 by omega) with rfl | rfl
    · refine z_if_eq (tgt := 34) C dX10_years_16 (by decide) (by omega) (fun h => absurd h (by omega)) (fun _ => ?_)
      refine z_aload_n C 0 dX10_years_19 rfl ?_
      refine z_iload_n C 2 dX10_years_20 rfl ?_
      refine z_iconst (z := 0) C dX10_years_21 rfl ?_
      refine z_bipush (z := 30) C dX10_years_22 (by decide) ?_
      refine z_cS (As := [.int (zI (z1)), .int (zI (0)), .int (zI (30))]) (rest := [.ref (ad i)]) C (c_X10_within l D A cs tt N ad _ (z1) (by omega) (0) (by omega) (30) (by omega)) ms_yX10_within q_1686 hd_yX10_within (by decide) (Nat.le_of_ble_eq_true rfl) (by decide) dX10_years_24 rfl (kI0 fun vy30 gvy30 hvy30 => ?_)
      obtain ⟨hvy30, rfl⟩ := hvy30
      rcases hvy30 with ⟨rfl, hxvy30⟩ | ⟨rfl, hxvy30⟩
      · refine z_iconst (z := 2) C dX10_years_27 rfl ?_
        have hey32 : Fvy28 12 = Fvy28 12 := rfl
        refine z_cV (As := [.int (zI (1)), .int (zI (2))]) (rest := []) (ci := 12) C (c_X10_right l D A cs tt N ad _ i hN _ hcvy28 (by omega) (1) (by omega) (2) (by omega)) (lt_A0 hN rfl) hay1 hcvy28 rfl rfl mv_yX10_right q_1648 hd_yX10_right (by decide) (Nat.le_of_ble_eq_true rfl) (by decide) dX10_years_28 rfl (kI0 fun vy31 gvy31 hvy31 => ?_)
        obtain ⟨hrvy31, ⟨Fvy31, hcvy31, htvy31, hFvy31⟩, hfvy31⟩ := hvy31
        rcases (show vy31 = 1 ∨ vy31 = 0 by omega) with rfl | rfl
        · refine z_if_ne (tgt := 36) C dX10_years_31 (by decide) (by omega) (fun _ => ?_) (fun h => absurd h (by omega))
          refine z_aload_n C 0 dX10_years_36 rfl ?_
          have hgy33 := up_n egy25 ha1 (ne_o (i := i) (c := 1) (d := 0) rfl)
          have hgy34 := (hfvy28 (i + 1) (ne_o (i := i) (c := 1) (d := 0) rfl)).trans hgy33
          have hgy35 := (hfvy31 (i + 1) (ne_o (i := i) (c := 1) (d := 0) rfl)).trans hgy34
          refine z_cV (As := []) (rest := []) (ci := 12) C (c_X10_tries l D A cs tt N ad _ i hN _ hcvy31 _ hgy35 (x) hA) (lt_A0 hN rfl) hay1 hcvy31 rfl rfl mv_yX10_tries q_1980 hd_yX10_tries (by decide) (Nat.le_of_ble_eq_true rfl) (by decide) dX10_years_37 rfl (kV0 fun gvy36 hvy36 => ?_)
          obtain ⟨⟨rvy36, hdvy36, hAvy36, hWvy36, h0vy36, hyvy36⟩, hfvy36⟩ := hvy36
          obtain ⟨⟨hsyy37, htyy37, hnyy37, hpyy37⟩, hlyy37⟩ := okA.at0 hAvy36
          simp only [Nat.zero_add] at hsyy37 hnyy37 hpyy37
          have hmn : ∀ s, s < 4 → 0 ≤ rvy36 (6 + 86 * s) ∧ rvy36 (6 + 86 * s) ≤ 12 := fun s hs => (hsyy37 s hs).1
          have h5 : 0 ≤ rvy36 5 ∧ rvy36 5 ≤ 6 := hpyy37
          refine z_aload_n C 0 dX10_years_40 rfl ?_
          refine z_iload_n C 1 dX10_years_41 rfl ?_
          have hgy38 := (hfvy36 (i) (ne_o (i := i) (c := 0) (d := 1) rfl)).trans hcvy31
          refine z_put (fs' := mF ad (i) (uZ Fvy31 59 (z))) C (lt_A0 hN rfl) hay1 hgy38 tyX10 tyX10_ok nmX10 rfl inA_X10 59 (by decide) q_1518 rfl rfl rfl rfl (Nat.le_of_ble_eq_true rfl) rfl dX10_years_42 (fun gy39 egy40 => ?_)
          have hgy41 := up_s egy40
          refine z_iconst (z := 0) C dX10_years_45 rfl ?_
          refine z_istore (lv' := [(4, .int (zI (0))), (0, .ref (ad i)), (1, .int (zI (z))), (2, .int (zI (z1))), (3, .int (zI (z2)))]) C dX10_years_46 (by decide) rfl ?_
          have lp1 : ∀ (n9 : Nat) (kk : Int) (F9 : Nat → Int) (r9 : Nat → Int) (g1 : Nat → va_E), (31 - kk).toNat = n9 → (okMr cs ad g1 i x F9 r9 st op ai fa mu tb tp) → ((∀ f, f ≠ 12 → f ≠ 59 → F9 f = F f)) → (okW r9 350 (x + kk)) → ((∀ j, j < 350 ∨ 700 ≤ j → r9 j = r j)) → (∀ j, j < i ∨ i + 30 ≤ j ∨ (i + 8 ≤ j ∧ j ≤ i + 12) → g1 j = g j) → (0 ≤ kk ∧ kk ≤ z1) → (r9 350 ≤ 2000 + 6 * kk) → zV pZ l eZ ({ frames := 13, cells := 0, slots := 0, locals := 780 } : Room) sZ mZ ([.ref (ad i), .int (zI (z)), .int (zI (z1)), .int (zI (z2))] : List Value).toArray below meth cZ (MQ below (zPost D A (rI0 N ad fun q g' => (-2147483648 ≤ q ∧ q ≤ 2147483647) ∧ (∃ F' r' : Nat → Int, okMr cs ad g' i (x + 1) F' r' st op ai fa mu tb tp ∧ (F' 13 = F 13 ∧ F' 14 = F 14 ∧ F' 15 = F 15 ∧ F' 16 = F 16 ∧ F' 17 = F 17 ∧ F' 18 = F 18 ∧ F' 19 = F 19 ∧ F' 20 = F 20 ∧ F' 21 = F 21 ∧ F' 23 = F 23 ∧ F' 24 = F 24) ∧ (F' 25 = 0 ∧ F' 26 = -1 ∧ F' 27 = -1 ∧ F' 29 = 0) ∧ (∀ j, j < 350 ∨ 700 ≤ j → r' j = r j)) ∧ ∀ j, j < i ∨ i + 30 ≤ j ∨ (i + 8 ≤ j ∧ j ≤ i + 12) → g' j = g j)) ([.ref (ad i), .int (zI (z)), .int (zI (z1)), .int (zI (z2))] : List Value).toArray sZ ({ frames := 13, cells := 0, slots := 0, locals := 780 } : Room).cells ({ frames := 13, cells := 0, slots := 0, locals := 780 } : Room).slots A) D A 6 (N) ad g1 (0) (0) 48 [(0, .ref (ad i)), (2, .int (zI (z1))), (3, .int (zI (z2))), (4, .int (zI (kk)))] [] := by
            intro n9
            induction n9 using Nat.strongRecOn with
            | ind n9 ih_lp1 =>
              intro kk F9 r9 g1 hm9 fM fF fW fR f3 hvlp10 hvlp11
              obtain ⟨hg_y42, ⟨⟨e13_y42, e14_y42, e25_y42, e27_y42, e29_y42⟩, k15_y42, k16_y42, k17_y42, k18_y42, k19_y42, k20_y42, k23_y42, k21_y42⟩, hRD_y42, hTx_y42, hA_y42, ns_y42, nh_y42, nd_y42, rf_y42, pi_y42, te_y42, ki_y42, li_y42, ok1_y42, ok2_y42, fo_y42, dd_y42, dps_y42, ⟨ha1_y42, ha2_y42, ha3_y42, ha4_y42, ha5_y42, ha6_y42, ha7_y42, ha8_y42, ha9_y42, ha10_y42, ha11_y42, ha12_y42, ha13_y42, ha14_y42, ha15_y42, ha24_y42, ha25_y42, ha26_y42, ha27_y42, ha28_y42, ha29_y42⟩, hEv_y42, hPt_y42, hns_y42, htp_y42⟩ := id fM
              obtain ⟨-, hop_y42, hai_y42, hfa_y42, hT_y42, hT1_y42⟩ := id hEv_y42
              have e14 := e14_y42
              have e25 := e25_y42
              have e27 := e27_y42
              have e29 := e29_y42
              have hop := hop_y42
              have hai := hai_y42
              have hfa := hfa_y42
              have hT := hT_y42
              have hT1 := hT1_y42
              have hEv := hEv_y42
              have htp := htp_y42
              have hns := hns_y42
              have hPt := hPt_y42
              have hay43 : zAt ad (i) (ad i) := rfl
              have hay44 : zAt ad (i + 1) (ad (i + 1)) := rfl
              have hay45 : zAt ad (i + 2) (ad (i + 2)) := rfl
              have hay46 : zAt ad (i + 3) (ad (i + 3)) := rfl
              have hay47 : zAt ad (i + 4) (ad (i + 4)) := rfl
              have hay48 : zAt ad (i + 5) (ad (i + 5)) := rfl
              have hay49 : zAt ad (i + 6) (ad (i + 6)) := rfl
              have hay50 : zAt ad (i + 7) (ad (i + 7)) := rfl
              have hay51 : zAt ad (i + 8) (ad (i + 8)) := rfl
              have hay52 : zAt ad (i + 9) (ad (i + 9)) := rfl
              have hay53 : zAt ad (i + 10) (ad (i + 10)) := rfl
              have hay54 : zAt ad (i + 11) (ad (i + 11)) := rfl
              have hay55 : zAt ad (i + 12) (ad (i + 12)) := rfl
              have hay56 : zAt ad (i + 13) (ad (i + 13)) := rfl
              have hay57 : zAt ad (i + 14) (ad (i + 14)) := rfl
              have hay58 : zAt ad (i + 15) (ad (i + 15)) := rfl
              have hay59 : zAt ad (i + 24) (ad (i + 24)) := rfl
              have hay60 : zAt ad (i + 25) (ad (i + 25)) := rfl
              have hay61 : zAt ad (i + 26) (ad (i + 26)) := rfl
              have hay62 : zAt ad (i + 27) (ad (i + 27)) := rfl
              have hay63 : zAt ad (i + 28) (ad (i + 28)) := rfl
              have hay64 : zAt ad (i + 29) (ad (i + 29)) := rfl
              obtain ⟨⟨hsyy65, htyy65, hnyy65, hpyy65⟩, hlyy65⟩ := okA.at0 hA_y42
              simp only [Nat.zero_add] at hsyy65 hnyy65 hpyy65
              have hmn : ∀ s, s < 4 → 0 ≤ r9 (6 + 86 * s) ∧ r9 (6 + 86 * s) ≤ 12 := fun s hs => (hsyy65 s hs).1
              have h5 : 0 ≤ r9 5 ∧ r9 5 ≤ 6 := hpyy65
              have h13e : F9 13 = F 13 := fF 13 (by decide) (by decide)
              have h14e : F9 14 = F 14 := fF 14 (by decide) (by decide)
              have h17e : F9 17 = F 17 := fF 17 (by decide) (by decide)
              have h20e : F9 20 = F 20 := fF 20 (by decide) (by decide)
              have h21e : F9 21 = F 21 := fF 21 (by decide) (by decide)
              have h23e : F9 23 = F 23 := fF 23 (by decide) (by decide)
              have h24e : F9 24 = F 24 := fF 24 (by decide) (by decide)
              have h15e : F9 15 = F 15 := fF 15 (by decide) (by decide)
              have h16e : F9 16 = F 16 := fF 16 (by decide) (by decide)
              have h18e : F9 18 = F 18 := fF 18 (by decide) (by decide)
              have h19e : F9 19 = F 19 := fF 19 (by decide) (by decide)
              have h25e : F9 25 = F 25 := fF 25 (by decide) (by decide)
              have h26e : F9 26 = F 26 := fF 26 (by decide) (by decide)
              have h27e : F9 27 = F 27 := fF 27 (by decide) (by decide)
              have h29e : F9 29 = F 29 := fF 29 (by decide) (by decide)
              have hW2 := fW.2.1
              refine z_iload C 3 dX10_years_48 rfl ?_
              refine z_iload_n C 1 dX10_years_50 rfl ?_
              refine z_icmp_ge (tgt := 64) C dX10_years_51 (by decide) (by omega) (by omega) (fun hby66 => ?_) (fun hby66 => ?_)
              · refine z_iload_n C 2 dX10_years_64 rfl ?_
                refine z_iconst (z := 2) C dX10_years_65 rfl ?_
                refine z_icmp_ge (tgt := 107) C dX10_years_66 (by decide) (by omega) (by omega) (fun hby67 => ?_) (fun hby67 => ?_)
                · refine z_iconst (z := 0) C dX10_years_107 rfl ?_
                  refine z_istore (lv' := [(4, .int (zI (0))), (0, .ref (ad i)), (2, .int (zI (z1))), (3, .int (zI (z2)))]) C dX10_years_108 (by decide) rfl ?_
                  refine z_iconst (z := 0) C dX10_years_110 rfl ?_
                  refine z_istore (lv' := [(5, .int (zI (0))), (4, .int (zI (0))), (0, .ref (ad i)), (2, .int (zI (z1))), (3, .int (zI (z2)))]) C dX10_years_111 (by decide) rfl ?_
                  have lp2 : ∀ (n9 : Nat) (de : Int) (ss : Int) (F9b : Nat → Int) (r9b : Nat → Int) (g1 : Nat → va_E), (5 - ss).toNat = n9 → (okMr cs ad g1 i x F9b r9b st op ai fa mu tb tp) → ((∀ f, f ≠ 12 → f ≠ 59 → F9b f = F f)) → (okW r9b 350 (x + 30)) → ((∀ j, j < 350 ∨ 700 ≤ j → r9b j = r j)) → (∀ j, j < i ∨ i + 30 ≤ j ∨ (i + 8 ≤ j ∧ j ≤ i + 12) → g1 j = g j) → (-2147483648 ≤ de ∧ de ≤ 2147483647) → (0 ≤ ss ∧ ss ≤ F 13) → zV pZ l eZ ({ frames := 13, cells := 0, slots := 0, locals := 780 } : Room) sZ mZ ([.ref (ad i), .int (zI (z)), .int (zI (z1)), .int (zI (z2))] : List Value).toArray below meth cZ (MQ below (zPost D A (rI0 N ad fun q g' => (-2147483648 ≤ q ∧ q ≤ 2147483647) ∧ (∃ F' r' : Nat → Int, okMr cs ad g' i (x + 1) F' r' st op ai fa mu tb tp ∧ (F' 13 = F 13 ∧ F' 14 = F 14 ∧ F' 15 = F 15 ∧ F' 16 = F 16 ∧ F' 17 = F 17 ∧ F' 18 = F 18 ∧ F' 19 = F 19 ∧ F' 20 = F 20 ∧ F' 21 = F 21 ∧ F' 23 = F 23 ∧ F' 24 = F 24) ∧ (F' 25 = 0 ∧ F' 26 = -1 ∧ F' 27 = -1 ∧ F' 29 = 0) ∧ (∀ j, j < 350 ∨ 700 ≤ j → r' j = r j)) ∧ ∀ j, j < i ∨ i + 30 ≤ j ∨ (i + 8 ≤ j ∧ j ≤ i + 12) → g' j = g j)) ([.ref (ad i), .int (zI (z)), .int (zI (z1)), .int (zI (z2))] : List Value).toArray sZ ({ frames := 13, cells := 0, slots := 0, locals := 780 } : Room).cells ({ frames := 13, cells := 0, slots := 0, locals := 780 } : Room).slots A) D A 6 (N) ad g1 (0) (0) 113 [(0, .ref (ad i)), (4, .int (zI (de))), (5, .int (zI (ss)))] [] := by
                    intro n9
                    induction n9 using Nat.strongRecOn with
                    | ind n9 ih_lp2 =>
                      intro de ss F9b r9b g1 hm9 fMb fFb fWb fRb f3 hvlp20 hvlp21
                      obtain ⟨hg_y68, ⟨⟨e13_y68, e14_y68, e25_y68, e27_y68, e29_y68⟩, k15_y68, k16_y68, k17_y68, k18_y68, k19_y68, k20_y68, k23_y68, k21_y68⟩, hRD_y68, hTx_y68, hA_y68, ns_y68, nh_y68, nd_y68, rf_y68, pi_y68, te_y68, ki_y68, li_y68, ok1_y68, ok2_y68, fo_y68, dd_y68, dps_y68, ⟨ha1_y68, ha2_y68, ha3_y68, ha4_y68, ha5_y68, ha6_y68, ha7_y68, ha8_y68, ha9_y68, ha10_y68, ha11_y68, ha12_y68, ha13_y68, ha14_y68, ha15_y68, ha24_y68, ha25_y68, ha26_y68, ha27_y68, ha28_y68, ha29_y68⟩, hEv_y68, hPt_y68, hns_y68, htp_y68⟩ := id fMb
                      obtain ⟨-, hop_y68, hai_y68, hfa_y68, hT_y68, hT1_y68⟩ := id hEv_y68
                      have e14 := e14_y68
                      have e25 := e25_y68
                      have e27 := e27_y68
                      have e29 := e29_y68
                      have hop := hop_y68
                      have hai := hai_y68
                      have hfa := hfa_y68
                      have hT := hT_y68
                      have hT1 := hT1_y68
                      have hEv := hEv_y68
                      have htp := htp_y68
                      have hns := hns_y68
                      have hPt := hPt_y68
                      have hay69 : zAt ad (i) (ad i) := rfl
                      have hay70 : zAt ad (i + 1) (ad (i + 1)) := rfl
                      have hay71 : zAt ad (i + 2) (ad (i + 2)) := rfl
                      have hay72 : zAt ad (i + 3) (ad (i + 3)) := rfl
                      have hay73 : zAt ad (i + 4) (ad (i + 4)) := rfl
                      have hay74 : zAt ad (i + 5) (ad (i + 5)) := rfl
                      have hay75 : zAt ad (i + 6) (ad (i + 6)) := rfl
                      have hay76 : zAt ad (i + 7) (ad (i + 7)) := rfl
                      have hay77 : zAt ad (i + 8) (ad (i + 8)) := rfl
                      have hay78 : zAt ad (i + 9) (ad (i + 9)) := rfl
                      have hay79 : zAt ad (i + 10) (ad (i + 10)) := rfl
                      have hay80 : zAt ad (i + 11) (ad (i + 11)) := rfl
                      have hay81 : zAt ad (i + 12) (ad (i + 12)) := rfl
                      have hay82 : zAt ad (i + 13) (ad (i + 13)) := rfl
                      have hay83 : zAt ad (i + 14) (ad (i + 14)) := rfl
                      have hay84 : zAt ad (i + 15) (ad (i + 15)) := rfl
                      have hay85 : zAt ad (i + 24) (ad (i + 24)) := rfl
                      have hay86 : zAt ad (i + 25) (ad (i + 25)) := rfl
                      have hay87 : zAt ad (i + 26) (ad (i + 26)) := rfl
                      have hay88 : zAt ad (i + 27) (ad (i + 27)) := rfl
                      have hay89 : zAt ad (i + 28) (ad (i + 28)) := rfl
                      have hay90 : zAt ad (i + 29) (ad (i + 29)) := rfl
                      obtain ⟨⟨hsyy91, htyy91, hnyy91, hpyy91⟩, hlyy91⟩ := okA.at0 hA_y68
                      simp only [Nat.zero_add] at hsyy91 hnyy91 hpyy91
                      have hmn : ∀ s, s < 4 → 0 ≤ r9b (6 + 86 * s) ∧ r9b (6 + 86 * s) ≤ 12 := fun s hs => (hsyy91 s hs).1
                      have h5 : 0 ≤ r9b 5 ∧ r9b 5 ≤ 6 := hpyy91
                      have h13be : F9b 13 = F 13 := fFb 13 (by decide) (by decide)
                      have h14be : F9b 14 = F 14 := fFb 14 (by decide) (by decide)
                      have h17be : F9b 17 = F 17 := fFb 17 (by decide) (by decide)
                      have h20be : F9b 20 = F 20 := fFb 20 (by decide) (by decide)
                      have h21be : F9b 21 = F 21 := fFb 21 (by decide) (by decide)
                      have h23be : F9b 23 = F 23 := fFb 23 (by decide) (by decide)
                      have h24be : F9b 24 = F 24 := fFb 24 (by decide) (by decide)
                      have h15be : F9b 15 = F 15 := fFb 15 (by decide) (by decide)
                      have h16be : F9b 16 = F 16 := fFb 16 (by decide) (by decide)
                      have h18be : F9b 18 = F 18 := fFb 18 (by decide) (by decide)
                      have h19be : F9b 19 = F 19 := fFb 19 (by decide) (by decide)
                      have h25be : F9b 25 = F 25 := fFb 25 (by decide) (by decide)
                      have h26be : F9b 26 = F 26 := fFb 26 (by decide) (by decide)
                      have h27be : F9b 27 = F 27 := fFb 27 (by decide) (by decide)
                      have h29be : F9b 29 = F 29 := fFb 29 (by decide) (by decide)
                      have hW2b := fWb.2.1
                      refine z_iload C 2 dX10_years_113 rfl ?_
                      refine z_aload_n C 0 dX10_years_115 rfl ?_
                      refine z_get (v := .int (zI (F9b 13))) C (lt_A0 hN rfl) hay69 hg_y68 rfl inA_X10 13 (by decide) q_1472 rfl (fv (F := F9b) (f := 13) rfl) dX10_years_116 ?_
                      refine z_icmp_ge (tgt := 143) C dX10_years_119 (by decide) (by omega) (by omega) (fun hby92 => ?_) (fun hby92 => ?_)
                      · refine z_iload C 1 dX10_years_143 rfl ?_
                        have hMy93 : okMr cs ad g1 i (x + 1) F9b r9b st op ai fa mu tb tp := okMr.upd fMb hg_y68 fMb.2.1 (fun f _ => rfl) ha1_y68 (hA_y68.mono (by omega)) (fun j a b => by
                            exact Or.inl (by rfl))
                        have hkpy94 : F9b 13 = F9b 13 := rfl
                        have hkpy95 : F9b 14 = F9b 14 := rfl
                        have hkpy96 : F9b 15 = F9b 15 := rfl
                        have hkpy97 : F9b 16 = F9b 16 := rfl
                        have hkpy98 : F9b 17 = F9b 17 := rfl
                        have hkpy99 : F9b 18 = F9b 18 := rfl
                        have hkpy100 : F9b 19 = F9b 19 := rfl
                        have hkpy101 : F9b 20 = F9b 20 := rfl
                        have hkpy102 : F9b 21 = F9b 21 := rfl
                        have hkpy103 : F9b 23 = F9b 23 := rfl
                        have hkpy104 : F9b 24 = F9b 24 := rfl
                        have hkpy105 : F9b 25 = F9b 25 := rfl
                        have hkpy106 : F9b 26 = F9b 26 := rfl
                        have hkpy107 : F9b 27 = F9b 27 := rfl
                        have hkpy108 : F9b 29 = F9b 29 := rfl
                        exact z_iret C hr hlk dX10_years_145 (by decide) (by decide) ⟨de, rfl, rfl, rfl, by omega, ⟨_, _, hMy93, ⟨(by omega), (by omega), (by omega), (by omega), (by omega), (by omega), (by omega), (by omega), (by omega), (by omega), (by omega)⟩, ⟨(by omega), (by omega), (by omega), (by omega)⟩, fRb⟩, fun j j1 => by exact f3 j j1⟩
                      · refine z_iload C 1 dX10_years_122 rfl ?_
                        refine z_aload_n C 0 dX10_years_124 rfl ?_
                        refine z_sipush (z := 350) C dX10_years_125 (by decide) ?_
                        refine z_iload C 2 dX10_years_128 rfl ?_
                        refine z_iconst (z := 3) C dX10_years_130 rfl ?_
                        obtain ⟨ny109, hny109⟩ : ∃ n9 : Nat, ss = (n9 : Int) := ⟨(ss).toNat, by omega⟩
                        rw [hny109]
                        obtain ⟨py110, hpy110⟩ : ∃ p9 : Nat, 350 + 6 + 86 * ny109 = p9 := ⟨_, rfl⟩
                        have hqy112 : qS r9b py110 := ((fWb.1 ny109 (by omega)).of (p2 := py110) (by omega)).q (by have hb9 := mBb (t := r9b 350 + (x + 30)) (by omega); omega)
                        have hmky113 := hqy112.1
                        refine z_cV (As := [.int (zI (350)), .int (zI ((ny109 : Int))), .int (zI (3))]) (rest := [.int (zI (de))]) (ci := 12) C (c_X10_sumA l D A cs tt N ad _ i hN _ hg_y68 _ ha1_y68 350 ny109 py110 hpy110 (by omega) (by omega) hqy112 3 (by omega)) (lt_A0 hN rfl) hay69 hg_y68 rfl rfl mv_yX10_sum q_1745 hd_yX10_sum (by decide) (Nat.le_of_ble_eq_true rfl) (by decide) dX10_years_131 rfl (kI0 fun vy111 gvy111 hvy111 => ?_)
                        obtain ⟨hvy111, rfl⟩ := hvy111
                        refine z_iadd C dX10_years_134 ?_
                        refine z_istore (lv' := [(4, .int (zI (de + vy111))), (0, .ref (ad i)), (5, .int (zI ((ny109 : Int))))]) C dX10_years_135 (by decide) rfl ?_
                        refine z_iinc (z := (ny109 : Int) + 1) (lv' := [(5, .int (zI ((ny109 : Int) + 1))), (4, .int (zI (de + vy111))), (0, .ref (ad i))]) (j := 2) C dX10_years_137 rfl rfl (by decide) rfl ?_
                        refine z_goto (tgt := 113) C dX10_years_140 (by decide) ?_
                        obtain ⟨xy114, exy115, hxy116⟩ := zI_of (zI (de + vy111))
                        rw [exy115]
                        have hMy117 : okMr cs ad g1 i (x) F9b r9b st op ai fa mu tb tp := okMr.upd fMb hg_y68 fMb.2.1 (fun f _ => rfl) ha1_y68 (hA_y68.mono (by omega)) (fun j a b => by
                            exact Or.inl (by rfl))
                        have hFFb : (∀ f, f ≠ 12 → f ≠ 59 → F9b f = F f) := fun f n12 n59 => fFb f n12 n59
                        have hey118 : F9b 13 = F9b 13 := rfl
                        have hey119 : F9b 14 = F9b 14 := rfl
                        refine z_lv (lv' := [(0, .ref (ad i)), (4, .int (zI (xy114))), (5, .int (zI ((ny109 : Int) + 1)))]) [2, 1, 0] rfl ?_
                        exact ih_lp2 _ (by omega) (xy114) ((ny109 : Int) + 1) _ _ g1 rfl hMy117 hFFb fWb (fRb) (fun j j1 => by exact f3 j j1) (by omega) (by omega)
                  have hMy120 : okMr cs ad g1 i (x) F9 r9 st op ai fa mu tb tp := okMr.upd fM hg_y42 fM.2.1 (fun f _ => rfl) ha1_y42 (hA_y42.mono (by omega)) (fun j a b => by
                      exact Or.inl (by rfl))
                  have hFFb : (∀ f, f ≠ 12 → f ≠ 59 → F9 f = F f) := fun f n12 n59 => fF f n12 n59
                  have hey121 : F9 13 = F9 13 := rfl
                  have hey122 : F9 14 = F9 14 := rfl
                  refine z_lv (lv' := [(0, .ref (ad i)), (4, .int (zI (0))), (5, .int (zI (0)))]) [2, 1, 0] rfl ?_
                  exact lp2 _ (0) (0) _ _ g1 rfl hMy120 hFFb (fW.mono (by omega)) (fR) (fun j j1 => by exact f3 j j1) (by omega) (by omega)
                · refine z_iload_n C 2 dX10_years_69 rfl ?_
                  refine z_if_ne (tgt := 91) C dX10_years_70 (by decide) (by omega) (fun hby123 => ?_) (fun hby123 => ?_)
                  · refine z_aload_n C 0 dX10_years_91 rfl ?_
                    refine z_get (v := .ref (ad (i + 1))) C (lt_A0 hN rfl) hay43 hg_y42 rfl inA_X10 0 (by decide) q_1459 rfl rfl dX10_years_92 ?_
                    refine z_sipush (z := 353) C dX10_years_95 (by decide) ?_
                    refine z_iald C (lt_A (c := 1) hN rfl) hay44 ha1_y42 (353) (by omega) (by omega) (by decide) dX10_years_98 ?_
                    refine z_aload_n C 0 dX10_years_99 rfl ?_
                    refine z_get (v := .ref (ad (i + 1))) C (lt_A0 hN rfl) hay43 hg_y42 rfl inA_X10 0 (by decide) q_1459 rfl rfl dX10_years_100 ?_
                    refine z_iconst (z := 3) C dX10_years_103 rfl ?_
                    refine z_iald C (lt_A (c := 1) hN rfl) hay44 ha1_y42 (3) (by omega) (by omega) (by decide) dX10_years_104 ?_
                    refine z_isub C dX10_years_105 ?_
                    obtain ⟨xy124, exy125, hxy126⟩ := zI_of (zI ((r9 (353)) - (r9 (3))))
                    rw [exy125]
                    have hMy127 : okMr cs ad g1 i (x + 1) F9 r9 st op ai fa mu tb tp := okMr.upd fM hg_y42 fM.2.1 (fun f _ => rfl) ha1_y42 (hA_y42.mono (by omega)) (fun j a b => by
                        exact Or.inl (by rfl))
                    have hkpy128 : F9 13 = F9 13 := rfl
                    have hkpy129 : F9 14 = F9 14 := rfl
                    have hkpy130 : F9 15 = F9 15 := rfl
                    have hkpy131 : F9 16 = F9 16 := rfl
                    have hkpy132 : F9 17 = F9 17 := rfl
                    have hkpy133 : F9 18 = F9 18 := rfl
                    have hkpy134 : F9 19 = F9 19 := rfl
                    have hkpy135 : F9 20 = F9 20 := rfl
                    have hkpy136 : F9 21 = F9 21 := rfl
                    have hkpy137 : F9 23 = F9 23 := rfl
                    have hkpy138 : F9 24 = F9 24 := rfl
                    have hkpy139 : F9 25 = F9 25 := rfl
                    have hkpy140 : F9 26 = F9 26 := rfl
                    have hkpy141 : F9 27 = F9 27 := rfl
                    have hkpy142 : F9 29 = F9 29 := rfl
                    exact z_iret C hr hlk dX10_years_106 (by decide) (by decide) ⟨xy124, rfl, rfl, rfl, by omega, ⟨_, _, hMy127, ⟨(by omega), (by omega), (by omega), (by omega), (by omega), (by omega), (by omega), (by omega), (by omega), (by omega), (by omega)⟩, ⟨(by omega), (by omega), (by omega), (by omega)⟩, fR⟩, fun j j1 => by exact f3 j j1⟩
                  · refine z_aload_n C 0 dX10_years_73 rfl ?_
                    refine z_get (v := .ref (ad (i + 1))) C (lt_A0 hN rfl) hay43 hg_y42 rfl inA_X10 0 (by decide) q_1459 rfl rfl dX10_years_74 ?_
                    refine z_sipush (z := 354) C dX10_years_77 (by decide) ?_
                    refine z_iald C (lt_A (c := 1) hN rfl) hay44 ha1_y42 (354) (by omega) (by omega) (by decide) dX10_years_80 ?_
                    refine z_aload_n C 0 dX10_years_81 rfl ?_
                    refine z_get (v := .ref (ad (i + 1))) C (lt_A0 hN rfl) hay43 hg_y42 rfl inA_X10 0 (by decide) q_1459 rfl rfl dX10_years_82 ?_
                    refine z_iconst (z := 4) C dX10_years_85 rfl ?_
                    refine z_iald C (lt_A (c := 1) hN rfl) hay44 ha1_y42 (4) (by omega) (by omega) (by decide) dX10_years_86 ?_
                    refine z_isub C dX10_years_87 ?_
                    refine z_goto (tgt := 106) C dX10_years_88 (by decide) ?_
                    obtain ⟨xy143, exy144, hxy145⟩ := zI_of (zI ((r9 (354)) - (r9 (4))))
                    rw [exy144]
                    have hMy146 : okMr cs ad g1 i (x + 1) F9 r9 st op ai fa mu tb tp := okMr.upd fM hg_y42 fM.2.1 (fun f _ => rfl) ha1_y42 (hA_y42.mono (by omega)) (fun j a b => by
                        exact Or.inl (by rfl))
                    have hkpy147 : F9 13 = F9 13 := rfl
                    have hkpy148 : F9 14 = F9 14 := rfl
                    have hkpy149 : F9 15 = F9 15 := rfl
                    have hkpy150 : F9 16 = F9 16 := rfl
                    have hkpy151 : F9 17 = F9 17 := rfl
                    have hkpy152 : F9 18 = F9 18 := rfl
                    have hkpy153 : F9 19 = F9 19 := rfl
                    have hkpy154 : F9 20 = F9 20 := rfl
                    have hkpy155 : F9 21 = F9 21 := rfl
                    have hkpy156 : F9 23 = F9 23 := rfl
                    have hkpy157 : F9 24 = F9 24 := rfl
                    have hkpy158 : F9 25 = F9 25 := rfl
                    have hkpy159 : F9 26 = F9 26 := rfl
                    have hkpy160 : F9 27 = F9 27 := rfl
                    have hkpy161 : F9 29 = F9 29 := rfl
                    exact z_iret C hr hlk dX10_years_106 (by decide) (by decide) ⟨xy143, rfl, rfl, rfl, by omega, ⟨_, _, hMy146, ⟨(by omega), (by omega), (by omega), (by omega), (by omega), (by omega), (by omega), (by omega), (by omega), (by omega), (by omega)⟩, ⟨(by omega), (by omega), (by omega), (by omega)⟩, fR⟩, fun j j1 => by exact f3 j j1⟩
              · refine z_aload_n C 0 dX10_years_54 rfl ?_
                have hMy162 : okMr cs ad g1 i (x) F9 r9 st op ai fa mu tb tp := okMr.upd fM hg_y42 fM.2.1 (fun f _ => rfl) ha1_y42 (hA_y42.mono (by omega)) (fun j a b => by
                    exact Or.inl (by rfl))
                refine z_cV (As := []) (rest := []) (ci := 12) C (c_X10_year l D A cs tt N ad _ i hN x hx _ _ hMy162 (x + kk) (by omega) fW (by omega)) (lt_A0 hN rfl) hay43 hg_y42 rfl rfl mv_yX10_year q_2099 hd_yX10_year (by decide) (Nat.le_of_ble_eq_true rfl) (by decide) dX10_years_55 rfl (kV0 fun gvy163 hvy163 => ?_)
                obtain ⟨⟨Fvy163, rvy163, hMvy163, hFvy163, hWvy163, hTvy163, hRvy163⟩, hfvy163⟩ := hvy163
                have hBvy163 : (∀ f, f ≠ 59 → Fvy163 f = F9 f) := fun f n59 => (hFvy163 f n59)
                have hCvy163 : (∀ f, f ≠ 12 → f ≠ 59 → Fvy163 f = F f) := fun f n12 n59 => (hBvy163 f n59).trans (fF f n12 n59)
                have hq13vy163 : Fvy163 13 = F9 13 := (hFvy163 13 (by decide)).trans rfl
                have hq14vy163 : Fvy163 14 = F9 14 := (hFvy163 14 (by decide)).trans rfl
                have hq15vy163 : Fvy163 15 = F9 15 := (hFvy163 15 (by decide)).trans rfl
                have hq17vy163 : Fvy163 17 = F9 17 := (hFvy163 17 (by decide)).trans rfl
                have hq20vy163 : Fvy163 20 = F9 20 := (hFvy163 20 (by decide)).trans rfl
                have hq21vy163 : Fvy163 21 = F9 21 := (hFvy163 21 (by decide)).trans rfl
                have hq23vy163 : Fvy163 23 = F9 23 := (hFvy163 23 (by decide)).trans rfl
                have hq24vy163 : Fvy163 24 = F9 24 := (hFvy163 24 (by decide)).trans rfl
                have hq16vy163 : Fvy163 16 = F9 16 := (hFvy163 16 (by decide)).trans rfl
                have hq18vy163 : Fvy163 18 = F9 18 := (hFvy163 18 (by decide)).trans rfl
                have hq19vy163 : Fvy163 19 = F9 19 := (hFvy163 19 (by decide)).trans rfl
                have hq25vy163 : Fvy163 25 = F9 25 := (hFvy163 25 (by decide)).trans rfl
                have hq26vy163 : Fvy163 26 = F9 26 := (hFvy163 26 (by decide)).trans rfl
                have hq27vy163 : Fvy163 27 = F9 27 := (hFvy163 27 (by decide)).trans rfl
                have hq29vy163 : Fvy163 29 = F9 29 := (hFvy163 29 (by decide)).trans rfl
                obtain ⟨hg_y164, ⟨⟨e13_y164, e14_y164, e25_y164, e27_y164, e29_y164⟩, k15_y164, k16_y164, k17_y164, k18_y164, k19_y164, k20_y164, k23_y164, k21_y164⟩, hRD_y164, hTx_y164, hA_y164, ns_y164, nh_y164, nd_y164, rf_y164, pi_y164, te_y164, ki_y164, li_y164, ok1_y164, ok2_y164, fo_y164, dd_y164, dps_y164, ⟨ha1_y164, ha2_y164, ha3_y164, ha4_y164, ha5_y164, ha6_y164, ha7_y164, ha8_y164, ha9_y164, ha10_y164, ha11_y164, ha12_y164, ha13_y164, ha14_y164, ha15_y164, ha24_y164, ha25_y164, ha26_y164, ha27_y164, ha28_y164, ha29_y164⟩, hEv_y164, hPt_y164, hns_y164, htp_y164⟩ := id hMvy163
                obtain ⟨-, hop_y164, hai_y164, hfa_y164, hT_y164, hT1_y164⟩ := id hEv_y164
                have e14 := e14_y164
                have e25 := e25_y164
                have e27 := e27_y164
                have e29 := e29_y164
                have hop := hop_y164
                have hai := hai_y164
                have hfa := hfa_y164
                have hT := hT_y164
                have hT1 := hT1_y164
                have hEv := hEv_y164
                have htp := htp_y164
                have hns := hns_y164
                have hPt := hPt_y164
                obtain ⟨⟨hsyy165, htyy165, hnyy165, hpyy165⟩, hlyy165⟩ := okA.at0 hA_y164
                simp only [Nat.zero_add] at hsyy165 hnyy165 hpyy165
                have hmn : ∀ s, s < 4 → 0 ≤ rvy163 (6 + 86 * s) ∧ rvy163 (6 + 86 * s) ≤ 12 := fun s hs => (hsyy165 s hs).1
                have h5 : 0 ≤ rvy163 5 ∧ rvy163 5 ≤ 6 := hpyy165
                have hW2vy163 := hWvy163.2.1
                refine z_iinc (z := kk + 1) (lv' := [(4, .int (zI (kk + 1))), (0, .ref (ad i)), (2, .int (zI (z1))), (3, .int (zI (z2)))]) (j := 3) C dX10_years_58 rfl rfl (by decide) rfl ?_
                refine z_goto (tgt := 48) C dX10_years_61 (by decide) ?_
                have hMy166 : okMr cs ad gvy163 i (x) Fvy163 rvy163 st op ai fa mu tb tp := okMr.upd hMvy163 hg_y164 hMvy163.2.1 (fun f _ => rfl) ha1_y164 (hA_y164.mono (by omega)) (fun j a b => by
                    exact Or.inl (by rfl))
                have hFF : (∀ f, f ≠ 12 → f ≠ 59 → Fvy163 f = F f) := fun f n12 n59 => hCvy163 f n12 n59
                have hey167 : Fvy163 13 = F9 13 := hq13vy163
                have hey168 : Fvy163 14 = F9 14 := hq14vy163
                refine z_lv (lv' := [(0, .ref (ad i)), (2, .int (zI (z1))), (3, .int (zI (z2))), (4, .int (zI (kk + 1)))]) [1, 2, 3, 0] rfl ?_
                exact ih_lp1 _ (by omega) (kk + 1) _ _ gvy163 rfl hMy166 hFF (hWvy163.mono (by omega)) ((fun j a9 => (hRvy163 j a9).trans (fR j a9))) (fun j j1 => by rw [hfvy163 _ (by omega)]; exact f3 j j1) (by omega) (by omega)
          have hgy169 := up_n egy40 hdvy36 (ne_o (i := i) (c := 1) (d := 0) rfl)
          have hFy170 : ∀ f, f ≠ 12 → f ≠ 59 → (uZ Fvy31 59 (z)) f = F f := fun f n12 n59 => ((uZ_n _ _ n59).trans ((hFvy31 f n12).trans ((hFvy28 f n12).trans ((uZ_n _ _ n12).trans rfl))))
          have hey171 : (uZ Fvy31 59 (z)) 13 = F 13 := (fn ((hFvy31 13 (by decide)).trans ((hFvy28 13 (by decide)).trans (fn rfl (by decide)))) (by decide))
          have hey172 : (uZ Fvy31 59 (z)) 14 = F 14 := (fn ((hFvy31 14 (by decide)).trans ((hFvy28 14 (by decide)).trans (fn rfl (by decide)))) (by decide))
          have hey173 : (uZ Fvy31 59 (z)) 15 = F 15 := (fn ((hFvy31 15 (by decide)).trans ((hFvy28 15 (by decide)).trans (fn rfl (by decide)))) (by decide))
          have hey174 : (uZ Fvy31 59 (z)) 16 = F 16 := (fn ((hFvy31 16 (by decide)).trans ((hFvy28 16 (by decide)).trans (fn rfl (by decide)))) (by decide))
          have hey175 : (uZ Fvy31 59 (z)) 17 = F 17 := (fn ((hFvy31 17 (by decide)).trans ((hFvy28 17 (by decide)).trans (fn rfl (by decide)))) (by decide))
          have hey176 : (uZ Fvy31 59 (z)) 18 = F 18 := (fn ((hFvy31 18 (by decide)).trans ((hFvy28 18 (by decide)).trans (fn rfl (by decide)))) (by decide))
          have hey177 : (uZ Fvy31 59 (z)) 19 = F 19 := (fn ((hFvy31 19 (by decide)).trans ((hFvy28 19 (by decide)).trans (fn rfl (by decide)))) (by decide))
          have hey178 : (uZ Fvy31 59 (z)) 20 = F 20 := (fn ((hFvy31 20 (by decide)).trans ((hFvy28 20 (by decide)).trans (fn rfl (by decide)))) (by decide))
          have hey179 : (uZ Fvy31 59 (z)) 21 = F 21 := (fn ((hFvy31 21 (by decide)).trans ((hFvy28 21 (by decide)).trans (fn rfl (by decide)))) (by decide))
          have hey180 : (uZ Fvy31 59 (z)) 23 = F 23 := (fn ((hFvy31 23 (by decide)).trans ((hFvy28 23 (by decide)).trans (fn rfl (by decide)))) (by decide))
          have hey181 : (uZ Fvy31 59 (z)) 25 = F 25 := (fn ((hFvy31 25 (by decide)).trans ((hFvy28 25 (by decide)).trans (fn rfl (by decide)))) (by decide))
          have hey182 : (uZ Fvy31 59 (z)) 27 = F 27 := (fn ((hFvy31 27 (by decide)).trans ((hFvy28 27 (by decide)).trans (fn rfl (by decide)))) (by decide))
          have hey183 : (uZ Fvy31 59 (z)) 28 = F 28 := (fn ((hFvy31 28 (by decide)).trans ((hFvy28 28 (by decide)).trans (fn rfl (by decide)))) (by decide))
          have hey184 : (uZ Fvy31 59 (z)) 29 = F 29 := (fn ((hFvy31 29 (by decide)).trans ((hFvy28 29 (by decide)).trans (fn rfl (by decide)))) (by decide))
          have hKy185 : okF (uZ Fvy31 59 (z)) := okF.mv hM.2.1 hey171 hey172 hey173 hey174 hey175 hey176 hey177 hey178 hey179 hey180 hey181 hey182 hey183 hey184
          have hMy186 : okMr cs ad gy39 i (x) (uZ Fvy31 59 (z)) rvy36 st op ai fa mu tb tp := okMr.upd hM hgy41 hKy185 (fun f a => hFy170 f (by omega) (by omega)) hgy169 (hAvy36.mono (by omega)) (fun j a b => by
              exact Or.inl (by rw [egy40, va_up_ne _ _ (by omega)]; rw [hfvy36 _ (by omega)]; rw [hfvy31 _ (by omega)]; rw [hfvy28 _ (by omega)]; rw [egy25, va_up_ne _ _ (by omega)]))
          have hFy187 : ∀ f, f ≠ 12 → f ≠ 59 → (uZ Fvy31 59 (z)) f = F f := fun f n12 n59 => ((uZ_n _ _ n59).trans ((hFvy31 f n12).trans ((hFvy28 f n12).trans ((uZ_n _ _ n12).trans rfl))))
          have hFF : (∀ f, f ≠ 12 → f ≠ 59 → (uZ Fvy31 59 (z)) f = F f) := fun f n12 n59 => (hFy187 f n12 n59)
          have hey188 : (uZ Fvy31 59 (z)) 13 = F 13 := (fn ((hFvy31 13 (by decide)).trans ((hFvy28 13 (by decide)).trans (fn rfl (by decide)))) (by decide))
          have hey189 : (uZ Fvy31 59 (z)) 14 = F 14 := (fn ((hFvy31 14 (by decide)).trans ((hFvy28 14 (by decide)).trans (fn rfl (by decide)))) (by decide))
          refine z_lv (lv' := [(0, .ref (ad i)), (2, .int (zI (z1))), (3, .int (zI (z2))), (4, .int (zI (0)))]) [1, 3, 4, 0] rfl ?_
          exact lp1 _ (0) _ _ gy39 rfl hMy186 hFF (hWvy36.mono (by omega)) ((fun j a9 => (hyvy36 j a9).trans ((fun j _ => rfl) j a9))) (fun j j1 => by rw [egy40, va_up_ne _ _ (by omega)]; rw [hfvy36 _ (by omega)]; rw [hfvy31 _ (by omega)]; rw [hfvy28 _ (by omega)]; rw [egy25, va_up_ne _ _ (by omega)]) (by omega) (by omega)
        · refine z_if_ne (tgt := 36) C dX10_years_31 (by decide) (by omega) (fun h => absurd h (by omega)) (fun _ => ?_)
          refine z_iconst (z := 0) C dX10_years_34 rfl ?_
          have hgy190 := up_n egy25 ha1 (ne_o (i := i) (c := 1) (d := 0) rfl)
          have hgy191 := (hfvy28 (i + 1) (ne_o (i := i) (c := 1) (d := 0) rfl)).trans hgy190
          have hgy192 := (hfvy31 (i + 1) (ne_o (i := i) (c := 1) (d := 0) rfl)).trans hgy191
          have hFy193 : ∀ f, f ≠ 12 → Fvy31 f = F f := fun f n12 => ((hFvy31 f n12).trans ((hFvy28 f n12).trans ((uZ_n _ _ n12).trans rfl)))
          have hey194 : Fvy31 13 = F 13 := ((hFvy31 13 (by decide)).trans ((hFvy28 13 (by decide)).trans (fn rfl (by decide))))
          have hey195 : Fvy31 14 = F 14 := ((hFvy31 14 (by decide)).trans ((hFvy28 14 (by decide)).trans (fn rfl (by decide))))
          have hey196 : Fvy31 15 = F 15 := ((hFvy31 15 (by decide)).trans ((hFvy28 15 (by decide)).trans (fn rfl (by decide))))
          have hey197 : Fvy31 16 = F 16 := ((hFvy31 16 (by decide)).trans ((hFvy28 16 (by decide)).trans (fn rfl (by decide))))
          have hey198 : Fvy31 17 = F 17 := ((hFvy31 17 (by decide)).trans ((hFvy28 17 (by decide)).trans (fn rfl (by decide))))
          have hey199 : Fvy31 18 = F 18 := ((hFvy31 18 (by decide)).trans ((hFvy28 18 (by decide)).trans (fn rfl (by decide))))
          have hey200 : Fvy31 19 = F 19 := ((hFvy31 19 (by decide)).trans ((hFvy28 19 (by decide)).trans (fn rfl (by decide))))
          have hey201 : Fvy31 20 = F 20 := ((hFvy31 20 (by decide)).trans ((hFvy28 20 (by decide)).trans (fn rfl (by decide))))
          have hey202 : Fvy31 21 = F 21 := ((hFvy31 21 (by decide)).trans ((hFvy28 21 (by decide)).trans (fn rfl (by decide))))
          have hey203 : Fvy31 23 = F 23 := ((hFvy31 23 (by decide)).trans ((hFvy28 23 (by decide)).trans (fn rfl (by decide))))
          have hey204 : Fvy31 25 = F 25 := ((hFvy31 25 (by decide)).trans ((hFvy28 25 (by decide)).trans (fn rfl (by decide))))
          have hey205 : Fvy31 27 = F 27 := ((hFvy31 27 (by decide)).trans ((hFvy28 27 (by decide)).trans (fn rfl (by decide))))
          have hey206 : Fvy31 28 = F 28 := ((hFvy31 28 (by decide)).trans ((hFvy28 28 (by decide)).trans (fn rfl (by decide))))
          have hey207 : Fvy31 29 = F 29 := ((hFvy31 29 (by decide)).trans ((hFvy28 29 (by decide)).trans (fn rfl (by decide))))
          have hKy208 : okF Fvy31 := okF.mv hM.2.1 hey194 hey195 hey196 hey197 hey198 hey199 hey200 hey201 hey202 hey203 hey204 hey205 hey206 hey207
          have hMy209 : okMr cs ad gvy31 i (x + 1) Fvy31 r st op ai fa mu tb tp := okMr.upd hM hcvy31 hKy208 (fun f a => hFy193 f (by omega)) hgy192 (hA.mono (by omega)) (fun j a b => by
              exact Or.inl (by rw [hfvy31 _ (by omega)]; rw [hfvy28 _ (by omega)]; rw [egy25, va_up_ne _ _ (by omega)]))
          have hkpy210 : Fvy31 13 = F 13 := ((hFvy31 13 (by decide)).trans ((hFvy28 13 (by decide)).trans (fn rfl (by decide))))
          have hkpy211 : Fvy31 14 = F 14 := ((hFvy31 14 (by decide)).trans ((hFvy28 14 (by decide)).trans (fn rfl (by decide))))
          have hkpy212 : Fvy31 15 = F 15 := ((hFvy31 15 (by decide)).trans ((hFvy28 15 (by decide)).trans (fn rfl (by decide))))
          have hkpy213 : Fvy31 16 = F 16 := ((hFvy31 16 (by decide)).trans ((hFvy28 16 (by decide)).trans (fn rfl (by decide))))
          have hkpy214 : Fvy31 17 = F 17 := ((hFvy31 17 (by decide)).trans ((hFvy28 17 (by decide)).trans (fn rfl (by decide))))
          have hkpy215 : Fvy31 18 = F 18 := ((hFvy31 18 (by decide)).trans ((hFvy28 18 (by decide)).trans (fn rfl (by decide))))
          have hkpy216 : Fvy31 19 = F 19 := ((hFvy31 19 (by decide)).trans ((hFvy28 19 (by decide)).trans (fn rfl (by decide))))
          have hkpy217 : Fvy31 20 = F 20 := ((hFvy31 20 (by decide)).trans ((hFvy28 20 (by decide)).trans (fn rfl (by decide))))
          have hkpy218 : Fvy31 21 = F 21 := ((hFvy31 21 (by decide)).trans ((hFvy28 21 (by decide)).trans (fn rfl (by decide))))
          have hkpy219 : Fvy31 23 = F 23 := ((hFvy31 23 (by decide)).trans ((hFvy28 23 (by decide)).trans (fn rfl (by decide))))
          have hkpy220 : Fvy31 24 = F 24 := ((hFvy31 24 (by decide)).trans ((hFvy28 24 (by decide)).trans (fn rfl (by decide))))
          have hkpy221 : Fvy31 25 = F 25 := ((hFvy31 25 (by decide)).trans ((hFvy28 25 (by decide)).trans (fn rfl (by decide))))
          have hkpy222 : Fvy31 26 = F 26 := ((hFvy31 26 (by decide)).trans ((hFvy28 26 (by decide)).trans (fn rfl (by decide))))
          have hkpy223 : Fvy31 27 = F 27 := ((hFvy31 27 (by decide)).trans ((hFvy28 27 (by decide)).trans (fn rfl (by decide))))
          have hkpy224 : Fvy31 29 = F 29 := ((hFvy31 29 (by decide)).trans ((hFvy28 29 (by decide)).trans (fn rfl (by decide))))
          exact z_iret C hr hlk dX10_years_35 (by decide) (by decide) ⟨0, rfl, rfl, rfl, by omega, ⟨_, _, hMy209, ⟨hkpy210, hkpy211, hkpy212, hkpy213, hkpy214, hkpy215, hkpy216, hkpy217, hkpy218, hkpy219, hkpy220⟩, ⟨(hkpy221.trans hp25), (hkpy222.trans hp26), (hkpy223.trans hp27), (hkpy224.trans hp29)⟩, (fun j _ => rfl)⟩, fun j j1 => by rw [hfvy31 _ (by omega)]; rw [hfvy28 _ (by omega)]; rw [egy25, va_up_ne _ _ (by omega)]⟩
      · refine z_iconst (z := 2) C dX10_years_27 rfl ?_
        have hey226 : Fvy28 12 = Fvy28 12 := rfl
        refine z_cV (As := [.int (zI (0)), .int (zI (2))]) (rest := []) (ci := 12) C (c_X10_right l D A cs tt N ad _ i hN _ hcvy28 (by omega) (0) (by omega) (2) (by omega)) (lt_A0 hN rfl) hay1 hcvy28 rfl rfl mv_yX10_right q_1648 hd_yX10_right (by decide) (Nat.le_of_ble_eq_true rfl) (by decide) dX10_years_28 rfl (kI0 fun vy225 gvy225 hvy225 => ?_)
        obtain ⟨hrvy225, ⟨Fvy225, hcvy225, htvy225, hFvy225⟩, hfvy225⟩ := hvy225
        obtain rfl : vy225 = 0 := by omega
        refine z_if_ne (tgt := 36) C dX10_years_31 (by decide) (by omega) (fun h => absurd h (by omega)) (fun _ => ?_)
        refine z_iconst (z := 0) C dX10_years_34 rfl ?_
        have hgy227 := up_n egy25 ha1 (ne_o (i := i) (c := 1) (d := 0) rfl)
        have hgy228 := (hfvy28 (i + 1) (ne_o (i := i) (c := 1) (d := 0) rfl)).trans hgy227
        have hgy229 := (hfvy225 (i + 1) (ne_o (i := i) (c := 1) (d := 0) rfl)).trans hgy228
        have hFy230 : ∀ f, f ≠ 12 → Fvy225 f = F f := fun f n12 => ((hFvy225 f n12).trans ((hFvy28 f n12).trans ((uZ_n _ _ n12).trans rfl)))
        have hey231 : Fvy225 13 = F 13 := ((hFvy225 13 (by decide)).trans ((hFvy28 13 (by decide)).trans (fn rfl (by decide))))
        have hey232 : Fvy225 14 = F 14 := ((hFvy225 14 (by decide)).trans ((hFvy28 14 (by decide)).trans (fn rfl (by decide))))
        have hey233 : Fvy225 15 = F 15 := ((hFvy225 15 (by decide)).trans ((hFvy28 15 (by decide)).trans (fn rfl (by decide))))
        have hey234 : Fvy225 16 = F 16 := ((hFvy225 16 (by decide)).trans ((hFvy28 16 (by decide)).trans (fn rfl (by decide))))
        have hey235 : Fvy225 17 = F 17 := ((hFvy225 17 (by decide)).trans ((hFvy28 17 (by decide)).trans (fn rfl (by decide))))
        have hey236 : Fvy225 18 = F 18 := ((hFvy225 18 (by decide)).trans ((hFvy28 18 (by decide)).trans (fn rfl (by decide))))
        have hey237 : Fvy225 19 = F 19 := ((hFvy225 19 (by decide)).trans ((hFvy28 19 (by decide)).trans (fn rfl (by decide))))
        have hey238 : Fvy225 20 = F 20 := ((hFvy225 20 (by decide)).trans ((hFvy28 20 (by decide)).trans (fn rfl (by decide))))
        have hey239 : Fvy225 21 = F 21 := ((hFvy225 21 (by decide)).trans ((hFvy28 21 (by decide)).trans (fn rfl (by decide))))
        have hey240 : Fvy225 23 = F 23 := ((hFvy225 23 (by decide)).trans ((hFvy28 23 (by decide)).trans (fn rfl (by decide))))
        have hey241 : Fvy225 25 = F 25 := ((hFvy225 25 (by decide)).trans ((hFvy28 25 (by decide)).trans (fn rfl (by decide))))
        have hey242 : Fvy225 27 = F 27 := ((hFvy225 27 (by decide)).trans ((hFvy28 27 (by decide)).trans (fn rfl (by decide))))
        have hey243 : Fvy225 28 = F 28 := ((hFvy225 28 (by decide)).trans ((hFvy28 28 (by decide)).trans (fn rfl (by decide))))
        have hey244 : Fvy225 29 = F 29 := ((hFvy225 29 (by decide)).trans ((hFvy28 29 (by decide)).trans (fn rfl (by decide))))
        have hKy245 : okF Fvy225 := okF.mv hM.2.1 hey231 hey232 hey233 hey234 hey235 hey236 hey237 hey238 hey239 hey240 hey241 hey242 hey243 hey244
        have hMy246 : okMr cs ad gvy225 i (x + 1) Fvy225 r st op ai fa mu tb tp := okMr.upd hM hcvy225 hKy245 (fun f a => hFy230 f (by omega)) hgy229 (hA.mono (by omega)) (fun j a b => by
            exact Or.inl (by rw [hfvy225 _ (by omega)]; rw [hfvy28 _ (by omega)]; rw [egy25, va_up_ne _ _ (by omega)]))
        have hkpy247 : Fvy225 13 = F 13 := ((hFvy225 13 (by decide)).trans ((hFvy28 13 (by decide)).trans (fn rfl (by decide))))
        have hkpy248 : Fvy225 14 = F 14 := ((hFvy225 14 (by decide)).trans ((hFvy28 14 (by decide)).trans (fn rfl (by decide))))
        have hkpy249 : Fvy225 15 = F 15 := ((hFvy225 15 (by decide)).trans ((hFvy28 15 (by decide)).trans (fn rfl (by decide))))
        have hkpy250 : Fvy225 16 = F 16 := ((hFvy225 16 (by decide)).trans ((hFvy28 16 (by decide)).trans (fn rfl (by decide))))
        have hkpy251 : Fvy225 17 = F 17 := ((hFvy225 17 (by decide)).trans ((hFvy28 17 (by decide)).trans (fn rfl (by decide))))
        have hkpy252 : Fvy225 18 = F 18 := ((hFvy225 18 (by decide)).trans ((hFvy28 18 (by decide)).trans (fn rfl (by decide))))
        have hkpy253 : Fvy225 19 = F 19 := ((hFvy225 19 (by decide)).trans ((hFvy28 19 (by decide)).trans (fn rfl (by decide))))
        have hkpy254 : Fvy225 20 = F 20 := ((hFvy225 20 (by decide)).trans ((hFvy28 20 (by decide)).trans (fn rfl (by decide))))
        have hkpy255 : Fvy225 21 = F 21 := ((hFvy225 21 (by decide)).trans ((hFvy28 21 (by decide)).trans (fn rfl (by decide))))
        have hkpy256 : Fvy225 23 = F 23 := ((hFvy225 23 (by decide)).trans ((hFvy28 23 (by decide)).trans (fn rfl (by decide))))
        have hkpy257 : Fvy225 24 = F 24 := ((hFvy225 24 (by decide)).trans ((hFvy28 24 (by decide)).trans (fn rfl (by decide))))
        have hkpy258 : Fvy225 25 = F 25 := ((hFvy225 25 (by decide)).trans ((hFvy28 25 (by decide)).trans (fn rfl (by decide))))
        have hkpy259 : Fvy225 26 = F 26 := ((hFvy225 26 (by decide)).trans ((hFvy28 26 (by decide)).trans (fn rfl (by decide))))
        have hkpy260 : Fvy225 27 = F 27 := ((hFvy225 27 (by decide)).trans ((hFvy28 27 (by decide)).trans (fn rfl (by decide))))
        have hkpy261 : Fvy225 29 = F 29 := ((hFvy225 29 (by decide)).trans ((hFvy28 29 (by decide)).trans (fn rfl (by decide))))
        exact z_iret C hr hlk dX10_years_35 (by decide) (by decide) ⟨0, rfl, rfl, rfl, by omega, ⟨_, _, hMy246, ⟨hkpy247, hkpy248, hkpy249, hkpy250, hkpy251, hkpy252, hkpy253, hkpy254, hkpy255, hkpy256, hkpy257⟩, ⟨(hkpy258.trans hp25), (hkpy259.trans hp26), (hkpy260.trans hp27), (hkpy261.trans hp29)⟩, (fun j _ => rfl)⟩, fun j j1 => by rw [hfvy225 _ (by omega)]; rw [hfvy28 _ (by omega)]; rw [egy25, va_up_ne _ _ (by omega)]⟩
    · refine z_if_eq (tgt := 34) C dX10_years_16 (by decide) (by omega) (fun _ => ?_) (fun h => absurd h (by omega))
      refine z_iconst (z := 0) C dX10_years_34 rfl ?_
      have hgy262 := up_n egy25 ha1 (ne_o (i := i) (c := 1) (d := 0) rfl)
      have hgy263 := (hfvy28 (i + 1) (ne_o (i := i) (c := 1) (d := 0) rfl)).trans hgy262
      have hFy264 : ∀ f, f ≠ 12 → Fvy28 f = F f := fun f n12 => ((hFvy28 f n12).trans ((uZ_n _ _ n12).trans rfl))
      have hey265 : Fvy28 13 = F 13 := ((hFvy28 13 (by decide)).trans (fn rfl (by decide)))
      have hey266 : Fvy28 14 = F 14 := ((hFvy28 14 (by decide)).trans (fn rfl (by decide)))
      have hey267 : Fvy28 15 = F 15 := ((hFvy28 15 (by decide)).trans (fn rfl (by decide)))
      have hey268 : Fvy28 16 = F 16 := ((hFvy28 16 (by decide)).trans (fn rfl (by decide)))
      have hey269 : Fvy28 17 = F 17 := ((hFvy28 17 (by decide)).trans (fn rfl (by decide)))
      have hey270 : Fvy28 18 = F 18 := ((hFvy28 18 (by decide)).trans (fn rfl (by decide)))
      have hey271 : Fvy28 19 = F 19 := ((hFvy28 19 (by decide)).trans (fn rfl (by decide)))
      have hey272 : Fvy28 20 = F 20 := ((hFvy28 20 (by decide)).trans (fn rfl (by decide)))
      have hey273 : Fvy28 21 = F 21 := ((hFvy28 21 (by decide)).trans (fn rfl (by decide)))
      have hey274 : Fvy28 23 = F 23 := ((hFvy28 23 (by decide)).trans (fn rfl (by decide)))
      have hey275 : Fvy28 25 = F 25 := ((hFvy28 25 (by decide)).trans (fn rfl (by decide)))
      have hey276 : Fvy28 27 = F 27 := ((hFvy28 27 (by decide)).trans (fn rfl (by decide)))
      have hey277 : Fvy28 28 = F 28 := ((hFvy28 28 (by decide)).trans (fn rfl (by decide)))
      have hey278 : Fvy28 29 = F 29 := ((hFvy28 29 (by decide)).trans (fn rfl (by decide)))
      have hKy279 : okF Fvy28 := okF.mv hM.2.1 hey265 hey266 hey267 hey268 hey269 hey270 hey271 hey272 hey273 hey274 hey275 hey276 hey277 hey278
      have hMy280 : okMr cs ad gvy28 i (x + 1) Fvy28 r st op ai fa mu tb tp := okMr.upd hM hcvy28 hKy279 (fun f a => hFy264 f (by omega)) hgy263 (hA.mono (by omega)) (fun j a b => by
          exact Or.inl (by rw [hfvy28 _ (by omega)]; rw [egy25, va_up_ne _ _ (by omega)]))
      have hkpy281 : Fvy28 13 = F 13 := ((hFvy28 13 (by decide)).trans (fn rfl (by decide)))
      have hkpy282 : Fvy28 14 = F 14 := ((hFvy28 14 (by decide)).trans (fn rfl (by decide)))
      have hkpy283 : Fvy28 15 = F 15 := ((hFvy28 15 (by decide)).trans (fn rfl (by decide)))
      have hkpy284 : Fvy28 16 = F 16 := ((hFvy28 16 (by decide)).trans (fn rfl (by decide)))
      have hkpy285 : Fvy28 17 = F 17 := ((hFvy28 17 (by decide)).trans (fn rfl (by decide)))
      have hkpy286 : Fvy28 18 = F 18 := ((hFvy28 18 (by decide)).trans (fn rfl (by decide)))
      have hkpy287 : Fvy28 19 = F 19 := ((hFvy28 19 (by decide)).trans (fn rfl (by decide)))
      have hkpy288 : Fvy28 20 = F 20 := ((hFvy28 20 (by decide)).trans (fn rfl (by decide)))
      have hkpy289 : Fvy28 21 = F 21 := ((hFvy28 21 (by decide)).trans (fn rfl (by decide)))
      have hkpy290 : Fvy28 23 = F 23 := ((hFvy28 23 (by decide)).trans (fn rfl (by decide)))
      have hkpy291 : Fvy28 24 = F 24 := ((hFvy28 24 (by decide)).trans (fn rfl (by decide)))
      have hkpy292 : Fvy28 25 = F 25 := ((hFvy28 25 (by decide)).trans (fn rfl (by decide)))
      have hkpy293 : Fvy28 26 = F 26 := ((hFvy28 26 (by decide)).trans (fn rfl (by decide)))
      have hkpy294 : Fvy28 27 = F 27 := ((hFvy28 27 (by decide)).trans (fn rfl (by decide)))
      have hkpy295 : Fvy28 29 = F 29 := ((hFvy28 29 (by decide)).trans (fn rfl (by decide)))
      exact z_iret C hr hlk dX10_years_35 (by decide) (by decide) ⟨0, rfl, rfl, rfl, by omega, ⟨_, _, hMy280, ⟨hkpy281, hkpy282, hkpy283, hkpy284, hkpy285, hkpy286, hkpy287, hkpy288, hkpy289, hkpy290, hkpy291⟩, ⟨(hkpy292.trans hp25), (hkpy293.trans hp26), (hkpy294.trans hp27), (hkpy295.trans hp29)⟩, (fun j _ => rfl)⟩, fun j j1 => by rw [hfvy28 _ (by omega)]; rw [egy25, va_up_ne _ _ (by omega)]⟩
  · refine z_iconst (z := 1) C dX10_years_12 rfl ?_
    have hey297 : (uZ F 12 (0)) 12 = 0 := (uZ_s _ _ _)
    refine z_cV (As := [.int (zI (0)), .int (zI (1))]) (rest := []) (ci := 12) C (c_X10_right l D A cs tt N ad _ i hN _ hgy26 (by omega) (0) (by omega) (1) (by omega)) (lt_A0 hN rfl) hay1 hgy26 rfl rfl mv_yX10_right q_1648 hd_yX10_right (by decide) (Nat.le_of_ble_eq_true rfl) (by decide) dX10_years_13 rfl (kI0 fun vy296 gvy296 hvy296 => ?_)
    obtain ⟨hrvy296, ⟨Fvy296, hcvy296, htvy296, hFvy296⟩, hfvy296⟩ := hvy296
    obtain rfl : vy296 = 0 := by omega
    refine z_if_eq (tgt := 34) C dX10_years_16 (by decide) (by omega) (fun _ => ?_) (fun h => absurd h (by omega))
    refine z_iconst (z := 0) C dX10_years_34 rfl ?_
    have hgy298 := up_n egy25 ha1 (ne_o (i := i) (c := 1) (d := 0) rfl)
    have hgy299 := (hfvy296 (i + 1) (ne_o (i := i) (c := 1) (d := 0) rfl)).trans hgy298
    have hFy300 : ∀ f, f ≠ 12 → Fvy296 f = F f := fun f n12 => ((hFvy296 f n12).trans ((uZ_n _ _ n12).trans rfl))
    have hey301 : Fvy296 13 = F 13 := ((hFvy296 13 (by decide)).trans (fn rfl (by decide)))
    have hey302 : Fvy296 14 = F 14 := ((hFvy296 14 (by decide)).trans (fn rfl (by decide)))
    have hey303 : Fvy296 15 = F 15 := ((hFvy296 15 (by decide)).trans (fn rfl (by decide)))
    have hey304 : Fvy296 16 = F 16 := ((hFvy296 16 (by decide)).trans (fn rfl (by decide)))
    have hey305 : Fvy296 17 = F 17 := ((hFvy296 17 (by decide)).trans (fn rfl (by decide)))
    have hey306 : Fvy296 18 = F 18 := ((hFvy296 18 (by decide)).trans (fn rfl (by decide)))
    have hey307 : Fvy296 19 = F 19 := ((hFvy296 19 (by decide)).trans (fn rfl (by decide)))
    have hey308 : Fvy296 20 = F 20 := ((hFvy296 20 (by decide)).trans (fn rfl (by decide)))
    have hey309 : Fvy296 21 = F 21 := ((hFvy296 21 (by decide)).trans (fn rfl (by decide)))
    have hey310 : Fvy296 23 = F 23 := ((hFvy296 23 (by decide)).trans (fn rfl (by decide)))
    have hey311 : Fvy296 25 = F 25 := ((hFvy296 25 (by decide)).trans (fn rfl (by decide)))
    have hey312 : Fvy296 27 = F 27 := ((hFvy296 27 (by decide)).trans (fn rfl (by decide)))
    have hey313 : Fvy296 28 = F 28 := ((hFvy296 28 (by decide)).trans (fn rfl (by decide)))
    have hey314 : Fvy296 29 = F 29 := ((hFvy296 29 (by decide)).trans (fn rfl (by decide)))
    have hKy315 : okF Fvy296 := okF.mv hM.2.1 hey301 hey302 hey303 hey304 hey305 hey306 hey307 hey308 hey309 hey310 hey311 hey312 hey313 hey314
    have hMy316 : okMr cs ad gvy296 i (x + 1) Fvy296 r st op ai fa mu tb tp := okMr.upd hM hcvy296 hKy315 (fun f a => hFy300 f (by omega)) hgy299 (hA.mono (by omega)) (fun j a b => by
        exact Or.inl (by rw [hfvy296 _ (by omega)]; rw [egy25, va_up_ne _ _ (by omega)]))
    have hkpy317 : Fvy296 13 = F 13 := ((hFvy296 13 (by decide)).trans (fn rfl (by decide)))
    have hkpy318 : Fvy296 14 = F 14 := ((hFvy296 14 (by decide)).trans (fn rfl (by decide)))
    have hkpy319 : Fvy296 15 = F 15 := ((hFvy296 15 (by decide)).trans (fn rfl (by decide)))
    have hkpy320 : Fvy296 16 = F 16 := ((hFvy296 16 (by decide)).trans (fn rfl (by decide)))
    have hkpy321 : Fvy296 17 = F 17 := ((hFvy296 17 (by decide)).trans (fn rfl (by decide)))
    have hkpy322 : Fvy296 18 = F 18 := ((hFvy296 18 (by decide)).trans (fn rfl (by decide)))
    have hkpy323 : Fvy296 19 = F 19 := ((hFvy296 19 (by decide)).trans (fn rfl (by decide)))
    have hkpy324 : Fvy296 20 = F 20 := ((hFvy296 20 (by decide)).trans (fn rfl (by decide)))
    have hkpy325 : Fvy296 21 = F 21 := ((hFvy296 21 (by decide)).trans (fn rfl (by decide)))
    have hkpy326 : Fvy296 23 = F 23 := ((hFvy296 23 (by decide)).trans (fn rfl (by decide)))
    have hkpy327 : Fvy296 24 = F 24 := ((hFvy296 24 (by decide)).trans (fn rfl (by decide)))
    have hkpy328 : Fvy296 25 = F 25 := ((hFvy296 25 (by decide)).trans (fn rfl (by decide)))
    have hkpy329 : Fvy296 26 = F 26 := ((hFvy296 26 (by decide)).trans (fn rfl (by decide)))
    have hkpy330 : Fvy296 27 = F 27 := ((hFvy296 27 (by decide)).trans (fn rfl (by decide)))
    have hkpy331 : Fvy296 29 = F 29 := ((hFvy296 29 (by decide)).trans (fn rfl (by decide)))
    exact z_iret C hr hlk dX10_years_35 (by decide) (by decide) ⟨0, rfl, rfl, rfl, by omega, ⟨_, _, hMy316, ⟨hkpy317, hkpy318, hkpy319, hkpy320, hkpy321, hkpy322, hkpy323, hkpy324, hkpy325, hkpy326, hkpy327⟩, ⟨(hkpy328.trans hp25), (hkpy329.trans hp26), (hkpy330.trans hp27), (hkpy331.trans hp29)⟩, (fun j _ => rfl)⟩, fun j j1 => by rw [hfvy296 _ (by omega)]; rw [egy25, va_up_ne _ _ (by omega)]⟩

set_option maxRecDepth 100000 in
set_option maxHeartbeats 4000000 in
theorem c_X10_isNoted (l : Launch) (D : va_G) (A : Nat → Prop) (cs : Nat → ClassId) (tt : Nat) (N : Nat) (ad : Nat → Nat) (g : Nat → va_E) (i : Nat) (hN : i + 30 ≤ N) (x : Int) (hx : 0 ≤ x ∧ x ≤ 512) (F r : Nat → Int) {st op ai fa mu tb tp : Nat → Int} (hM : okMr cs ad g i x F r st op ai fa mu tb tp) : zM l yX10_isNoted cX10_isNoted 4 (some .boolean) ({ frames := 10, cells := 0, slots := 0, locals := 600 } : Room) D A cs tt N ad g [.ref (ad i)] (rI0 N ad fun q g' => (0 ≤ q ∧ q ≤ 1) ∧ (∃ F' r' : Nat → Int, okMr cs ad g' i x F' r' st op ai fa mu tb tp ∧ (∀ f, F' f = F f) ∧ (∀ j, j < 350 ∨ 700 ≤ j → r' j = r j)) ∧ ∀ j, j < i ∨ i + 30 ≤ j ∨ (i + 8 ≤ j ∧ j ≤ i + 12) → g' j = g j) := by
  obtain ⟨hg, ⟨⟨e13, e14, e25, e27, e29⟩, k15, k16, k17, k18, k19, k20, k23, k21⟩, hRD, hTx, hA, ns, nh, nd, rf, pi, te, ki, li, ok1, ok2, fo, dd, dps, ⟨ha1, ha2, ha3, ha4, ha5, ha6, ha7, ha8, ha9, ha10, ha11, ha12, ha13, ha14, ha15, ha24, ha25, ha26, ha27, ha28, ha29⟩, hEv, hPt, hns, htp⟩ := id hM
  obtain ⟨-, hop, hai, hfa, hT, hT1⟩ := id hEv
  have hay1 : zAt ad (i) (ad i) := rfl
  have hay2 : zAt ad (i + 1) (ad (i + 1)) := rfl
  have hay3 : zAt ad (i + 2) (ad (i + 2)) := rfl
  have hay4 : zAt ad (i + 3) (ad (i + 3)) := rfl
  have hay5 : zAt ad (i + 4) (ad (i + 4)) := rfl
  have hay6 : zAt ad (i + 5) (ad (i + 5)) := rfl
  have hay7 : zAt ad (i + 6) (ad (i + 6)) := rfl
  have hay8 : zAt ad (i + 7) (ad (i + 7)) := rfl
  have hay9 : zAt ad (i + 8) (ad (i + 8)) := rfl
  have hay10 : zAt ad (i + 9) (ad (i + 9)) := rfl
  have hay11 : zAt ad (i + 10) (ad (i + 10)) := rfl
  have hay12 : zAt ad (i + 11) (ad (i + 11)) := rfl
  have hay13 : zAt ad (i + 12) (ad (i + 12)) := rfl
  have hay14 : zAt ad (i + 13) (ad (i + 13)) := rfl
  have hay15 : zAt ad (i + 14) (ad (i + 14)) := rfl
  have hay16 : zAt ad (i + 15) (ad (i + 15)) := rfl
  have hay17 : zAt ad (i + 24) (ad (i + 24)) := rfl
  have hay18 : zAt ad (i + 25) (ad (i + 25)) := rfl
  have hay19 : zAt ad (i + 26) (ad (i + 26)) := rfl
  have hay20 : zAt ad (i + 27) (ad (i + 27)) := rfl
  have hay21 : zAt ad (i + 28) (ad (i + 28)) := rfl
  have hay22 : zAt ad (i + 29) (ad (i + 29)) := rfl
  obtain ⟨⟨hsyy23, htyy23, hnyy23, hpyy23⟩, hlyy23⟩ := okA.at0 hA
  simp only [Nat.zero_add] at hsyy23 hnyy23 hpyy23
  have hmn : ∀ s, s < 4 → 0 ≤ r (6 + 86 * s) ∧ r (6 + 86 * s) ≤ 12 := fun s hs => (hsyy23 s hs).1
  have h5 : 0 ≤ r 5 ∧ r 5 ≤ 6 := hpyy23
  refine z_of (by decide) (Nat.le_of_ble_eq_true rfl) ?_
  intro pZ eZ sZ mZ below meth cZ C hr hlk hnm
  refine z_lv (lv' := [(0, .ref (ad i))]) [0] rfl ?_
  refine z_iconst (z := 1) C dX10_isNoted_0 rfl ?_
  refine z_istore_n (lv' := [(1, .int (zI (1))), (0, .ref (ad i))]) C dX10_isNoted_1 rfl (by decide) rfl ?_
  refine z_aload_n C 1 dX10_isNoted_2 rfl ?_
  refine z_cV (As := []) (rest := []) (ci := 12) C (c_X10_tries l D A cs tt N ad _ i hN _ hg _ ha1 (x) hA) (lt_A0 hN rfl) hay1 hg rfl rfl mv_yX10_tries q_1980 hd_yX10_tries (by decide) (Nat.le_of_ble_eq_true rfl) (by decide) dX10_isNoted_3 rfl (kV0 fun gvy24 hvy24 => ?_)
  obtain ⟨⟨rvy24, hdvy24, hAvy24, hWvy24, h0vy24, hyvy24⟩, hfvy24⟩ := hvy24
  obtain ⟨⟨hsyy25, htyy25, hnyy25, hpyy25⟩, hlyy25⟩ := okA.at0 hAvy24
  simp only [Nat.zero_add] at hsyy25 hnyy25 hpyy25
  have hmn : ∀ s, s < 4 → 0 ≤ rvy24 (6 + 86 * s) ∧ rvy24 (6 + 86 * s) ≤ 12 := fun s hs => (hsyy25 s hs).1
  have h5 : 0 ≤ rvy24 5 ∧ rvy24 5 ≤ 6 := hpyy25
  refine z_iconst (z := 0) C dX10_isNoted_6 rfl ?_
  refine z_istore_n (lv' := [(2, .int (zI (0))), (1, .int (zI (1))), (0, .ref (ad i))]) C dX10_isNoted_7 rfl (by decide) rfl ?_
  have lp1 : ∀ (n9 : Nat) (so : Int) (nn : Int) (F9 : Nat → Int) (r9 : Nat → Int) (g1 : Nat → va_E), (49 - nn).toNat = n9 → (okMr cs ad g1 i x F9 r9 st op ai fa mu tb tp) → ((∀ f, F9 f = F f)) → (okW r9 350 (x)) → ((∀ j, j < 350 ∨ 700 ≤ j → r9 j = r j)) → (∀ j, j < i ∨ i + 30 ≤ j ∨ (i + 8 ≤ j ∧ j ≤ i + 12) → g1 j = g j) → (0 ≤ so ∧ so ≤ 1) → (0 ≤ nn ∧ nn ≤ 49) → (r9 350 ≤ 2000 + nn) → zV pZ l eZ ({ frames := 10, cells := 0, slots := 0, locals := 600 } : Room) sZ mZ ([.ref (ad i)] : List Value).toArray below meth cZ (MQ below (zPost D A (rI0 N ad fun q g' => (0 ≤ q ∧ q ≤ 1) ∧ (∃ F' r' : Nat → Int, okMr cs ad g' i x F' r' st op ai fa mu tb tp ∧ (∀ f, F' f = F f) ∧ (∀ j, j < 350 ∨ 700 ≤ j → r' j = r j)) ∧ ∀ j, j < i ∨ i + 30 ≤ j ∨ (i + 8 ≤ j ∧ j ≤ i + 12) → g' j = g j)) ([.ref (ad i)] : List Value).toArray sZ ({ frames := 10, cells := 0, slots := 0, locals := 600 } : Room).cells ({ frames := 10, cells := 0, slots := 0, locals := 600 } : Room).slots A) D A 4 (N) ad g1 (0) (0) 8 [(0, .ref (ad i)), (1, .int (zI (so))), (2, .int (zI (nn)))] [] := by
    intro n9
    induction n9 using Nat.strongRecOn with
    | ind n9 ih_lp1 =>
      intro so nn F9 r9 g1 hm9 fM fF fW fR f3 hvlp10 hvlp11 hvlp12
      obtain ⟨hg_y26, ⟨⟨e13_y26, e14_y26, e25_y26, e27_y26, e29_y26⟩, k15_y26, k16_y26, k17_y26, k18_y26, k19_y26, k20_y26, k23_y26, k21_y26⟩, hRD_y26, hTx_y26, hA_y26, ns_y26, nh_y26, nd_y26, rf_y26, pi_y26, te_y26, ki_y26, li_y26, ok1_y26, ok2_y26, fo_y26, dd_y26, dps_y26, ⟨ha1_y26, ha2_y26, ha3_y26, ha4_y26, ha5_y26, ha6_y26, ha7_y26, ha8_y26, ha9_y26, ha10_y26, ha11_y26, ha12_y26, ha13_y26, ha14_y26, ha15_y26, ha24_y26, ha25_y26, ha26_y26, ha27_y26, ha28_y26, ha29_y26⟩, hEv_y26, hPt_y26, hns_y26, htp_y26⟩ := id fM
      obtain ⟨-, hop_y26, hai_y26, hfa_y26, hT_y26, hT1_y26⟩ := id hEv_y26
      have e14 := e14_y26
      have e25 := e25_y26
      have e27 := e27_y26
      have e29 := e29_y26
      have hop := hop_y26
      have hai := hai_y26
      have hfa := hfa_y26
      have hT := hT_y26
      have hT1 := hT1_y26
      have hEv := hEv_y26
      have htp := htp_y26
      have hns := hns_y26
      have hPt := hPt_y26
      have hay27 : zAt ad (i) (ad i) := rfl
      have hay28 : zAt ad (i + 1) (ad (i + 1)) := rfl
      have hay29 : zAt ad (i + 2) (ad (i + 2)) := rfl
      have hay30 : zAt ad (i + 3) (ad (i + 3)) := rfl
      have hay31 : zAt ad (i + 4) (ad (i + 4)) := rfl
      have hay32 : zAt ad (i + 5) (ad (i + 5)) := rfl
      have hay33 : zAt ad (i + 6) (ad (i + 6)) := rfl
      have hay34 : zAt ad (i + 7) (ad (i + 7)) := rfl
      have hay35 : zAt ad (i + 8) (ad (i + 8)) := rfl
      have hay36 : zAt ad (i + 9) (ad (i + 9)) := rfl
      have hay37 : zAt ad (i + 10) (ad (i + 10)) := rfl
      have hay38 : zAt ad (i + 11) (ad (i + 11)) := rfl
      have hay39 : zAt ad (i + 12) (ad (i + 12)) := rfl
      have hay40 : zAt ad (i + 13) (ad (i + 13)) := rfl
      have hay41 : zAt ad (i + 14) (ad (i + 14)) := rfl
      have hay42 : zAt ad (i + 15) (ad (i + 15)) := rfl
      have hay43 : zAt ad (i + 24) (ad (i + 24)) := rfl
      have hay44 : zAt ad (i + 25) (ad (i + 25)) := rfl
      have hay45 : zAt ad (i + 26) (ad (i + 26)) := rfl
      have hay46 : zAt ad (i + 27) (ad (i + 27)) := rfl
      have hay47 : zAt ad (i + 28) (ad (i + 28)) := rfl
      have hay48 : zAt ad (i + 29) (ad (i + 29)) := rfl
      obtain ⟨⟨hsyy49, htyy49, hnyy49, hpyy49⟩, hlyy49⟩ := okA.at0 hA_y26
      simp only [Nat.zero_add] at hsyy49 hnyy49 hpyy49
      have hmn : ∀ s, s < 4 → 0 ≤ r9 (6 + 86 * s) ∧ r9 (6 + 86 * s) ≤ 12 := fun s hs => (hsyy49 s hs).1
      have h5 : 0 ≤ r9 5 ∧ r9 5 ≤ 6 := hpyy49
      have h13e : F9 13 = F 13 := fF 13
      have h14e : F9 14 = F 14 := fF 14
      have h17e : F9 17 = F 17 := fF 17
      have h20e : F9 20 = F 20 := fF 20
      have h21e : F9 21 = F 21 := fF 21
      have h23e : F9 23 = F 23 := fF 23
      have h24e : F9 24 = F 24 := fF 24
      have h15e : F9 15 = F 15 := fF 15
      have h16e : F9 16 = F 16 := fF 16
      have h18e : F9 18 = F 18 := fF 18
      have h19e : F9 19 = F 19 := fF 19
      have h25e : F9 25 = F 25 := fF 25
      have h26e : F9 26 = F 26 := fF 26
      have h27e : F9 27 = F 27 := fF 27
      have h29e : F9 29 = F 29 := fF 29
      have hW2 := fW.2.1
      have h17a : F9 17 = F 17 := fF 17
      refine z_iload_n C 2 dX10_isNoted_8 rfl ?_
      refine z_bipush (z := 48) C dX10_isNoted_9 (by decide) ?_
      refine z_icmp_gt (tgt := 123) C dX10_isNoted_11 (by decide) (by omega) (by omega) (fun hby50 => ?_) (fun hby50 => ?_)
      · refine z_iload_n C 1 dX10_isNoted_123 rfl ?_
        have hMy51 : okMr cs ad g1 i (x) F9 r9 st op ai fa mu tb tp := okMr.upd fM hg_y26 fM.2.1 (fun f _ => rfl) ha1_y26 (hA_y26.mono (by omega)) (fun j a b => by
            exact Or.inl (by rfl))
        exact z_zret C hr hlk dX10_isNoted_124 (nb01 (by omega)) (by decide) (by decide) ⟨so, rfl, rfl, rfl, by omega, ⟨_, _, hMy51, fun f  => (fF f ), fR⟩, fun j j1 => by exact f3 j j1⟩
      · refine z_iconst (z := 0) C dX10_isNoted_14 rfl ?_
        refine z_istore_n (lv' := [(3, .int (zI (0))), (0, .ref (ad i)), (1, .int (zI (so))), (2, .int (zI (nn)))]) C dX10_isNoted_15 rfl (by decide) rfl ?_
        have lp2 : ∀ (n9 : Nat) (so : Int) (ii : Int) (F9b : Nat → Int) (r9b : Nat → Int) (g1 : Nat → va_E), (9 - ii).toNat = n9 → (okMr cs ad g1 i x F9b r9b st op ai fa mu tb tp) → ((∀ f, F9b f = F f)) → (okW r9b 350 (x)) → ((∀ j, j < 350 ∨ 700 ≤ j → r9b j = r j)) → (∀ j, j < i ∨ i + 30 ≤ j ∨ (i + 8 ≤ j ∧ j ≤ i + 12) → g1 j = g j) → (0 ≤ so ∧ so ≤ 1) → (0 ≤ ii ∧ ii ≤ F 17) → (r9b 350 ≤ 2000 + nn) → zV pZ l eZ ({ frames := 10, cells := 0, slots := 0, locals := 600 } : Room) sZ mZ ([.ref (ad i)] : List Value).toArray below meth cZ (MQ below (zPost D A (rI0 N ad fun q g' => (0 ≤ q ∧ q ≤ 1) ∧ (∃ F' r' : Nat → Int, okMr cs ad g' i x F' r' st op ai fa mu tb tp ∧ (∀ f, F' f = F f) ∧ (∀ j, j < 350 ∨ 700 ≤ j → r' j = r j)) ∧ ∀ j, j < i ∨ i + 30 ≤ j ∨ (i + 8 ≤ j ∧ j ≤ i + 12) → g' j = g j)) ([.ref (ad i)] : List Value).toArray sZ ({ frames := 10, cells := 0, slots := 0, locals := 600 } : Room).cells ({ frames := 10, cells := 0, slots := 0, locals := 600 } : Room).slots A) D A 4 (N) ad g1 (0) (0) 16 [(0, .ref (ad i)), (1, .int (zI (so))), (2, .int (zI (nn))), (3, .int (zI (ii)))] [] := by
          intro n9
          induction n9 using Nat.strongRecOn with
          | ind n9 ih_lp2 =>
            intro so ii F9b r9b g1 hm9 fMb fFb fWb fRb f3 hvlp20 hvlp21 hvlp22
            obtain ⟨hg_y52, ⟨⟨e13_y52, e14_y52, e25_y52, e27_y52, e29_y52⟩, k15_y52, k16_y52, k17_y52, k18_y52, k19_y52, k20_y52, k23_y52, k21_y52⟩, hRD_y52, hTx_y52, hA_y52, ns_y52, nh_y52, nd_y52, rf_y52, pi_y52, te_y52, ki_y52, li_y52, ok1_y52, ok2_y52, fo_y52, dd_y52, dps_y52, ⟨ha1_y52, ha2_y52, ha3_y52, ha4_y52, ha5_y52, ha6_y52, ha7_y52, ha8_y52, ha9_y52, ha10_y52, ha11_y52, ha12_y52, ha13_y52, ha14_y52, ha15_y52, ha24_y52, ha25_y52, ha26_y52, ha27_y52, ha28_y52, ha29_y52⟩, hEv_y52, hPt_y52, hns_y52, htp_y52⟩ := id fMb
            obtain ⟨-, hop_y52, hai_y52, hfa_y52, hT_y52, hT1_y52⟩ := id hEv_y52
            have e14 := e14_y52
            have e25 := e25_y52
            have e27 := e27_y52
            have e29 := e29_y52
            have hop := hop_y52
            have hai := hai_y52
            have hfa := hfa_y52
            have hT := hT_y52
            have hT1 := hT1_y52
            have hEv := hEv_y52
            have htp := htp_y52
            have hns := hns_y52
            have hPt := hPt_y52
            have hay53 : zAt ad (i) (ad i) := rfl
            have hay54 : zAt ad (i + 1) (ad (i + 1)) := rfl
            have hay55 : zAt ad (i + 2) (ad (i + 2)) := rfl
            have hay56 : zAt ad (i + 3) (ad (i + 3)) := rfl
            have hay57 : zAt ad (i + 4) (ad (i + 4)) := rfl
            have hay58 : zAt ad (i + 5) (ad (i + 5)) := rfl
            have hay59 : zAt ad (i + 6) (ad (i + 6)) := rfl
            have hay60 : zAt ad (i + 7) (ad (i + 7)) := rfl
            have hay61 : zAt ad (i + 8) (ad (i + 8)) := rfl
            have hay62 : zAt ad (i + 9) (ad (i + 9)) := rfl
            have hay63 : zAt ad (i + 10) (ad (i + 10)) := rfl
            have hay64 : zAt ad (i + 11) (ad (i + 11)) := rfl
            have hay65 : zAt ad (i + 12) (ad (i + 12)) := rfl
            have hay66 : zAt ad (i + 13) (ad (i + 13)) := rfl
            have hay67 : zAt ad (i + 14) (ad (i + 14)) := rfl
            have hay68 : zAt ad (i + 15) (ad (i + 15)) := rfl
            have hay69 : zAt ad (i + 24) (ad (i + 24)) := rfl
            have hay70 : zAt ad (i + 25) (ad (i + 25)) := rfl
            have hay71 : zAt ad (i + 26) (ad (i + 26)) := rfl
            have hay72 : zAt ad (i + 27) (ad (i + 27)) := rfl
            have hay73 : zAt ad (i + 28) (ad (i + 28)) := rfl
            have hay74 : zAt ad (i + 29) (ad (i + 29)) := rfl
            obtain ⟨⟨hsyy75, htyy75, hnyy75, hpyy75⟩, hlyy75⟩ := okA.at0 hA_y52
            simp only [Nat.zero_add] at hsyy75 hnyy75 hpyy75
            have hmn : ∀ s, s < 4 → 0 ≤ r9b (6 + 86 * s) ∧ r9b (6 + 86 * s) ≤ 12 := fun s hs => (hsyy75 s hs).1
            have h5 : 0 ≤ r9b 5 ∧ r9b 5 ≤ 6 := hpyy75
            have h13be : F9b 13 = F 13 := fFb 13
            have h14be : F9b 14 = F 14 := fFb 14
            have h17be : F9b 17 = F 17 := fFb 17
            have h20be : F9b 20 = F 20 := fFb 20
            have h21be : F9b 21 = F 21 := fFb 21
            have h23be : F9b 23 = F 23 := fFb 23
            have h24be : F9b 24 = F 24 := fFb 24
            have h15be : F9b 15 = F 15 := fFb 15
            have h16be : F9b 16 = F 16 := fFb 16
            have h18be : F9b 18 = F 18 := fFb 18
            have h19be : F9b 19 = F 19 := fFb 19
            have h25be : F9b 25 = F 25 := fFb 25
            have h26be : F9b 26 = F 26 := fFb 26
            have h27be : F9b 27 = F 27 := fFb 27
            have h29be : F9b 29 = F 29 := fFb 29
            have hW2b := fWb.2.1
            have h17b : F9b 17 = F 17 := fFb 17
            refine z_iload_n C 3 dX10_isNoted_16 rfl ?_
            refine z_aload_n C 0 dX10_isNoted_17 rfl ?_
            refine z_get (v := .int (zI (F9b 17))) C (lt_A0 hN rfl) hay53 hg_y52 rfl inA_X10 17 (by decide) q_1476 rfl (fv (F := F9b) (f := 17) rfl) dX10_isNoted_18 ?_
            refine z_icmp_ge (tgt := 73) C dX10_isNoted_21 (by decide) (by omega) (by omega) (fun hby76 => ?_) (fun hby76 => ?_)
            · refine z_iload_n C 2 dX10_isNoted_73 rfl ?_
              refine z_bipush (z := 24) C dX10_isNoted_74 (by decide) ?_
              refine z_icmp_ne (tgt := 110) C dX10_isNoted_76 (by decide) (by omega) (by omega) (fun hby77 => ?_) (fun hby77 => ?_)
              · refine z_aload_n C 0 dX10_isNoted_110 rfl ?_
                refine z_sipush (z := 350) C dX10_isNoted_111 (by decide) ?_
                have hey79 : F9b 13 = F9b 13 := rfl
                have hey80 : F9b 14 = F9b 14 := rfl
                have hey81 : F9b 25 = F9b 25 := rfl
                have hey82 : F9b 27 = F9b 27 := rfl
                have hey83 : F9b 28 = F9b 28 := rfl
                have hey84 : F9b 29 = F9b 29 := rfl
                have hEvy78 : okEnv F9b _ _ _ _ _ := ⟨by omega, hop, hai, hfa, hT, hT1⟩
                refine z_cV (As := [.int (zI (350))]) (rest := []) (ci := 12) C (c_X10_hour l D A cs tt N ad _ i hN _ hg_y52 _ ha1_y52 _ ha3_y52 _ ha4_y52 _ ha5_y52 _ ha6_y52 _ ha7_y52 _ ha14_y52 _ ha15_y52 350 (by omega) hEvy78 (x) (by omega) fWb (by omega) (by omega)) (lt_A0 hN rfl) hay53 hg_y52 rfl rfl mv_yX10_hour q_1885 hd_yX10_hour (by decide) (Nat.le_of_ble_eq_true rfl) (by decide) dX10_isNoted_114 rfl (kV0 fun gvy85 hvy85 => ?_)
                obtain ⟨⟨rvy85, hcvy85, hwvy85, htvy85, hyvy85⟩, ⟨t4vy85, h4vy85⟩, ⟨t5vy85, h5vy85⟩, hfvy85⟩ := hvy85
                have hAy86 : okA rvy85 (x) := okA.tried hA_y52 (fun j a => hyvy85 j (by omega))
                obtain ⟨⟨hsyy87, htyy87, hnyy87, hpyy87⟩, hlyy87⟩ := okA.at0 hAy86
                simp only [Nat.zero_add] at hsyy87 hnyy87 hpyy87
                have hmn : ∀ s, s < 4 → 0 ≤ rvy85 (6 + 86 * s) ∧ rvy85 (6 + 86 * s) ≤ 12 := fun s hs => (hsyy87 s hs).1
                have h5 : 0 ≤ rvy85 5 ∧ rvy85 5 ≤ 6 := hpyy87
                refine z_iinc (z := nn + 1) (lv' := [(2, .int (zI (nn + 1))), (0, .ref (ad i)), (1, .int (zI (so))), (3, .int (zI (ii)))]) (j := 2) C dX10_isNoted_117 rfl rfl (by decide) rfl ?_
                refine z_goto (tgt := 8) C dX10_isNoted_120 (by decide) ?_
                have hgy88 := (hfvy85 (i) (ne_o (i := i) (c := 0) (d := 1) rfl) (ne_o (i := i) (c := 0) (d := 14) rfl) (ne_o (i := i) (c := 0) (d := 15) rfl)).trans hg_y52
                have hMy89 : okMr cs ad gvy85 i (x) F9b rvy85 st op ai fa mu tb tp := okMr.upd fMb hgy88 fMb.2.1 (fun f _ => rfl) hcvy85 (hAy86.mono (by omega)) (fun j a b => by
                    by_cases e0 : j = i + 14
                    · exact Or.inr ⟨14, _, e0, lsP.l (by decide), by rw [e0]; exact h4vy85⟩
                    by_cases e1 : j = i + 15
                    · exact Or.inr ⟨15, _, e1, lsP.l (by decide), by rw [e1]; exact h5vy85⟩
                    exact Or.inl (by rw [hfvy85 _ (by omega) (by omega) (by omega)]))
                have hFF : (∀ f, F9b f = F f) := fun f  => fFb f 
                have hey90 : F9b 13 = F9b 13 := rfl
                have hey91 : F9b 14 = F9b 14 := rfl
                refine z_lv (lv' := [(0, .ref (ad i)), (1, .int (zI (so))), (2, .int (zI (nn + 1)))]) [1, 2, 0] rfl ?_
                exact ih_lp1 _ (by omega) (so) (nn + 1) _ _ gvy85 rfl hMy89 hFF hwvy85 ((fun j a9 => (hyvy85 j (by omega)).trans (fRb j a9))) (fun j j1 => by rw [hfvy85 _ (by omega) (by omega) (by omega)]; exact f3 j j1) (by omega) (by omega) (by omega)
              · refine z_iconst (z := 0) C dX10_isNoted_79 rfl ?_
                refine z_istore_n (lv' := [(3, .int (zI (0))), (0, .ref (ad i)), (1, .int (zI (so))), (2, .int (zI (nn)))]) C dX10_isNoted_80 rfl (by decide) rfl ?_
                have lp3 : ∀ (n9 : Nat) (ss : Int) (F9c : Nat → Int) (r9c : Nat → Int) (g1 : Nat → va_E), (5 - ss).toNat = n9 → (okMr cs ad g1 i x F9c r9c st op ai fa mu tb tp) → ((∀ f, F9c f = F f)) → (okW r9c 350 (x)) → ((∀ j, j < 350 ∨ 700 ≤ j → r9c j = r j)) → (∀ j, j < i ∨ i + 30 ≤ j ∨ (i + 8 ≤ j ∧ j ≤ i + 12) → g1 j = g j) → (0 ≤ ss ∧ ss ≤ F 13) → (r9c 350 ≤ 2000 + nn) → (0 ≤ so ∧ so ≤ 1) → zV pZ l eZ ({ frames := 10, cells := 0, slots := 0, locals := 600 } : Room) sZ mZ ([.ref (ad i)] : List Value).toArray below meth cZ (MQ below (zPost D A (rI0 N ad fun q g' => (0 ≤ q ∧ q ≤ 1) ∧ (∃ F' r' : Nat → Int, okMr cs ad g' i x F' r' st op ai fa mu tb tp ∧ (∀ f, F' f = F f) ∧ (∀ j, j < 350 ∨ 700 ≤ j → r' j = r j)) ∧ ∀ j, j < i ∨ i + 30 ≤ j ∨ (i + 8 ≤ j ∧ j ≤ i + 12) → g' j = g j)) ([.ref (ad i)] : List Value).toArray sZ ({ frames := 10, cells := 0, slots := 0, locals := 600 } : Room).cells ({ frames := 10, cells := 0, slots := 0, locals := 600 } : Room).slots A) D A 4 (N) ad g1 (0) (0) 81 [(0, .ref (ad i)), (1, .int (zI (so))), (2, .int (zI (nn))), (3, .int (zI (ss)))] [] := by
                  intro n9
                  induction n9 using Nat.strongRecOn with
                  | ind n9 ih_lp3 =>
                    intro ss F9c r9c g1 hm9 fMc fFc fWc fRc f3 hvlp30 hvlp31 hvlp32
                    obtain ⟨hg_y92, ⟨⟨e13_y92, e14_y92, e25_y92, e27_y92, e29_y92⟩, k15_y92, k16_y92, k17_y92, k18_y92, k19_y92, k20_y92, k23_y92, k21_y92⟩, hRD_y92, hTx_y92, hA_y92, ns_y92, nh_y92, nd_y92, rf_y92, pi_y92, te_y92, ki_y92, li_y92, ok1_y92, ok2_y92, fo_y92, dd_y92, dps_y92, ⟨ha1_y92, ha2_y92, ha3_y92, ha4_y92, ha5_y92, ha6_y92, ha7_y92, ha8_y92, ha9_y92, ha10_y92, ha11_y92, ha12_y92, ha13_y92, ha14_y92, ha15_y92, ha24_y92, ha25_y92, ha26_y92, ha27_y92, ha28_y92, ha29_y92⟩, hEv_y92, hPt_y92, hns_y92, htp_y92⟩ := id fMc
                    obtain ⟨-, hop_y92, hai_y92, hfa_y92, hT_y92, hT1_y92⟩ := id hEv_y92
                    have e14 := e14_y92
                    have e25 := e25_y92
                    have e27 := e27_y92
                    have e29 := e29_y92
                    have hop := hop_y92
                    have hai := hai_y92
                    have hfa := hfa_y92
                    have hT := hT_y92
                    have hT1 := hT1_y92
                    have hEv := hEv_y92
                    have htp := htp_y92
                    have hns := hns_y92
                    have hPt := hPt_y92
                    have hay93 : zAt ad (i) (ad i) := rfl
                    have hay94 : zAt ad (i + 1) (ad (i + 1)) := rfl
                    have hay95 : zAt ad (i + 2) (ad (i + 2)) := rfl
                    have hay96 : zAt ad (i + 3) (ad (i + 3)) := rfl
                    have hay97 : zAt ad (i + 4) (ad (i + 4)) := rfl
                    have hay98 : zAt ad (i + 5) (ad (i + 5)) := rfl
                    have hay99 : zAt ad (i + 6) (ad (i + 6)) := rfl
                    have hay100 : zAt ad (i + 7) (ad (i + 7)) := rfl
                    have hay101 : zAt ad (i + 8) (ad (i + 8)) := rfl
                    have hay102 : zAt ad (i + 9) (ad (i + 9)) := rfl
                    have hay103 : zAt ad (i + 10) (ad (i + 10)) := rfl
                    have hay104 : zAt ad (i + 11) (ad (i + 11)) := rfl
                    have hay105 : zAt ad (i + 12) (ad (i + 12)) := rfl
                    have hay106 : zAt ad (i + 13) (ad (i + 13)) := rfl
                    have hay107 : zAt ad (i + 14) (ad (i + 14)) := rfl
                    have hay108 : zAt ad (i + 15) (ad (i + 15)) := rfl
                    have hay109 : zAt ad (i + 24) (ad (i + 24)) := rfl
                    have hay110 : zAt ad (i + 25) (ad (i + 25)) := rfl
                    have hay111 : zAt ad (i + 26) (ad (i + 26)) := rfl
                    have hay112 : zAt ad (i + 27) (ad (i + 27)) := rfl
                    have hay113 : zAt ad (i + 28) (ad (i + 28)) := rfl
                    have hay114 : zAt ad (i + 29) (ad (i + 29)) := rfl
                    obtain ⟨⟨hsyy115, htyy115, hnyy115, hpyy115⟩, hlyy115⟩ := okA.at0 hA_y92
                    simp only [Nat.zero_add] at hsyy115 hnyy115 hpyy115
                    have hmn : ∀ s, s < 4 → 0 ≤ r9c (6 + 86 * s) ∧ r9c (6 + 86 * s) ≤ 12 := fun s hs => (hsyy115 s hs).1
                    have h5 : 0 ≤ r9c 5 ∧ r9c 5 ≤ 6 := hpyy115
                    have h13ce : F9c 13 = F 13 := fFc 13
                    have h14ce : F9c 14 = F 14 := fFc 14
                    have h17ce : F9c 17 = F 17 := fFc 17
                    have h20ce : F9c 20 = F 20 := fFc 20
                    have h21ce : F9c 21 = F 21 := fFc 21
                    have h23ce : F9c 23 = F 23 := fFc 23
                    have h24ce : F9c 24 = F 24 := fFc 24
                    have h15ce : F9c 15 = F 15 := fFc 15
                    have h16ce : F9c 16 = F 16 := fFc 16
                    have h18ce : F9c 18 = F 18 := fFc 18
                    have h19ce : F9c 19 = F 19 := fFc 19
                    have h25ce : F9c 25 = F 25 := fFc 25
                    have h26ce : F9c 26 = F 26 := fFc 26
                    have h27ce : F9c 27 = F 27 := fFc 27
                    have h29ce : F9c 29 = F 29 := fFc 29
                    have hW2c := fWc.2.1
                    refine z_iload_n C 3 dX10_isNoted_81 rfl ?_
                    refine z_aload_n C 0 dX10_isNoted_82 rfl ?_
                    refine z_get (v := .int (zI (F9c 13))) C (lt_A0 hN rfl) hay93 hg_y92 rfl inA_X10 13 (by decide) q_1472 rfl (fv (F := F9c) (f := 13) rfl) dX10_isNoted_83 ?_
                    refine z_icmp_ge (tgt := 110) C dX10_isNoted_86 (by decide) (by omega) (by omega) (fun hby116 => ?_) (fun hby116 => ?_)
                    · refine z_aload_n C 0 dX10_isNoted_110 rfl ?_
                      refine z_sipush (z := 350) C dX10_isNoted_111 (by decide) ?_
                      have hey118 : F9c 13 = F9c 13 := rfl
                      have hey119 : F9c 14 = F9c 14 := rfl
                      have hey120 : F9c 25 = F9c 25 := rfl
                      have hey121 : F9c 27 = F9c 27 := rfl
                      have hey122 : F9c 28 = F9c 28 := rfl
                      have hey123 : F9c 29 = F9c 29 := rfl
                      have hEvy117 : okEnv F9c _ _ _ _ _ := ⟨by omega, hop, hai, hfa, hT, hT1⟩
                      refine z_cV (As := [.int (zI (350))]) (rest := []) (ci := 12) C (c_X10_hour l D A cs tt N ad _ i hN _ hg_y92 _ ha1_y92 _ ha3_y92 _ ha4_y92 _ ha5_y92 _ ha6_y92 _ ha7_y92 _ ha14_y92 _ ha15_y92 350 (by omega) hEvy117 (x) (by omega) fWc (by omega) (by omega)) (lt_A0 hN rfl) hay93 hg_y92 rfl rfl mv_yX10_hour q_1885 hd_yX10_hour (by decide) (Nat.le_of_ble_eq_true rfl) (by decide) dX10_isNoted_114 rfl (kV0 fun gvy124 hvy124 => ?_)
                      obtain ⟨⟨rvy124, hcvy124, hwvy124, htvy124, hyvy124⟩, ⟨t4vy124, h4vy124⟩, ⟨t5vy124, h5vy124⟩, hfvy124⟩ := hvy124
                      have hAy125 : okA rvy124 (x) := okA.tried hA_y92 (fun j a => hyvy124 j (by omega))
                      obtain ⟨⟨hsyy126, htyy126, hnyy126, hpyy126⟩, hlyy126⟩ := okA.at0 hAy125
                      simp only [Nat.zero_add] at hsyy126 hnyy126 hpyy126
                      have hmn : ∀ s, s < 4 → 0 ≤ rvy124 (6 + 86 * s) ∧ rvy124 (6 + 86 * s) ≤ 12 := fun s hs => (hsyy126 s hs).1
                      have h5 : 0 ≤ rvy124 5 ∧ rvy124 5 ≤ 6 := hpyy126
                      refine z_iinc (z := nn + 1) (lv' := [(2, .int (zI (nn + 1))), (0, .ref (ad i)), (1, .int (zI (so))), (3, .int (zI (ss)))]) (j := 2) C dX10_isNoted_117 rfl rfl (by decide) rfl ?_
                      refine z_goto (tgt := 8) C dX10_isNoted_120 (by decide) ?_
                      have hgy127 := (hfvy124 (i) (ne_o (i := i) (c := 0) (d := 1) rfl) (ne_o (i := i) (c := 0) (d := 14) rfl) (ne_o (i := i) (c := 0) (d := 15) rfl)).trans hg_y92
                      have hMy128 : okMr cs ad gvy124 i (x) F9c rvy124 st op ai fa mu tb tp := okMr.upd fMc hgy127 fMc.2.1 (fun f _ => rfl) hcvy124 (hAy125.mono (by omega)) (fun j a b => by
                          by_cases e0 : j = i + 14
                          · exact Or.inr ⟨14, _, e0, lsP.l (by decide), by rw [e0]; exact h4vy124⟩
                          by_cases e1 : j = i + 15
                          · exact Or.inr ⟨15, _, e1, lsP.l (by decide), by rw [e1]; exact h5vy124⟩
                          exact Or.inl (by rw [hfvy124 _ (by omega) (by omega) (by omega)]))
                      have hFF : (∀ f, F9c f = F f) := fun f  => fFc f 
                      have hey129 : F9c 13 = F9c 13 := rfl
                      have hey130 : F9c 14 = F9c 14 := rfl
                      refine z_lv (lv' := [(0, .ref (ad i)), (1, .int (zI (so))), (2, .int (zI (nn + 1)))]) [1, 2, 0] rfl ?_
                      exact ih_lp1 _ (by omega) (so) (nn + 1) _ _ gvy124 rfl hMy128 hFF hwvy124 ((fun j a9 => (hyvy124 j (by omega)).trans (fRc j a9))) (fun j j1 => by rw [hfvy124 _ (by omega) (by omega) (by omega)]; exact f3 j j1) (by omega) (by omega) (by omega)
                    · refine z_aload_n C 0 dX10_isNoted_89 rfl ?_
                      refine z_get (v := .ref (ad (i + 28))) C (lt_A0 hN rfl) hay93 hg_y92 rfl inA_X10 57 (by decide) q_1516 rfl rfl dX10_isNoted_90 ?_
                      refine z_iload_n C 3 dX10_isNoted_93 rfl ?_
                      refine z_aload_n C 0 dX10_isNoted_94 rfl ?_
                      refine z_sipush (z := 350) C dX10_isNoted_95 (by decide) ?_
                      refine z_iload_n C 3 dX10_isNoted_98 rfl ?_
                      refine z_iconst (z := 3) C dX10_isNoted_99 rfl ?_
                      obtain ⟨ny131, hny131⟩ : ∃ n9 : Nat, ss = (n9 : Int) := ⟨(ss).toNat, by omega⟩
                      rw [hny131]
                      obtain ⟨py132, hpy132⟩ : ∃ p9 : Nat, 350 + 6 + 86 * ny131 = p9 := ⟨_, rfl⟩
                      have hqy134 : qS r9c py132 := ((fWc.1 ny131 (by omega)).of (p2 := py132) (by omega)).q (by have hb9 := mBb (t := r9c 350 + x) (by omega); omega)
                      have hmky135 := hqy134.1
                      refine z_cV (As := [.int (zI (350)), .int (zI ((ny131 : Int))), .int (zI (3))]) (rest := [.int (zI ((ny131 : Int))), .ref (ad (i + 28))]) (ci := 12) C (c_X10_sumA l D A cs tt N ad _ i hN _ hg_y92 _ ha1_y92 350 ny131 py132 hpy132 (by omega) (by omega) hqy134 3 (by omega)) (lt_A0 hN rfl) hay93 hg_y92 rfl rfl mv_yX10_sum q_1745 hd_yX10_sum (by decide) (Nat.le_of_ble_eq_true rfl) (by decide) dX10_isNoted_100 rfl (kI0 fun vy133 gvy133 hvy133 => ?_)
                      obtain ⟨hvy133, rfl⟩ := hvy133
                      refine z_iast C (lt_A (c := 28) hN rfl) hay113 ha28_y92 (ny131) (by omega) (by omega) (by decide) dX10_isNoted_103 (fun gy136 egy137 => ?_)
                      have hgy138 := up_s egy137
                      refine z_iinc (z := (ny131 : Int) + 1) (lv' := [(3, .int (zI ((ny131 : Int) + 1))), (0, .ref (ad i)), (1, .int (zI (so))), (2, .int (zI (nn)))]) (j := 3) C dX10_isNoted_104 rfl rfl (by decide) rfl ?_
                      refine z_goto (tgt := 81) C dX10_isNoted_107 (by decide) ?_
                      have hgy139 := up_n egy137 hg_y92 (ne_o (i := i) (c := 0) (d := 28) rfl)
                      have hgy140 := up_n egy137 ha1_y92 (ne_o (i := i) (c := 1) (d := 28) rfl)
                      have hMy141 : okMr cs ad gy136 i (x) F9c r9c st op ai fa mu tb tp := okMr.upd fMc hgy139 fMc.2.1 (fun f _ => rfl) hgy140 (hA_y92.mono (by omega)) (fun j a b => by
                          by_cases e0 : j = i + 28
                          · exact Or.inr ⟨28, _, e0, lsP.l (by decide), by rw [e0]; exact hgy138⟩
                          exact Or.inl (by rw [egy137, va_up_ne _ _ (by omega)]))
                      have hFFc : (∀ f, F9c f = F f) := fun f  => fFc f 
                      have hey142 : F9c 13 = F9c 13 := rfl
                      have hey143 : F9c 14 = F9c 14 := rfl
                      refine z_lv (lv' := [(0, .ref (ad i)), (1, .int (zI (so))), (2, .int (zI (nn))), (3, .int (zI ((ny131 : Int) + 1)))]) [1, 2, 3, 0] rfl ?_
                      exact ih_lp3 _ (by omega) ((ny131 : Int) + 1) _ _ gy136 rfl hMy141 hFFc fWc (fRc) (fun j j1 => by rw [egy137, va_up_ne _ _ (by omega)]; exact f3 j j1) (by omega) (by omega) (by omega)
                have hMy144 : okMr cs ad g1 i (x) F9b r9b st op ai fa mu tb tp := okMr.upd fMb hg_y52 fMb.2.1 (fun f _ => rfl) ha1_y52 (hA_y52.mono (by omega)) (fun j a b => by
                    exact Or.inl (by rfl))
                have hFFc : (∀ f, F9b f = F f) := fun f  => fFb f 
                have hey145 : F9b 13 = F9b 13 := rfl
                have hey146 : F9b 14 = F9b 14 := rfl
                refine z_lv (lv' := [(0, .ref (ad i)), (1, .int (zI (so))), (2, .int (zI (nn))), (3, .int (zI (0)))]) [1, 2, 3, 0] rfl ?_
                exact lp3 _ (0) _ _ g1 rfl hMy144 hFFc fWb (fRb) (fun j j1 => by exact f3 j j1) (by omega) (by omega) (by omega)
            · refine z_iload_n C 1 dX10_isNoted_24 rfl ?_
              refine z_if_eq (tgt := 65) C dX10_isNoted_25 (by decide) (by omega) (fun hby147 => ?_) (fun hby147 => ?_)
              · refine z_iconst (z := 0) C dX10_isNoted_65 rfl ?_
                refine z_istore_n (lv' := [(1, .int (zI (0))), (0, .ref (ad i)), (2, .int (zI (nn))), (3, .int (zI (ii)))]) C dX10_isNoted_66 rfl (by decide) rfl ?_
                refine z_iinc (z := ii + 1) (lv' := [(3, .int (zI (ii + 1))), (1, .int (zI (0))), (0, .ref (ad i)), (2, .int (zI (nn)))]) (j := 3) C dX10_isNoted_67 rfl rfl (by decide) rfl ?_
                refine z_goto (tgt := 16) C dX10_isNoted_70 (by decide) ?_
                have hMy148 : okMr cs ad g1 i (x) F9b r9b st op ai fa mu tb tp := okMr.upd fMb hg_y52 fMb.2.1 (fun f _ => rfl) ha1_y52 (hA_y52.mono (by omega)) (fun j a b => by
                    exact Or.inl (by rfl))
                have hFFb : (∀ f, F9b f = F f) := fun f  => fFb f 
                have hey149 : F9b 13 = F9b 13 := rfl
                have hey150 : F9b 14 = F9b 14 := rfl
                refine z_lv (lv' := [(0, .ref (ad i)), (1, .int (zI (0))), (2, .int (zI (nn))), (3, .int (zI (ii + 1)))]) [2, 1, 3, 0] rfl ?_
                exact ih_lp2 _ (by omega) (0) (ii + 1) _ _ g1 rfl hMy148 hFFb fWb (fRb) (fun j j1 => by exact f3 j j1) (by omega) (by omega) (by omega)
              · refine z_aload_n C 0 dX10_isNoted_28 rfl ?_
                refine z_get (v := .ref (ad (i + 9))) C (lt_A0 hN rfl) hay53 hg_y52 rfl inA_X10 8 (by decide) q_1467 rfl rfl dX10_isNoted_29 ?_
                refine z_iload_n C 3 dX10_isNoted_32 rfl ?_
                refine z_iald C (lt_A (c := 9) hN rfl) hay62 ha9_y52 ((ii).toNat) (by omega) (by omega) (by decide) dX10_isNoted_33 ?_
                refine z_iload_n C 2 dX10_isNoted_34 rfl ?_
                obtain ⟨xy151, exy152, hxy153⟩ := zI_of (zI (nh_y52 ((ii).toNat)))
                rw [exy152]
                refine z_icmp_ne (tgt := 61) C dX10_isNoted_35 (by decide) (by omega) (by omega) (fun hby154 => ?_) (fun hby154 => ?_)
                · refine z_iconst (z := 1) C dX10_isNoted_61 rfl ?_
                  refine z_goto (tgt := 66) C dX10_isNoted_62 (by decide) ?_
                  refine z_istore_n (lv' := [(1, .int (zI (1))), (0, .ref (ad i)), (2, .int (zI (nn))), (3, .int (zI (ii)))]) C dX10_isNoted_66 rfl (by decide) rfl ?_
                  refine z_iinc (z := ii + 1) (lv' := [(3, .int (zI (ii + 1))), (1, .int (zI (1))), (0, .ref (ad i)), (2, .int (zI (nn)))]) (j := 3) C dX10_isNoted_67 rfl rfl (by decide) rfl ?_
                  refine z_goto (tgt := 16) C dX10_isNoted_70 (by decide) ?_
                  have hMy155 : okMr cs ad g1 i (x) F9b r9b st op ai fa mu tb tp := okMr.upd fMb hg_y52 fMb.2.1 (fun f _ => rfl) ha1_y52 (hA_y52.mono (by omega)) (fun j a b => by
                      exact Or.inl (by rfl))
                  have hFFb : (∀ f, F9b f = F f) := fun f  => fFb f 
                  have hey156 : F9b 13 = F9b 13 := rfl
                  have hey157 : F9b 14 = F9b 14 := rfl
                  refine z_lv (lv' := [(0, .ref (ad i)), (1, .int (zI (1))), (2, .int (zI (nn))), (3, .int (zI (ii + 1)))]) [2, 1, 3, 0] rfl ?_
                  exact ih_lp2 _ (by omega) (1) (ii + 1) _ _ g1 rfl hMy155 hFFb fWb (fRb) (fun j j1 => by exact f3 j j1) (by omega) (by omega) (by omega)
                · refine z_aload_n C 0 dX10_isNoted_38 rfl ?_
                  refine z_sipush (z := 350) C dX10_isNoted_39 (by decide) ?_
                  refine z_aload_n C 0 dX10_isNoted_42 rfl ?_
                  refine z_get (v := .ref (ad (i + 8))) C (lt_A0 hN rfl) hay53 hg_y52 rfl inA_X10 7 (by decide) q_1466 rfl rfl dX10_isNoted_43 ?_
                  refine z_iload_n C 3 dX10_isNoted_46 rfl ?_
                  refine z_iald C (lt_A (c := 8) hN rfl) hay61 ha8_y52 ((ii).toNat) (by omega) (by omega) (by decide) dX10_isNoted_47 ?_
                  have hrfy158 := hns_y52 ((ii).toNat) (by omega)
                  refine z_iconst (z := 3) C dX10_isNoted_48 rfl ?_
                  obtain ⟨ny159, hny159⟩ : ∃ n9 : Nat, ns_y52 ((ii).toNat) = (n9 : Int) := ⟨(ns_y52 ((ii).toNat)).toNat, by omega⟩
                  rw [hny159]
                  obtain ⟨py160, hpy160⟩ : ∃ p9 : Nat, 350 + 6 + 86 * ny159 = p9 := ⟨_, rfl⟩
                  have hqy162 : qS r9b py160 := ((fWb.1 ny159 (by omega)).of (p2 := py160) (by omega)).q (by have hb9 := mBb (t := r9b 350 + x) (by omega); omega)
                  have hmky163 := hqy162.1
                  refine z_cV (As := [.int (zI (350)), .int (zI ((ny159 : Int))), .int (zI (3))]) (rest := []) (ci := 12) C (c_X10_sumA l D A cs tt N ad _ i hN _ hg_y52 _ ha1_y52 350 ny159 py160 hpy160 (by omega) (by omega) hqy162 3 (by omega)) (lt_A0 hN rfl) hay53 hg_y52 rfl rfl mv_yX10_sum q_1745 hd_yX10_sum (by decide) (Nat.le_of_ble_eq_true rfl) (by decide) dX10_isNoted_49 rfl (kI0 fun vy161 gvy161 hvy161 => ?_)
                  obtain ⟨hvy161, rfl⟩ := hvy161
                  refine z_aload_n C 0 dX10_isNoted_52 rfl ?_
                  refine z_get (v := .ref (ad (i + 10))) C (lt_A0 hN rfl) hay53 hg_y52 rfl inA_X10 9 (by decide) q_1468 rfl rfl dX10_isNoted_53 ?_
                  refine z_iload_n C 3 dX10_isNoted_56 rfl ?_
                  refine z_iald C (lt_A (c := 10) hN rfl) hay63 ha10_y52 ((ii).toNat) (by omega) (by omega) (by decide) dX10_isNoted_57 ?_
                  obtain ⟨xy164, exy165, hxy166⟩ := zI_of (zI (nd_y52 ((ii).toNat)))
                  rw [exy165]
                  refine z_icmp_ne (tgt := 65) C dX10_isNoted_58 (by decide) (by omega) (by omega) (fun hby167 => ?_) (fun hby167 => ?_)
                  · refine z_iconst (z := 0) C dX10_isNoted_65 rfl ?_
                    refine z_istore_n (lv' := [(1, .int (zI (0))), (0, .ref (ad i)), (2, .int (zI (nn))), (3, .int (zI (ii)))]) C dX10_isNoted_66 rfl (by decide) rfl ?_
                    refine z_iinc (z := ii + 1) (lv' := [(3, .int (zI (ii + 1))), (1, .int (zI (0))), (0, .ref (ad i)), (2, .int (zI (nn)))]) (j := 3) C dX10_isNoted_67 rfl rfl (by decide) rfl ?_
                    refine z_goto (tgt := 16) C dX10_isNoted_70 (by decide) ?_
                    have hMy168 : okMr cs ad g1 i (x) F9b r9b st op ai fa mu tb tp := okMr.upd fMb hg_y52 fMb.2.1 (fun f _ => rfl) ha1_y52 (hA_y52.mono (by omega)) (fun j a b => by
                        exact Or.inl (by rfl))
                    have hFFb : (∀ f, F9b f = F f) := fun f  => fFb f 
                    have hey169 : F9b 13 = F9b 13 := rfl
                    have hey170 : F9b 14 = F9b 14 := rfl
                    refine z_lv (lv' := [(0, .ref (ad i)), (1, .int (zI (0))), (2, .int (zI (nn))), (3, .int (zI (ii + 1)))]) [2, 1, 3, 0] rfl ?_
                    exact ih_lp2 _ (by omega) (0) (ii + 1) _ _ g1 rfl hMy168 hFFb fWb (fRb) (fun j j1 => by exact f3 j j1) (by omega) (by omega) (by omega)
                  · refine z_iconst (z := 1) C dX10_isNoted_61 rfl ?_
                    refine z_goto (tgt := 66) C dX10_isNoted_62 (by decide) ?_
                    refine z_istore_n (lv' := [(1, .int (zI (1))), (0, .ref (ad i)), (2, .int (zI (nn))), (3, .int (zI (ii)))]) C dX10_isNoted_66 rfl (by decide) rfl ?_
                    refine z_iinc (z := ii + 1) (lv' := [(3, .int (zI (ii + 1))), (1, .int (zI (1))), (0, .ref (ad i)), (2, .int (zI (nn)))]) (j := 3) C dX10_isNoted_67 rfl rfl (by decide) rfl ?_
                    refine z_goto (tgt := 16) C dX10_isNoted_70 (by decide) ?_
                    have hMy171 : okMr cs ad g1 i (x) F9b r9b st op ai fa mu tb tp := okMr.upd fMb hg_y52 fMb.2.1 (fun f _ => rfl) ha1_y52 (hA_y52.mono (by omega)) (fun j a b => by
                        exact Or.inl (by rfl))
                    have hFFb : (∀ f, F9b f = F f) := fun f  => fFb f 
                    have hey172 : F9b 13 = F9b 13 := rfl
                    have hey173 : F9b 14 = F9b 14 := rfl
                    refine z_lv (lv' := [(0, .ref (ad i)), (1, .int (zI (1))), (2, .int (zI (nn))), (3, .int (zI (ii + 1)))]) [2, 1, 3, 0] rfl ?_
                    exact ih_lp2 _ (by omega) (1) (ii + 1) _ _ g1 rfl hMy171 hFFb fWb (fRb) (fun j j1 => by exact f3 j j1) (by omega) (by omega) (by omega)
        have hMy174 : okMr cs ad g1 i (x) F9 r9 st op ai fa mu tb tp := okMr.upd fM hg_y26 fM.2.1 (fun f _ => rfl) ha1_y26 (hA_y26.mono (by omega)) (fun j a b => by
            exact Or.inl (by rfl))
        have hFFb : (∀ f, F9 f = F f) := fun f  => fF f 
        have hey175 : F9 13 = F9 13 := rfl
        have hey176 : F9 14 = F9 14 := rfl
        refine z_lv (lv' := [(0, .ref (ad i)), (1, .int (zI (so))), (2, .int (zI (nn))), (3, .int (zI (0)))]) [1, 2, 3, 0] rfl ?_
        exact lp2 _ (so) (0) _ _ g1 rfl hMy174 hFFb fW (fR) (fun j j1 => by exact f3 j j1) (by omega) (by omega) (by omega)
  have hgy177 := (hfvy24 (i) (ne_o (i := i) (c := 0) (d := 1) rfl)).trans hg
  have hMy178 : okMr cs ad gvy24 i (x) F rvy24 st op ai fa mu tb tp := okMr.upd hM hgy177 hM.2.1 (fun f _ => rfl) hdvy24 (hAvy24.mono (by omega)) (fun j a b => by
      exact Or.inl (by rw [hfvy24 _ (by omega)]))
  have hFF : (∀ f, F f = F f) := fun f  => rfl
  have hey179 : F 13 = F 13 := rfl
  have hey180 : F 14 = F 14 := rfl
  refine z_lv (lv' := [(0, .ref (ad i)), (1, .int (zI (1))), (2, .int (zI (0)))]) [2, 1, 0] rfl ?_
  exact lp1 _ (1) (0) _ _ gvy24 rfl hMy178 hFF hWvy24 ((fun j a9 => (hyvy24 j a9).trans ((fun j _ => rfl) j a9))) (fun j j1 => by rw [hfvy24 _ (by omega)]) (by omega) (by omega) (by omega)

set_option maxRecDepth 100000 in
set_option maxHeartbeats 4000000 in
theorem c_X10_isGuess (l : Launch) (D : va_G) (A : Nat → Prop) (cs : Nat → ClassId) (tt : Nat) (N : Nat) (ad : Nat → Nat) (g : Nat → va_E) (i : Nat) (hN : i + 30 ≤ N) (x : Int) (hx : 0 ≤ x ∧ x ≤ 512) (F r : Nat → Int) {st op ai fa mu tb tp : Nat → Int} (hM : okMr cs ad g i x F r st op ai fa mu tb tp) (h27 : F 27 = -1) (z : Int) (hz : 0 ≤ z ∧ z < F 14) (z1 : Int) (hz1 : 1 ≤ z1 ∧ z1 ≤ 50) : zM l yX10_isGuess cX10_isGuess 4 (some .boolean) ({ frames := 11, cells := 0, slots := 0, locals := 660 } : Room) D A cs tt N ad g [.ref (ad i), .int (zI (z)), .int (zI (z1))] (rI0 N ad fun q g' => (0 ≤ q ∧ q ≤ 1) ∧ (∃ F' r' : Nat → Int, okMr cs ad g' i x F' r' st op ai fa mu tb tp ∧ (∀ f, f ≠ 27 → f ≠ 28 → F' f = F f) ∧ (∀ j, j < 350 ∨ 700 ≤ j → r' j = r j) ∧ F' 27 = -1) ∧ ∀ j, j < i ∨ i + 30 ≤ j ∨ (i + 8 ≤ j ∧ j ≤ i + 12) → g' j = g j) := by
  obtain ⟨hg, ⟨⟨e13, e14, e25, e27, e29⟩, k15, k16, k17, k18, k19, k20, k23, k21⟩, hRD, hTx, hA, ns, nh, nd, rf, pi, te, ki, li, ok1, ok2, fo, dd, dps, ⟨ha1, ha2, ha3, ha4, ha5, ha6, ha7, ha8, ha9, ha10, ha11, ha12, ha13, ha14, ha15, ha24, ha25, ha26, ha27, ha28, ha29⟩, hEv, hPt, hns, htp⟩ := id hM
  obtain ⟨-, hop, hai, hfa, hT, hT1⟩ := id hEv
  have hay1 : zAt ad (i) (ad i) := rfl
  have hay2 : zAt ad (i + 1) (ad (i + 1)) := rfl
  have hay3 : zAt ad (i + 2) (ad (i + 2)) := rfl
  have hay4 : zAt ad (i + 3) (ad (i + 3)) := rfl
  have hay5 : zAt ad (i + 4) (ad (i + 4)) := rfl
  have hay6 : zAt ad (i + 5) (ad (i + 5)) := rfl
  have hay7 : zAt ad (i + 6) (ad (i + 6)) := rfl
  have hay8 : zAt ad (i + 7) (ad (i + 7)) := rfl
  have hay9 : zAt ad (i + 8) (ad (i + 8)) := rfl
  have hay10 : zAt ad (i + 9) (ad (i + 9)) := rfl
  have hay11 : zAt ad (i + 10) (ad (i + 10)) := rfl
  have hay12 : zAt ad (i + 11) (ad (i + 11)) := rfl
  have hay13 : zAt ad (i + 12) (ad (i + 12)) := rfl
  have hay14 : zAt ad (i + 13) (ad (i + 13)) := rfl
  have hay15 : zAt ad (i + 14) (ad (i + 14)) := rfl
  have hay16 : zAt ad (i + 15) (ad (i + 15)) := rfl
  have hay17 : zAt ad (i + 24) (ad (i + 24)) := rfl
  have hay18 : zAt ad (i + 25) (ad (i + 25)) := rfl
  have hay19 : zAt ad (i + 26) (ad (i + 26)) := rfl
  have hay20 : zAt ad (i + 27) (ad (i + 27)) := rfl
  have hay21 : zAt ad (i + 28) (ad (i + 28)) := rfl
  have hay22 : zAt ad (i + 29) (ad (i + 29)) := rfl
  obtain ⟨⟨hsyy23, htyy23, hnyy23, hpyy23⟩, hlyy23⟩ := okA.at0 hA
  simp only [Nat.zero_add] at hsyy23 hnyy23 hpyy23
  have hmn : ∀ s, s < 4 → 0 ≤ r (6 + 86 * s) ∧ r (6 + 86 * s) ≤ 12 := fun s hs => (hsyy23 s hs).1
  have h5 : 0 ≤ r 5 ∧ r 5 ≤ 6 := hpyy23
  refine z_of (by decide) (Nat.le_of_ble_eq_true rfl) ?_
  intro pZ eZ sZ mZ below meth cZ C hr hlk hnm
  refine z_lv (lv' := [(0, .ref (ad i)), (1, .int (zI (z))), (2, .int (zI (z1)))]) [0, 1, 2] rfl ?_
  refine z_aload_n C 0 dX10_isGuess_0 rfl ?_
  refine z_get (v := .ref (ad (i + 5))) C (lt_A0 hN rfl) hay1 hg rfl inA_X10 4 (by decide) q_1463 rfl rfl dX10_isGuess_1 ?_
  refine z_iload_n C 1 dX10_isGuess_4 rfl ?_
  refine z_iald C (lt_A (c := 5) hN rfl) hay6 ha5 ((z).toNat) (by omega) (by omega) (by decide) dX10_isGuess_5 ?_
  refine z_iconst (z := 1) C dX10_isGuess_6 rfl ?_
  refine z_iconst (z := 2) C dX10_isGuess_7 rfl ?_
  obtain ⟨xy24, exy25, hxy26⟩ := zI_of (zI (fa ((z).toNat)))
  rw [exy25]
  refine z_cS (As := [.int (zI (xy24)), .int (zI (1)), .int (zI (2))]) (rest := []) C (c_X10_within l D A cs tt N ad _ (xy24) (by omega) (1) (by omega) (2) (by omega)) ms_yX10_within q_1686 hd_yX10_within (by decide) (Nat.le_of_ble_eq_true rfl) (by decide) dX10_isGuess_8 rfl (kI0 fun vy27 gvy27 hvy27 => ?_)
  obtain ⟨hvy27, rfl⟩ := hvy27
  rcases hvy27 with ⟨rfl, hxvy27⟩ | ⟨rfl, hxvy27⟩
  · refine z_if_eq (tgt := 24) C dX10_isGuess_11 (by decide) (by omega) (fun h => absurd h (by omega)) (fun _ => ?_)
    refine z_aload_n C 0 dX10_isGuess_14 rfl ?_
    refine z_get (v := .ref (ad (i + 6))) C (lt_A0 hN rfl) hay1 hg rfl inA_X10 5 (by decide) q_1464 rfl rfl dX10_isGuess_15 ?_
    refine z_iload_n C 1 dX10_isGuess_18 rfl ?_
    refine z_iald C (lt_A (c := 6) hN rfl) hay7 ha6 ((z).toNat) (by omega) (by omega) (by decide) dX10_isGuess_19 ?_
    refine z_iload_n C 2 dX10_isGuess_20 rfl ?_
    obtain ⟨xy28, exy29, hxy30⟩ := zI_of (zI (mu ((z).toNat)))
    rw [exy29]
    refine z_icmp_ne (tgt := 26) C dX10_isGuess_21 (by decide) (by omega) (by omega) (fun hby31 => ?_) (fun hby31 => ?_)
    · refine z_aload_n C 0 dX10_isGuess_26 rfl ?_
      refine z_iload_n C 1 dX10_isGuess_27 rfl ?_
      refine z_put (fs' := mF ad (i) (uZ F 27 (z))) C (lt_A0 hN rfl) hay1 hg tyX10 tyX10_ok nmX10 rfl inA_X10 27 (by decide) q_1486 rfl rfl rfl rfl (Nat.le_of_ble_eq_true rfl) rfl dX10_isGuess_28 (fun gy32 egy33 => ?_)
      have hgy34 := up_s egy33
      refine z_aload_n C 0 dX10_isGuess_31 rfl ?_
      refine z_iload_n C 2 dX10_isGuess_32 rfl ?_
      refine z_put (fs' := mF ad (i) (uZ (uZ F 27 (z)) 28 (z1))) C (lt_A0 hN rfl) hay1 hgy34 tyX10 tyX10_ok nmX10 rfl inA_X10 28 (by decide) q_1487 rfl rfl rfl rfl (Nat.le_of_ble_eq_true rfl) rfl dX10_isGuess_33 (fun gy35 egy36 => ?_)
      have hgy37 := up_s egy36
      refine z_aload_n C 0 dX10_isGuess_36 rfl ?_
      have hgy38 := up_n egy33 ha1 (ne_o (i := i) (c := 1) (d := 0) rfl)
      have hgy39 := up_n egy36 hgy38 (ne_o (i := i) (c := 1) (d := 0) rfl)
      have hFy40 : ∀ f, f ≠ 27 → f ≠ 28 → (uZ (uZ F 27 (z)) 28 (z1)) f = F f := fun f n27 n28 => ((uZ_n _ _ n28).trans ((uZ_n _ _ n27).trans rfl))
      have hey41 : (uZ (uZ F 27 (z)) 28 (z1)) 13 = F 13 := (fn (fn rfl (by decide)) (by decide))
      have hey42 : (uZ (uZ F 27 (z)) 28 (z1)) 14 = F 14 := (fn (fn rfl (by decide)) (by decide))
      have hey43 : (uZ (uZ F 27 (z)) 28 (z1)) 15 = F 15 := (fn (fn rfl (by decide)) (by decide))
      have hey44 : (uZ (uZ F 27 (z)) 28 (z1)) 16 = F 16 := (fn (fn rfl (by decide)) (by decide))
      have hey45 : (uZ (uZ F 27 (z)) 28 (z1)) 17 = F 17 := (fn (fn rfl (by decide)) (by decide))
      have hey46 : (uZ (uZ F 27 (z)) 28 (z1)) 18 = F 18 := (fn (fn rfl (by decide)) (by decide))
      have hey47 : (uZ (uZ F 27 (z)) 28 (z1)) 19 = F 19 := (fn (fn rfl (by decide)) (by decide))
      have hey48 : (uZ (uZ F 27 (z)) 28 (z1)) 20 = F 20 := (fn (fn rfl (by decide)) (by decide))
      have hey49 : (uZ (uZ F 27 (z)) 28 (z1)) 21 = F 21 := (fn (fn rfl (by decide)) (by decide))
      have hey50 : (uZ (uZ F 27 (z)) 28 (z1)) 23 = F 23 := (fn (fn rfl (by decide)) (by decide))
      have hey51 : (uZ (uZ F 27 (z)) 28 (z1)) 25 = F 25 := (fn (fn rfl (by decide)) (by decide))
      have hey52 : (uZ (uZ F 27 (z)) 28 (z1)) 27 = z := (fn (uZ_s _ _ _) (by decide))
      have hey53 : (uZ (uZ F 27 (z)) 28 (z1)) 28 = z1 := (uZ_s _ _ _)
      have hey54 : (uZ (uZ F 27 (z)) 28 (z1)) 29 = F 29 := (fn (fn rfl (by decide)) (by decide))
      have hKy55 : okF (uZ (uZ F 27 (z)) 28 (z1)) := by unfold okF; omega
      have hMy56 : okMr cs ad gy35 i (x) (uZ (uZ F 27 (z)) 28 (z1)) r st op ai fa mu tb tp := okMr.upd hM hgy37 hKy55 (fun f a => hFy40 f (by omega) (by omega)) hgy39 (hA.mono (by omega)) (fun j a b => by
          exact Or.inl (by rw [egy36, va_up_ne _ _ (by omega)]; rw [egy33, va_up_ne _ _ (by omega)]))
      refine z_cV (As := []) (rest := []) (ci := 12) C (c_X10_isNoted l D A cs tt N ad _ i hN x hx _ _ hMy56 ) (lt_A0 hN rfl) hay1 hgy37 rfl rfl mv_yX10_isNoted q_2071 hd_yX10_isNoted (by decide) (Nat.le_of_ble_eq_true rfl) (by decide) dX10_isGuess_37 rfl (kI0 fun vy57 gvy57 hvy57 => ?_)
      obtain ⟨hrvy57, ⟨Fvy57, rvy57, hMvy57, hFvy57, hRvy57⟩, hfvy57⟩ := hvy57
      have hFy58 : ∀ f, f ≠ 27 → f ≠ 28 → (uZ (uZ F 27 (z)) 28 (z1)) f = F f := fun f n27 n28 => ((uZ_n _ _ n28).trans ((uZ_n _ _ n27).trans rfl))
      have hBvy57 : (∀ f, f ≠ 27 → f ≠ 28 → Fvy57 f = F f) := fun f n27 n28 => (hFvy57 f ).trans (hFy58 f n27 n28)
      have hCvy57 := hBvy57
      have hq13vy57 : Fvy57 13 = F 13 := (hFvy57 13).trans (fn (fn rfl (by decide)) (by decide))
      have hq14vy57 : Fvy57 14 = F 14 := (hFvy57 14).trans (fn (fn rfl (by decide)) (by decide))
      have hq15vy57 : Fvy57 15 = F 15 := (hFvy57 15).trans (fn (fn rfl (by decide)) (by decide))
      have hq17vy57 : Fvy57 17 = F 17 := (hFvy57 17).trans (fn (fn rfl (by decide)) (by decide))
      have hq20vy57 : Fvy57 20 = F 20 := (hFvy57 20).trans (fn (fn rfl (by decide)) (by decide))
      have hq21vy57 : Fvy57 21 = F 21 := (hFvy57 21).trans (fn (fn rfl (by decide)) (by decide))
      have hq23vy57 : Fvy57 23 = F 23 := (hFvy57 23).trans (fn (fn rfl (by decide)) (by decide))
      have hq24vy57 : Fvy57 24 = F 24 := (hFvy57 24).trans (fn (fn rfl (by decide)) (by decide))
      have hq16vy57 : Fvy57 16 = F 16 := (hFvy57 16).trans (fn (fn rfl (by decide)) (by decide))
      have hq18vy57 : Fvy57 18 = F 18 := (hFvy57 18).trans (fn (fn rfl (by decide)) (by decide))
      have hq19vy57 : Fvy57 19 = F 19 := (hFvy57 19).trans (fn (fn rfl (by decide)) (by decide))
      have hq25vy57 : Fvy57 25 = F 25 := (hFvy57 25).trans (fn (fn rfl (by decide)) (by decide))
      have hq26vy57 : Fvy57 26 = F 26 := (hFvy57 26).trans (fn (fn rfl (by decide)) (by decide))
      have hq27vy57 : Fvy57 27 = z := (hFvy57 27).trans (fn (uZ_s _ _ _) (by decide))
      have hq29vy57 : Fvy57 29 = F 29 := (hFvy57 29).trans (fn (fn rfl (by decide)) (by decide))
      obtain ⟨hg_y59, ⟨⟨e13_y59, e14_y59, e25_y59, e27_y59, e29_y59⟩, k15_y59, k16_y59, k17_y59, k18_y59, k19_y59, k20_y59, k23_y59, k21_y59⟩, hRD_y59, hTx_y59, hA_y59, ns_y59, nh_y59, nd_y59, rf_y59, pi_y59, te_y59, ki_y59, li_y59, ok1_y59, ok2_y59, fo_y59, dd_y59, dps_y59, ⟨ha1_y59, ha2_y59, ha3_y59, ha4_y59, ha5_y59, ha6_y59, ha7_y59, ha8_y59, ha9_y59, ha10_y59, ha11_y59, ha12_y59, ha13_y59, ha14_y59, ha15_y59, ha24_y59, ha25_y59, ha26_y59, ha27_y59, ha28_y59, ha29_y59⟩, hEv_y59, hPt_y59, hns_y59, htp_y59⟩ := id hMvy57
      obtain ⟨-, hop_y59, hai_y59, hfa_y59, hT_y59, hT1_y59⟩ := id hEv_y59
      have e14 := e14_y59
      have e25 := e25_y59
      have e27 := e27_y59
      have e29 := e29_y59
      have hop := hop_y59
      have hai := hai_y59
      have hfa := hfa_y59
      have hT := hT_y59
      have hT1 := hT1_y59
      have hEv := hEv_y59
      have htp := htp_y59
      have hns := hns_y59
      have hPt := hPt_y59
      obtain ⟨⟨hsyy60, htyy60, hnyy60, hpyy60⟩, hlyy60⟩ := okA.at0 hA_y59
      simp only [Nat.zero_add] at hsyy60 hnyy60 hpyy60
      have hmn : ∀ s, s < 4 → 0 ≤ rvy57 (6 + 86 * s) ∧ rvy57 (6 + 86 * s) ≤ 12 := fun s hs => (hsyy60 s hs).1
      have h5 : 0 ≤ rvy57 5 ∧ rvy57 5 ≤ 6 := hpyy60
      refine z_istore_n (lv' := [(3, .int (zI (vy57))), (0, .ref (ad i)), (1, .int (zI (z))), (2, .int (zI (z1)))]) C dX10_isGuess_40 rfl (by decide) rfl ?_
      refine z_aload_n C 1 dX10_isGuess_41 rfl ?_
      refine z_iconst (z := -1) C dX10_isGuess_42 rfl ?_
      refine z_put (fs' := mF ad (i) (uZ Fvy57 27 (-1))) C (lt_A0 hN rfl) hay1 hg_y59 tyX10 tyX10_ok nmX10 rfl inA_X10 27 (by decide) q_1486 rfl rfl rfl rfl (Nat.le_of_ble_eq_true rfl) rfl dX10_isGuess_43 (fun gy61 egy62 => ?_)
      have hgy63 := up_s egy62
      refine z_iload_n C 0 dX10_isGuess_46 rfl ?_
      have hgy64 := up_n egy62 ha1_y59 (ne_o (i := i) (c := 1) (d := 0) rfl)
      have hFy65 : ∀ f, f ≠ 27 → (uZ Fvy57 27 (-1)) f = Fvy57 f := fun f n27 => ((uZ_n _ _ n27).trans rfl)
      have hey66 : (uZ Fvy57 27 (-1)) 13 = F 13 := (fn hq13vy57 (by decide))
      have hey67 : (uZ Fvy57 27 (-1)) 14 = F 14 := (fn hq14vy57 (by decide))
      have hey68 : (uZ Fvy57 27 (-1)) 15 = F 15 := (fn hq15vy57 (by decide))
      have hey69 : (uZ Fvy57 27 (-1)) 16 = F 16 := (fn hq16vy57 (by decide))
      have hey70 : (uZ Fvy57 27 (-1)) 17 = F 17 := (fn hq17vy57 (by decide))
      have hey71 : (uZ Fvy57 27 (-1)) 18 = F 18 := (fn hq18vy57 (by decide))
      have hey72 : (uZ Fvy57 27 (-1)) 19 = F 19 := (fn hq19vy57 (by decide))
      have hey73 : (uZ Fvy57 27 (-1)) 20 = F 20 := (fn hq20vy57 (by decide))
      have hey74 : (uZ Fvy57 27 (-1)) 21 = F 21 := (fn hq21vy57 (by decide))
      have hey75 : (uZ Fvy57 27 (-1)) 23 = F 23 := (fn hq23vy57 (by decide))
      have hey76 : (uZ Fvy57 27 (-1)) 25 = F 25 := (fn hq25vy57 (by decide))
      have hey77 : (uZ Fvy57 27 (-1)) 27 = -1 := (uZ_s _ _ _)
      have hey78 : (uZ Fvy57 27 (-1)) 28 = Fvy57 28 := (fn rfl (by decide))
      have hey79 : (uZ Fvy57 27 (-1)) 29 = F 29 := (fn hq29vy57 (by decide))
      have hKy80 : okF (uZ Fvy57 27 (-1)) := by unfold okF; omega
      have hMy81 : okMr cs ad gy61 i (x) (uZ Fvy57 27 (-1)) rvy57 st op ai fa mu tb tp := okMr.upd hMvy57 hgy63 hKy80 (fun f a => hFy65 f (by omega)) hgy64 (hA_y59.mono (by omega)) (fun j a b => by
          exact Or.inl (by rw [egy62, va_up_ne _ _ (by omega)]))
      have hFy82 : ∀ f, f ≠ 27 → (uZ Fvy57 27 (-1)) f = Fvy57 f := fun f n27 => ((uZ_n _ _ n27).trans rfl)
      have hkxy83 : (uZ Fvy57 27 (-1)) 25 = F 25 := (fn hq25vy57 (by decide))
      have hkxy84 : (uZ Fvy57 27 (-1)) 26 = F 26 := (fn hq26vy57 (by decide))
      have hkxy85 : (uZ Fvy57 27 (-1)) 27 = -1 := (uZ_s _ _ _)
      have hkxy86 : (uZ Fvy57 27 (-1)) 29 = F 29 := (fn hq29vy57 (by decide))
      exact z_zret C hr hlk dX10_isGuess_47 (nb01 (by omega)) (by decide) (by decide) ⟨vy57, rfl, rfl, rfl, by omega, ⟨_, _, hMy81, fun f n27 n28 => (hFy82 f n27).trans (hCvy57 f n27 n28), (fun j a9 => (hRvy57 j a9).trans ((fun j _ => rfl) j a9)), by omega⟩, fun j j1 => by rw [egy62, va_up_ne _ _ (by omega)]; rw [hfvy57 _ (by omega)]; rw [egy36, va_up_ne _ _ (by omega)]; rw [egy33, va_up_ne _ _ (by omega)]⟩
    · refine z_iconst (z := 0) C dX10_isGuess_24 rfl ?_
      have hMy87 : okMr cs ad g i (x) F r st op ai fa mu tb tp := okMr.upd hM hg hM.2.1 (fun f _ => rfl) ha1 (hA.mono (by omega)) (fun j a b => by
          exact Or.inl (by rfl))
      have hkxy88 : F 25 = F 25 := rfl
      have hkxy89 : F 26 = F 26 := rfl
      have hkxy90 : F 27 = F 27 := rfl
      have hkxy91 : F 29 = F 29 := rfl
      exact z_zret C hr hlk dX10_isGuess_25 (by decide) (by decide) (by decide) ⟨0, rfl, rfl, rfl, by omega, ⟨_, _, hMy87, fun f n27 n28 => rfl, (fun j _ => rfl), by omega⟩, fun j j1 => by rfl⟩
  · refine z_if_eq (tgt := 24) C dX10_isGuess_11 (by decide) (by omega) (fun _ => ?_) (fun h => absurd h (by omega))
    refine z_iconst (z := 0) C dX10_isGuess_24 rfl ?_
    have hMy92 : okMr cs ad g i (x) F r st op ai fa mu tb tp := okMr.upd hM hg hM.2.1 (fun f _ => rfl) ha1 (hA.mono (by omega)) (fun j a b => by
        exact Or.inl (by rfl))
    have hkxy93 : F 25 = F 25 := rfl
    have hkxy94 : F 26 = F 26 := rfl
    have hkxy95 : F 27 = F 27 := rfl
    have hkxy96 : F 29 = F 29 := rfl
    exact z_zret C hr hlk dX10_isGuess_25 (by decide) (by decide) (by decide) ⟨0, rfl, rfl, rfl, by omega, ⟨_, _, hMy92, fun f n27 n28 => rfl, (fun j _ => rfl), by omega⟩, fun j j1 => by rfl⟩

set_option maxRecDepth 100000 in
set_option maxHeartbeats 4000000 in
theorem c_X10_falls (l : Launch) (D : va_G) (A : Nat → Prop) (cs : Nat → ClassId) (tt : Nat) (N : Nat) (ad : Nat → Nat) (g : Nat → va_E) (i : Nat) (hN : i + 30 ≤ N) (x : Int) (hx : 0 ≤ x ∧ x ≤ 512) (F r : Nat → Int) {st op ai fa mu tb tp : Nat → Int} (hM : okMr cs ad g i x F r st op ai fa mu tb tp) (hPl : F 25 = 0 ∧ F 26 = -1 ∧ F 27 = -1 ∧ F 29 = 0) (z : Int) (hz : -2147483648 ≤ z ∧ z ≤ 2147483647) : zM l yX10_falls cX10_falls 6 (some .int) ({ frames := 12, cells := 0, slots := 0, locals := 720 } : Room) D A cs tt N ad g [.ref (ad i), .int (zI (z))] (rI0 N ad fun q g' => (-2147483648 ≤ q ∧ q ≤ 2147483647) ∧ (∃ F' r' : Nat → Int, okMr cs ad g' i (x + 1) F' r' st op ai fa mu tb tp ∧ (F' 13 = F 13 ∧ F' 14 = F 14 ∧ F' 15 = F 15 ∧ F' 16 = F 16 ∧ F' 17 = F 17 ∧ F' 18 = F 18 ∧ F' 19 = F 19 ∧ F' 20 = F 20 ∧ F' 21 = F 21 ∧ F' 23 = F 23 ∧ F' 24 = F 24) ∧ (F' 25 = 0 ∧ F' 26 = -1 ∧ F' 27 = -1 ∧ F' 29 = 0) ∧ (∀ j, j < 350 ∨ 700 ≤ j → r' j = r j)) ∧ ∀ j, j < i ∨ i + 30 ≤ j ∨ (i + 8 ≤ j ∧ j ≤ i + 12) → g' j = g j) := by
  obtain ⟨hg, ⟨⟨e13, e14, e25, e27, e29⟩, k15, k16, k17, k18, k19, k20, k23, k21⟩, hRD, hTx, hA, ns, nh, nd, rf, pi, te, ki, li, ok1, ok2, fo, dd, dps, ⟨ha1, ha2, ha3, ha4, ha5, ha6, ha7, ha8, ha9, ha10, ha11, ha12, ha13, ha14, ha15, ha24, ha25, ha26, ha27, ha28, ha29⟩, hEv, hPt, hns, htp⟩ := id hM
  obtain ⟨-, hop, hai, hfa, hT, hT1⟩ := id hEv
  have hay1 : zAt ad (i) (ad i) := rfl
  have hay2 : zAt ad (i + 1) (ad (i + 1)) := rfl
  have hay3 : zAt ad (i + 2) (ad (i + 2)) := rfl
  have hay4 : zAt ad (i + 3) (ad (i + 3)) := rfl
  have hay5 : zAt ad (i + 4) (ad (i + 4)) := rfl
  have hay6 : zAt ad (i + 5) (ad (i + 5)) := rfl
  have hay7 : zAt ad (i + 6) (ad (i + 6)) := rfl
  have hay8 : zAt ad (i + 7) (ad (i + 7)) := rfl
  have hay9 : zAt ad (i + 8) (ad (i + 8)) := rfl
  have hay10 : zAt ad (i + 9) (ad (i + 9)) := rfl
  have hay11 : zAt ad (i + 10) (ad (i + 10)) := rfl
  have hay12 : zAt ad (i + 11) (ad (i + 11)) := rfl
  have hay13 : zAt ad (i + 12) (ad (i + 12)) := rfl
  have hay14 : zAt ad (i + 13) (ad (i + 13)) := rfl
  have hay15 : zAt ad (i + 14) (ad (i + 14)) := rfl
  have hay16 : zAt ad (i + 15) (ad (i + 15)) := rfl
  have hay17 : zAt ad (i + 24) (ad (i + 24)) := rfl
  have hay18 : zAt ad (i + 25) (ad (i + 25)) := rfl
  have hay19 : zAt ad (i + 26) (ad (i + 26)) := rfl
  have hay20 : zAt ad (i + 27) (ad (i + 27)) := rfl
  have hay21 : zAt ad (i + 28) (ad (i + 28)) := rfl
  have hay22 : zAt ad (i + 29) (ad (i + 29)) := rfl
  obtain ⟨⟨hsyy23, htyy23, hnyy23, hpyy23⟩, hlyy23⟩ := okA.at0 hA
  simp only [Nat.zero_add] at hsyy23 hnyy23 hpyy23
  have hmn : ∀ s, s < 4 → 0 ≤ r (6 + 86 * s) ∧ r (6 + 86 * s) ≤ 12 := fun s hs => (hsyy23 s hs).1
  have h5 : 0 ≤ r 5 ∧ r 5 ≤ 6 := hpyy23
  obtain ⟨hp25, hp26, hp27, hp29⟩ := id hPl
  refine z_of (by decide) (Nat.le_of_ble_eq_true rfl) ?_
  intro pZ eZ sZ mZ below meth cZ C hr hlk hnm
  refine z_lv (lv' := [(0, .ref (ad i)), (1, .int (zI (z)))]) [0, 1] rfl ?_
  refine z_aload_n C 0 dX10_falls_0 rfl ?_
  refine z_iconst (z := 0) C dX10_falls_1 rfl ?_
  refine z_put (fs' := mF ad (i) (uZ F 12 (0))) C (lt_A0 hN rfl) hay1 hg tyX10 tyX10_ok nmX10 rfl inA_X10 12 (by decide) q_1471 rfl rfl rfl rfl (Nat.le_of_ble_eq_true rfl) rfl dX10_falls_2 (fun gy24 egy25 => ?_)
  have hgy26 := up_s egy25
  refine z_aload_n C 0 dX10_falls_5 rfl ?_
  refine z_iload_n C 1 dX10_falls_6 rfl ?_
  refine z_iconst (z := 0) C dX10_falls_7 rfl ?_
  refine z_iconst (z := 2) C dX10_falls_8 rfl ?_
  refine z_cS (As := [.int (zI (z)), .int (zI (0)), .int (zI (2))]) (rest := [.ref (ad i)]) C (c_X10_within l D A cs tt N ad _ (z) (by omega) (0) (by omega) (2) (by omega)) ms_yX10_within q_1686 hd_yX10_within (by decide) (Nat.le_of_ble_eq_true rfl) (by decide) dX10_falls_9 rfl (kI0 fun vy27 gvy27 hvy27 => ?_)
  obtain ⟨hvy27, rfl⟩ := hvy27
  rcases hvy27 with ⟨rfl, hxvy27⟩ | ⟨rfl, hxvy27⟩
  · refine z_iconst (z := 1) C dX10_falls_12 rfl ?_
    have hey29 : (uZ F 12 (0)) 12 = 0 := (uZ_s _ _ _)
    refine z_cV (As := [.int (zI (1)), .int (zI (1))]) (rest := []) (ci := 12) C (c_X10_right l D A cs tt N ad _ i hN _ hgy26 (by omega) (1) (by omega) (1) (by omega)) (lt_A0 hN rfl) hay1 hgy26 rfl rfl mv_yX10_right q_1648 hd_yX10_right (by decide) (Nat.le_of_ble_eq_true rfl) (by decide) dX10_falls_13 rfl (kI0 fun vy28 gvy28 hvy28 => ?_)
    obtain ⟨hrvy28, ⟨Fvy28, hcvy28, htvy28, hFvy28⟩, hfvy28⟩ := hvy28
    rcases (show vy28 = 1 ∨ vy28 = 0 by omega) with rfl | rfl
    · refine z_if_ne (tgt := 21) C dX10_falls_16 (by decide) (by omega) (fun _ => ?_) (fun h => absurd h (by omega))
      refine z_iload_n C 1 dX10_falls_21 rfl ?_
      refine z_iconst (z := 2) C dX10_falls_22 rfl ?_
      refine z_icmp_ne (tgt := 39) C dX10_falls_23 (by decide) (by omega) (by omega) (fun hby30 => ?_) (fun hby30 => ?_)
      · refine z_iconst (z := 0) C dX10_falls_39 rfl ?_
        refine z_istore_n (lv' := [(2, .int (zI (0))), (0, .ref (ad i)), (1, .int (zI (z)))]) C dX10_falls_40 rfl (by decide) rfl ?_
        refine z_iconst (z := -1) C dX10_falls_41 rfl ?_
        refine z_istore_n (lv' := [(3, .int (zI (-1))), (2, .int (zI (0))), (0, .ref (ad i)), (1, .int (zI (z)))]) C dX10_falls_42 rfl (by decide) rfl ?_
        refine z_iconst (z := 0) C dX10_falls_43 rfl ?_
        refine z_istore (lv' := [(4, .int (zI (0))), (3, .int (zI (-1))), (2, .int (zI (0))), (0, .ref (ad i)), (1, .int (zI (z)))]) C dX10_falls_44 (by decide) rfl ?_
        have lp1 : ∀ (n9 : Nat) (cn : Int) (fi : Int) (hh : Int) (F9 : Nat → Int) (r9 : Nat → Int) (g1 : Nat → va_E), (25 - hh).toNat = n9 → (okMr cs ad g1 i x F9 r9 st op ai fa mu tb tp) → ((∀ f, f ≠ 12 → f ≠ 27 → f ≠ 28 → F9 f = F f)) → ((∀ j, j < 350 ∨ 700 ≤ j → r9 j = r j)) → (∀ j, j < i ∨ i + 30 ≤ j ∨ (i + 8 ≤ j ∧ j ≤ i + 12) → g1 j = g j) → (-2147483648 ≤ cn ∧ cn ≤ 2147483647) → (-2147483648 ≤ fi ∧ fi ≤ 2147483647) → (0 ≤ hh ∧ hh ≤ F 14) → (F9 27 = -1) → zV pZ l eZ ({ frames := 12, cells := 0, slots := 0, locals := 720 } : Room) sZ mZ ([.ref (ad i), .int (zI (z))] : List Value).toArray below meth cZ (MQ below (zPost D A (rI0 N ad fun q g' => (-2147483648 ≤ q ∧ q ≤ 2147483647) ∧ (∃ F' r' : Nat → Int, okMr cs ad g' i (x + 1) F' r' st op ai fa mu tb tp ∧ (F' 13 = F 13 ∧ F' 14 = F 14 ∧ F' 15 = F 15 ∧ F' 16 = F 16 ∧ F' 17 = F 17 ∧ F' 18 = F 18 ∧ F' 19 = F 19 ∧ F' 20 = F 20 ∧ F' 21 = F 21 ∧ F' 23 = F 23 ∧ F' 24 = F 24) ∧ (F' 25 = 0 ∧ F' 26 = -1 ∧ F' 27 = -1 ∧ F' 29 = 0) ∧ (∀ j, j < 350 ∨ 700 ≤ j → r' j = r j)) ∧ ∀ j, j < i ∨ i + 30 ≤ j ∨ (i + 8 ≤ j ∧ j ≤ i + 12) → g' j = g j)) ([.ref (ad i), .int (zI (z))] : List Value).toArray sZ ({ frames := 12, cells := 0, slots := 0, locals := 720 } : Room).cells ({ frames := 12, cells := 0, slots := 0, locals := 720 } : Room).slots A) D A 6 (N) ad g1 (0) (0) 46 [(0, .ref (ad i)), (1, .int (zI (z))), (2, .int (zI (cn))), (3, .int (zI (fi))), (4, .int (zI (hh)))] [] := by
          intro n9
          induction n9 using Nat.strongRecOn with
          | ind n9 ih_lp1 =>
            intro cn fi hh F9 r9 g1 hm9 fM fF fR f3 hvlp10 hvlp11 hvlp12 hvlp13
            obtain ⟨hg_y31, ⟨⟨e13_y31, e14_y31, e25_y31, e27_y31, e29_y31⟩, k15_y31, k16_y31, k17_y31, k18_y31, k19_y31, k20_y31, k23_y31, k21_y31⟩, hRD_y31, hTx_y31, hA_y31, ns_y31, nh_y31, nd_y31, rf_y31, pi_y31, te_y31, ki_y31, li_y31, ok1_y31, ok2_y31, fo_y31, dd_y31, dps_y31, ⟨ha1_y31, ha2_y31, ha3_y31, ha4_y31, ha5_y31, ha6_y31, ha7_y31, ha8_y31, ha9_y31, ha10_y31, ha11_y31, ha12_y31, ha13_y31, ha14_y31, ha15_y31, ha24_y31, ha25_y31, ha26_y31, ha27_y31, ha28_y31, ha29_y31⟩, hEv_y31, hPt_y31, hns_y31, htp_y31⟩ := id fM
            obtain ⟨-, hop_y31, hai_y31, hfa_y31, hT_y31, hT1_y31⟩ := id hEv_y31
            have e14 := e14_y31
            have e25 := e25_y31
            have e27 := e27_y31
            have e29 := e29_y31
            have hop := hop_y31
            have hai := hai_y31
            have hfa := hfa_y31
            have hT := hT_y31
            have hT1 := hT1_y31
            have hEv := hEv_y31
            have htp := htp_y31
            have hns := hns_y31
            have hPt := hPt_y31
            have hay32 : zAt ad (i) (ad i) := rfl
            have hay33 : zAt ad (i + 1) (ad (i + 1)) := rfl
            have hay34 : zAt ad (i + 2) (ad (i + 2)) := rfl
            have hay35 : zAt ad (i + 3) (ad (i + 3)) := rfl
            have hay36 : zAt ad (i + 4) (ad (i + 4)) := rfl
            have hay37 : zAt ad (i + 5) (ad (i + 5)) := rfl
            have hay38 : zAt ad (i + 6) (ad (i + 6)) := rfl
            have hay39 : zAt ad (i + 7) (ad (i + 7)) := rfl
            have hay40 : zAt ad (i + 8) (ad (i + 8)) := rfl
            have hay41 : zAt ad (i + 9) (ad (i + 9)) := rfl
            have hay42 : zAt ad (i + 10) (ad (i + 10)) := rfl
            have hay43 : zAt ad (i + 11) (ad (i + 11)) := rfl
            have hay44 : zAt ad (i + 12) (ad (i + 12)) := rfl
            have hay45 : zAt ad (i + 13) (ad (i + 13)) := rfl
            have hay46 : zAt ad (i + 14) (ad (i + 14)) := rfl
            have hay47 : zAt ad (i + 15) (ad (i + 15)) := rfl
            have hay48 : zAt ad (i + 24) (ad (i + 24)) := rfl
            have hay49 : zAt ad (i + 25) (ad (i + 25)) := rfl
            have hay50 : zAt ad (i + 26) (ad (i + 26)) := rfl
            have hay51 : zAt ad (i + 27) (ad (i + 27)) := rfl
            have hay52 : zAt ad (i + 28) (ad (i + 28)) := rfl
            have hay53 : zAt ad (i + 29) (ad (i + 29)) := rfl
            obtain ⟨⟨hsyy54, htyy54, hnyy54, hpyy54⟩, hlyy54⟩ := okA.at0 hA_y31
            simp only [Nat.zero_add] at hsyy54 hnyy54 hpyy54
            have hmn : ∀ s, s < 4 → 0 ≤ r9 (6 + 86 * s) ∧ r9 (6 + 86 * s) ≤ 12 := fun s hs => (hsyy54 s hs).1
            have h5 : 0 ≤ r9 5 ∧ r9 5 ≤ 6 := hpyy54
            have h13e : F9 13 = F 13 := fF 13 (by decide) (by decide) (by decide)
            have h14e : F9 14 = F 14 := fF 14 (by decide) (by decide) (by decide)
            have h17e : F9 17 = F 17 := fF 17 (by decide) (by decide) (by decide)
            have h20e : F9 20 = F 20 := fF 20 (by decide) (by decide) (by decide)
            have h21e : F9 21 = F 21 := fF 21 (by decide) (by decide) (by decide)
            have h23e : F9 23 = F 23 := fF 23 (by decide) (by decide) (by decide)
            have h24e : F9 24 = F 24 := fF 24 (by decide) (by decide) (by decide)
            have h15e : F9 15 = F 15 := fF 15 (by decide) (by decide) (by decide)
            have h16e : F9 16 = F 16 := fF 16 (by decide) (by decide) (by decide)
            have h18e : F9 18 = F 18 := fF 18 (by decide) (by decide) (by decide)
            have h19e : F9 19 = F 19 := fF 19 (by decide) (by decide) (by decide)
            have h25e : F9 25 = F 25 := fF 25 (by decide) (by decide) (by decide)
            have h26e : F9 26 = F 26 := fF 26 (by decide) (by decide) (by decide)
            have h29e : F9 29 = F 29 := fF 29 (by decide) (by decide) (by decide)
            refine z_iload C 4 dX10_falls_46 rfl ?_
            refine z_aload_n C 0 dX10_falls_48 rfl ?_
            refine z_get (v := .int (zI (F9 14))) C (lt_A0 hN rfl) hay32 hg_y31 rfl inA_X10 14 (by decide) q_1473 rfl (fv (F := F9) (f := 14) rfl) dX10_falls_49 ?_
            refine z_icmp_ge (tgt := 107) C dX10_falls_52 (by decide) (by omega) (by omega) (fun hby55 => ?_) (fun hby55 => ?_)
            · refine z_iload_n C 1 dX10_falls_107 rfl ?_
              refine z_if_ne (tgt := 115) C dX10_falls_108 (by decide) (by omega) (fun hby56 => ?_) (fun hby56 => ?_)
              · refine z_iload_n C 3 dX10_falls_115 rfl ?_
                have hMy57 : okMr cs ad g1 i (x + 1) F9 r9 st op ai fa mu tb tp := okMr.upd fM hg_y31 fM.2.1 (fun f _ => rfl) ha1_y31 (hA_y31.mono (by omega)) (fun j a b => by
                    exact Or.inl (by rfl))
                have hkpy58 : F9 13 = F9 13 := rfl
                have hkpy59 : F9 14 = F9 14 := rfl
                have hkpy60 : F9 15 = F9 15 := rfl
                have hkpy61 : F9 16 = F9 16 := rfl
                have hkpy62 : F9 17 = F9 17 := rfl
                have hkpy63 : F9 18 = F9 18 := rfl
                have hkpy64 : F9 19 = F9 19 := rfl
                have hkpy65 : F9 20 = F9 20 := rfl
                have hkpy66 : F9 21 = F9 21 := rfl
                have hkpy67 : F9 23 = F9 23 := rfl
                have hkpy68 : F9 24 = F9 24 := rfl
                have hkpy69 : F9 25 = F9 25 := rfl
                have hkpy70 : F9 26 = F9 26 := rfl
                have hkpy71 : F9 27 = F9 27 := rfl
                have hkpy72 : F9 29 = F9 29 := rfl
                exact z_iret C hr hlk dX10_falls_116 (by decide) (by decide) ⟨fi, rfl, rfl, rfl, by omega, ⟨_, _, hMy57, ⟨(by omega), (by omega), (by omega), (by omega), (by omega), (by omega), (by omega), (by omega), (by omega), (by omega), (by omega)⟩, ⟨(by omega), (by omega), (by omega), (by omega)⟩, fR⟩, fun j j1 => by exact f3 j j1⟩
              · refine z_iload_n C 2 dX10_falls_111 rfl ?_
                refine z_goto (tgt := 116) C dX10_falls_112 (by decide) ?_
                have hMy73 : okMr cs ad g1 i (x + 1) F9 r9 st op ai fa mu tb tp := okMr.upd fM hg_y31 fM.2.1 (fun f _ => rfl) ha1_y31 (hA_y31.mono (by omega)) (fun j a b => by
                    exact Or.inl (by rfl))
                have hkpy74 : F9 13 = F9 13 := rfl
                have hkpy75 : F9 14 = F9 14 := rfl
                have hkpy76 : F9 15 = F9 15 := rfl
                have hkpy77 : F9 16 = F9 16 := rfl
                have hkpy78 : F9 17 = F9 17 := rfl
                have hkpy79 : F9 18 = F9 18 := rfl
                have hkpy80 : F9 19 = F9 19 := rfl
                have hkpy81 : F9 20 = F9 20 := rfl
                have hkpy82 : F9 21 = F9 21 := rfl
                have hkpy83 : F9 23 = F9 23 := rfl
                have hkpy84 : F9 24 = F9 24 := rfl
                have hkpy85 : F9 25 = F9 25 := rfl
                have hkpy86 : F9 26 = F9 26 := rfl
                have hkpy87 : F9 27 = F9 27 := rfl
                have hkpy88 : F9 29 = F9 29 := rfl
                exact z_iret C hr hlk dX10_falls_116 (by decide) (by decide) ⟨cn, rfl, rfl, rfl, by omega, ⟨_, _, hMy73, ⟨(by omega), (by omega), (by omega), (by omega), (by omega), (by omega), (by omega), (by omega), (by omega), (by omega), (by omega)⟩, ⟨(by omega), (by omega), (by omega), (by omega)⟩, fR⟩, fun j j1 => by exact f3 j j1⟩
            · refine z_iconst (z := 1) C dX10_falls_55 rfl ?_
              refine z_istore (lv' := [(5, .int (zI (1))), (0, .ref (ad i)), (1, .int (zI (z))), (2, .int (zI (cn))), (3, .int (zI (fi))), (4, .int (zI (hh)))]) C dX10_falls_56 (by decide) rfl ?_
              have lp2 : ∀ (n9 : Nat) (cn : Int) (fi : Int) (mm : Int) (F9b : Nat → Int) (r9b : Nat → Int) (g1 : Nat → va_E), (51 - mm).toNat = n9 → (okMr cs ad g1 i x F9b r9b st op ai fa mu tb tp) → ((∀ f, f ≠ 12 → f ≠ 27 → f ≠ 28 → F9b f = F f)) → ((∀ j, j < 350 ∨ 700 ≤ j → r9b j = r j)) → (∀ j, j < i ∨ i + 30 ≤ j ∨ (i + 8 ≤ j ∧ j ≤ i + 12) → g1 j = g j) → (-2147483648 ≤ cn ∧ cn ≤ 2147483647) → (-2147483648 ≤ fi ∧ fi ≤ 2147483647) → (1 ≤ mm ∧ mm ≤ 51) → (F9b 27 = -1) → zV pZ l eZ ({ frames := 12, cells := 0, slots := 0, locals := 720 } : Room) sZ mZ ([.ref (ad i), .int (zI (z))] : List Value).toArray below meth cZ (MQ below (zPost D A (rI0 N ad fun q g' => (-2147483648 ≤ q ∧ q ≤ 2147483647) ∧ (∃ F' r' : Nat → Int, okMr cs ad g' i (x + 1) F' r' st op ai fa mu tb tp ∧ (F' 13 = F 13 ∧ F' 14 = F 14 ∧ F' 15 = F 15 ∧ F' 16 = F 16 ∧ F' 17 = F 17 ∧ F' 18 = F 18 ∧ F' 19 = F 19 ∧ F' 20 = F 20 ∧ F' 21 = F 21 ∧ F' 23 = F 23 ∧ F' 24 = F 24) ∧ (F' 25 = 0 ∧ F' 26 = -1 ∧ F' 27 = -1 ∧ F' 29 = 0) ∧ (∀ j, j < 350 ∨ 700 ≤ j → r' j = r j)) ∧ ∀ j, j < i ∨ i + 30 ≤ j ∨ (i + 8 ≤ j ∧ j ≤ i + 12) → g' j = g j)) ([.ref (ad i), .int (zI (z))] : List Value).toArray sZ ({ frames := 12, cells := 0, slots := 0, locals := 720 } : Room).cells ({ frames := 12, cells := 0, slots := 0, locals := 720 } : Room).slots A) D A 6 (N) ad g1 (0) (0) 58 [(0, .ref (ad i)), (1, .int (zI (z))), (2, .int (zI (cn))), (3, .int (zI (fi))), (4, .int (zI (hh))), (5, .int (zI (mm)))] [] := by
                intro n9
                induction n9 using Nat.strongRecOn with
                | ind n9 ih_lp2 =>
                  intro cn fi mm F9b r9b g1 hm9 fMb fFb fRb f3 hvlp20 hvlp21 hvlp22 hvlp23
                  obtain ⟨hg_y89, ⟨⟨e13_y89, e14_y89, e25_y89, e27_y89, e29_y89⟩, k15_y89, k16_y89, k17_y89, k18_y89, k19_y89, k20_y89, k23_y89, k21_y89⟩, hRD_y89, hTx_y89, hA_y89, ns_y89, nh_y89, nd_y89, rf_y89, pi_y89, te_y89, ki_y89, li_y89, ok1_y89, ok2_y89, fo_y89, dd_y89, dps_y89, ⟨ha1_y89, ha2_y89, ha3_y89, ha4_y89, ha5_y89, ha6_y89, ha7_y89, ha8_y89, ha9_y89, ha10_y89, ha11_y89, ha12_y89, ha13_y89, ha14_y89, ha15_y89, ha24_y89, ha25_y89, ha26_y89, ha27_y89, ha28_y89, ha29_y89⟩, hEv_y89, hPt_y89, hns_y89, htp_y89⟩ := id fMb
                  obtain ⟨-, hop_y89, hai_y89, hfa_y89, hT_y89, hT1_y89⟩ := id hEv_y89
                  have e14 := e14_y89
                  have e25 := e25_y89
                  have e27 := e27_y89
                  have e29 := e29_y89
                  have hop := hop_y89
                  have hai := hai_y89
                  have hfa := hfa_y89
                  have hT := hT_y89
                  have hT1 := hT1_y89
                  have hEv := hEv_y89
                  have htp := htp_y89
                  have hns := hns_y89
                  have hPt := hPt_y89
                  have hay90 : zAt ad (i) (ad i) := rfl
                  have hay91 : zAt ad (i + 1) (ad (i + 1)) := rfl
                  have hay92 : zAt ad (i + 2) (ad (i + 2)) := rfl
                  have hay93 : zAt ad (i + 3) (ad (i + 3)) := rfl
                  have hay94 : zAt ad (i + 4) (ad (i + 4)) := rfl
                  have hay95 : zAt ad (i + 5) (ad (i + 5)) := rfl
                  have hay96 : zAt ad (i + 6) (ad (i + 6)) := rfl
                  have hay97 : zAt ad (i + 7) (ad (i + 7)) := rfl
                  have hay98 : zAt ad (i + 8) (ad (i + 8)) := rfl
                  have hay99 : zAt ad (i + 9) (ad (i + 9)) := rfl
                  have hay100 : zAt ad (i + 10) (ad (i + 10)) := rfl
                  have hay101 : zAt ad (i + 11) (ad (i + 11)) := rfl
                  have hay102 : zAt ad (i + 12) (ad (i + 12)) := rfl
                  have hay103 : zAt ad (i + 13) (ad (i + 13)) := rfl
                  have hay104 : zAt ad (i + 14) (ad (i + 14)) := rfl
                  have hay105 : zAt ad (i + 15) (ad (i + 15)) := rfl
                  have hay106 : zAt ad (i + 24) (ad (i + 24)) := rfl
                  have hay107 : zAt ad (i + 25) (ad (i + 25)) := rfl
                  have hay108 : zAt ad (i + 26) (ad (i + 26)) := rfl
                  have hay109 : zAt ad (i + 27) (ad (i + 27)) := rfl
                  have hay110 : zAt ad (i + 28) (ad (i + 28)) := rfl
                  have hay111 : zAt ad (i + 29) (ad (i + 29)) := rfl
                  obtain ⟨⟨hsyy112, htyy112, hnyy112, hpyy112⟩, hlyy112⟩ := okA.at0 hA_y89
                  simp only [Nat.zero_add] at hsyy112 hnyy112 hpyy112
                  have hmn : ∀ s, s < 4 → 0 ≤ r9b (6 + 86 * s) ∧ r9b (6 + 86 * s) ≤ 12 := fun s hs => (hsyy112 s hs).1
                  have h5 : 0 ≤ r9b 5 ∧ r9b 5 ≤ 6 := hpyy112
                  have h13be : F9b 13 = F 13 := fFb 13 (by decide) (by decide) (by decide)
                  have h14be : F9b 14 = F 14 := fFb 14 (by decide) (by decide) (by decide)
                  have h17be : F9b 17 = F 17 := fFb 17 (by decide) (by decide) (by decide)
                  have h20be : F9b 20 = F 20 := fFb 20 (by decide) (by decide) (by decide)
                  have h21be : F9b 21 = F 21 := fFb 21 (by decide) (by decide) (by decide)
                  have h23be : F9b 23 = F 23 := fFb 23 (by decide) (by decide) (by decide)
                  have h24be : F9b 24 = F 24 := fFb 24 (by decide) (by decide) (by decide)
                  have h15be : F9b 15 = F 15 := fFb 15 (by decide) (by decide) (by decide)
                  have h16be : F9b 16 = F 16 := fFb 16 (by decide) (by decide) (by decide)
                  have h18be : F9b 18 = F 18 := fFb 18 (by decide) (by decide) (by decide)
                  have h19be : F9b 19 = F 19 := fFb 19 (by decide) (by decide) (by decide)
                  have h25be : F9b 25 = F 25 := fFb 25 (by decide) (by decide) (by decide)
                  have h26be : F9b 26 = F 26 := fFb 26 (by decide) (by decide) (by decide)
                  have h29be : F9b 29 = F 29 := fFb 29 (by decide) (by decide) (by decide)
                  refine z_iload C 5 dX10_falls_58 rfl ?_
                  refine z_bipush (z := 50) C dX10_falls_60 (by decide) ?_
                  refine z_icmp_gt (tgt := 101) C dX10_falls_62 (by decide) (by omega) (by omega) (fun hby113 => ?_) (fun hby113 => ?_)
                  · refine z_iinc (z := hh + 1) (lv' := [(4, .int (zI (hh + 1))), (0, .ref (ad i)), (1, .int (zI (z))), (2, .int (zI (cn))), (3, .int (zI (fi))), (5, .int (zI (mm)))]) (j := 4) C dX10_falls_101 rfl rfl (by decide) rfl ?_
                    refine z_goto (tgt := 46) C dX10_falls_104 (by decide) ?_
                    have hMy114 : okMr cs ad g1 i (x) F9b r9b st op ai fa mu tb tp := okMr.upd fMb hg_y89 fMb.2.1 (fun f _ => rfl) ha1_y89 (hA_y89.mono (by omega)) (fun j a b => by
                        exact Or.inl (by rfl))
                    have hFF : (∀ f, f ≠ 12 → f ≠ 27 → f ≠ 28 → F9b f = F f) := fun f n12 n27 n28 => fFb f n12 n27 n28
                    have hey115 : F9b 13 = F9b 13 := rfl
                    have hey116 : F9b 14 = F9b 14 := rfl
                    have hey117 : F9b 27 = F9b 27 := rfl
                    refine z_lv (lv' := [(0, .ref (ad i)), (1, .int (zI (z))), (2, .int (zI (cn))), (3, .int (zI (fi))), (4, .int (zI (hh + 1)))]) [1, 2, 3, 4, 0] rfl ?_
                    exact ih_lp1 _ (by omega) (cn) (fi) (hh + 1) _ _ g1 rfl hMy114 hFF (fRb) (fun j j1 => by exact f3 j j1) (by omega) (by omega) (by omega) (by omega)
                  · refine z_aload_n C 0 dX10_falls_65 rfl ?_
                    refine z_iload C 4 dX10_falls_66 rfl ?_
                    refine z_iload C 5 dX10_falls_68 rfl ?_
                    have h27y118 : F9b 27 = F9b 27 := rfl
                    have hMy119 : okMr cs ad g1 i (x) F9b r9b st op ai fa mu tb tp := okMr.upd fMb hg_y89 fMb.2.1 (fun f _ => rfl) ha1_y89 (hA_y89.mono (by omega)) (fun j a b => by
                        exact Or.inl (by rfl))
                    refine z_cV (As := [.int (zI (hh)), .int (zI (mm))]) (rest := []) (ci := 12) C (c_X10_isGuess l D A cs tt N ad _ i hN x hx _ _ hMy119 (by omega) (hh) (by omega) (mm) (by omega)) (lt_A0 hN rfl) hay90 hg_y89 rfl rfl mv_yX10_isGuess q_2075 hd_yX10_isGuess (by decide) (Nat.le_of_ble_eq_true rfl) (by decide) dX10_falls_70 rfl (kI0 fun vy120 gvy120 hvy120 => ?_)
                    obtain ⟨hrvy120, ⟨Fvy120, rvy120, hMvy120, hFvy120, hRvy120, hxvy120⟩, hfvy120⟩ := hvy120
                    have hBvy120 : (∀ f, f ≠ 27 → f ≠ 28 → Fvy120 f = F9b f) := fun f n27 n28 => (hFvy120 f n27 n28)
                    have hCvy120 : (∀ f, f ≠ 12 → f ≠ 27 → f ≠ 28 → Fvy120 f = F f) := fun f n12 n27 n28 => (hBvy120 f n27 n28).trans (fFb f n12 n27 n28)
                    have hq13vy120 : Fvy120 13 = F9b 13 := (hFvy120 13 (by decide) (by decide)).trans rfl
                    have hq14vy120 : Fvy120 14 = F9b 14 := (hFvy120 14 (by decide) (by decide)).trans rfl
                    have hq15vy120 : Fvy120 15 = F9b 15 := (hFvy120 15 (by decide) (by decide)).trans rfl
                    have hq17vy120 : Fvy120 17 = F9b 17 := (hFvy120 17 (by decide) (by decide)).trans rfl
                    have hq20vy120 : Fvy120 20 = F9b 20 := (hFvy120 20 (by decide) (by decide)).trans rfl
                    have hq21vy120 : Fvy120 21 = F9b 21 := (hFvy120 21 (by decide) (by decide)).trans rfl
                    have hq23vy120 : Fvy120 23 = F9b 23 := (hFvy120 23 (by decide) (by decide)).trans rfl
                    have hq24vy120 : Fvy120 24 = F9b 24 := (hFvy120 24 (by decide) (by decide)).trans rfl
                    have hq16vy120 : Fvy120 16 = F9b 16 := (hFvy120 16 (by decide) (by decide)).trans rfl
                    have hq18vy120 : Fvy120 18 = F9b 18 := (hFvy120 18 (by decide) (by decide)).trans rfl
                    have hq19vy120 : Fvy120 19 = F9b 19 := (hFvy120 19 (by decide) (by decide)).trans rfl
                    have hq25vy120 : Fvy120 25 = F9b 25 := (hFvy120 25 (by decide) (by decide)).trans rfl
                    have hq26vy120 : Fvy120 26 = F9b 26 := (hFvy120 26 (by decide) (by decide)).trans rfl
                    have hq29vy120 : Fvy120 29 = F9b 29 := (hFvy120 29 (by decide) (by decide)).trans rfl
                    obtain ⟨hg_y121, ⟨⟨e13_y121, e14_y121, e25_y121, e27_y121, e29_y121⟩, k15_y121, k16_y121, k17_y121, k18_y121, k19_y121, k20_y121, k23_y121, k21_y121⟩, hRD_y121, hTx_y121, hA_y121, ns_y121, nh_y121, nd_y121, rf_y121, pi_y121, te_y121, ki_y121, li_y121, ok1_y121, ok2_y121, fo_y121, dd_y121, dps_y121, ⟨ha1_y121, ha2_y121, ha3_y121, ha4_y121, ha5_y121, ha6_y121, ha7_y121, ha8_y121, ha9_y121, ha10_y121, ha11_y121, ha12_y121, ha13_y121, ha14_y121, ha15_y121, ha24_y121, ha25_y121, ha26_y121, ha27_y121, ha28_y121, ha29_y121⟩, hEv_y121, hPt_y121, hns_y121, htp_y121⟩ := id hMvy120
                    obtain ⟨-, hop_y121, hai_y121, hfa_y121, hT_y121, hT1_y121⟩ := id hEv_y121
                    have e14 := e14_y121
                    have e25 := e25_y121
                    have e27 := e27_y121
                    have e29 := e29_y121
                    have hop := hop_y121
                    have hai := hai_y121
                    have hfa := hfa_y121
                    have hT := hT_y121
                    have hT1 := hT1_y121
                    have hEv := hEv_y121
                    have htp := htp_y121
                    have hns := hns_y121
                    have hPt := hPt_y121
                    obtain ⟨⟨hsyy122, htyy122, hnyy122, hpyy122⟩, hlyy122⟩ := okA.at0 hA_y121
                    simp only [Nat.zero_add] at hsyy122 hnyy122 hpyy122
                    have hmn : ∀ s, s < 4 → 0 ≤ rvy120 (6 + 86 * s) ∧ rvy120 (6 + 86 * s) ≤ 12 := fun s hs => (hsyy122 s hs).1
                    have h5 : 0 ≤ rvy120 5 ∧ rvy120 5 ≤ 6 := hpyy122
                    refine z_if_ne (tgt := 79) C dX10_falls_73 (by decide) (by omega) (fun hby123 => ?_) (fun hby123 => ?_)
                    · refine z_iload_n C 2 dX10_falls_79 rfl ?_
                      refine z_if_ne (tgt := 92) C dX10_falls_80 (by decide) (by omega) (fun hby124 => ?_) (fun hby124 => ?_)
                      · refine z_iinc (z := cn + 1) (lv' := [(2, .int (zI (cn + 1))), (0, .ref (ad i)), (1, .int (zI (z))), (3, .int (zI (fi))), (4, .int (zI (hh))), (5, .int (zI (mm)))]) (j := 2) C dX10_falls_92 rfl rfl (by decide) rfl ?_
                        refine z_iinc (z := mm + 1) (lv' := [(5, .int (zI (mm + 1))), (2, .int (zI (cn + 1))), (0, .ref (ad i)), (1, .int (zI (z))), (3, .int (zI (fi))), (4, .int (zI (hh)))]) (j := 5) C dX10_falls_95 rfl rfl (by decide) rfl ?_
                        refine z_goto (tgt := 58) C dX10_falls_98 (by decide) ?_
                        obtain ⟨xy125, exy126, hxy127⟩ := zI_of (zI (cn + 1))
                        rw [exy126]
                        have hMy128 : okMr cs ad gvy120 i (x) Fvy120 rvy120 st op ai fa mu tb tp := okMr.upd hMvy120 hg_y121 hMvy120.2.1 (fun f _ => rfl) ha1_y121 (hA_y121.mono (by omega)) (fun j a b => by
                            exact Or.inl (by rfl))
                        have hFFb : (∀ f, f ≠ 12 → f ≠ 27 → f ≠ 28 → Fvy120 f = F f) := fun f n12 n27 n28 => hCvy120 f n12 n27 n28
                        have hey129 : Fvy120 13 = F9b 13 := hq13vy120
                        have hey130 : Fvy120 14 = F9b 14 := hq14vy120
                        have hey131 : Fvy120 27 = Fvy120 27 := rfl
                        refine z_lv (lv' := [(0, .ref (ad i)), (1, .int (zI (z))), (2, .int (zI (xy125))), (3, .int (zI (fi))), (4, .int (zI (hh))), (5, .int (zI (mm + 1)))]) [2, 3, 1, 4, 5, 0] rfl ?_
                        exact ih_lp2 _ (by omega) (xy125) (fi) (mm + 1) _ _ gvy120 rfl hMy128 hFFb ((fun j a9 => (hRvy120 j a9).trans (fRb j a9))) (fun j j1 => by rw [hfvy120 _ (by omega)]; exact f3 j j1) (by omega) (by omega) (by omega) (by omega)
                      · refine z_bipush (z := 100) C dX10_falls_83 (by decide) ?_
                        refine z_iload C 4 dX10_falls_85 rfl ?_
                        refine z_imul C dX10_falls_87 ?_
                        refine z_iload C 5 dX10_falls_88 rfl ?_
                        refine z_iadd C dX10_falls_90 ?_
                        refine z_istore_n (lv' := [(3, .int (zI ((100 * hh) + mm))), (0, .ref (ad i)), (1, .int (zI (z))), (2, .int (zI (cn))), (4, .int (zI (hh))), (5, .int (zI (mm)))]) C dX10_falls_91 rfl (by decide) rfl ?_
                        refine z_iinc (z := cn + 1) (lv' := [(2, .int (zI (cn + 1))), (3, .int (zI ((100 * hh) + mm))), (0, .ref (ad i)), (1, .int (zI (z))), (4, .int (zI (hh))), (5, .int (zI (mm)))]) (j := 3) C dX10_falls_92 rfl rfl (by decide) rfl ?_
                        refine z_iinc (z := mm + 1) (lv' := [(5, .int (zI (mm + 1))), (2, .int (zI (cn + 1))), (3, .int (zI ((100 * hh) + mm))), (0, .ref (ad i)), (1, .int (zI (z))), (4, .int (zI (hh)))]) (j := 5) C dX10_falls_95 rfl rfl (by decide) rfl ?_
                        refine z_goto (tgt := 58) C dX10_falls_98 (by decide) ?_
                        obtain ⟨xy132, exy133, hxy134⟩ := zI_of (zI (cn + 1))
                        rw [exy133]
                        have hMy135 : okMr cs ad gvy120 i (x) Fvy120 rvy120 st op ai fa mu tb tp := okMr.upd hMvy120 hg_y121 hMvy120.2.1 (fun f _ => rfl) ha1_y121 (hA_y121.mono (by omega)) (fun j a b => by
                            exact Or.inl (by rfl))
                        have hFFb : (∀ f, f ≠ 12 → f ≠ 27 → f ≠ 28 → Fvy120 f = F f) := fun f n12 n27 n28 => hCvy120 f n12 n27 n28
                        have hey136 : Fvy120 13 = F9b 13 := hq13vy120
                        have hey137 : Fvy120 14 = F9b 14 := hq14vy120
                        have hey138 : Fvy120 27 = Fvy120 27 := rfl
                        refine z_lv (lv' := [(0, .ref (ad i)), (1, .int (zI (z))), (2, .int (zI (xy132))), (3, .int (zI ((100 * hh) + mm))), (4, .int (zI (hh))), (5, .int (zI (mm + 1)))]) [3, 4, 1, 2, 5, 0] rfl ?_
                        exact ih_lp2 _ (by omega) (xy132) ((100 * hh) + mm) (mm + 1) _ _ gvy120 rfl hMy135 hFFb ((fun j a9 => (hRvy120 j a9).trans (fRb j a9))) (fun j j1 => by rw [hfvy120 _ (by omega)]; exact f3 j j1) (by omega) (by omega) (by omega) (by omega)
                    · refine z_goto (tgt := 95) C dX10_falls_76 (by decide) ?_
                      refine z_iinc (z := mm + 1) (lv' := [(5, .int (zI (mm + 1))), (0, .ref (ad i)), (1, .int (zI (z))), (2, .int (zI (cn))), (3, .int (zI (fi))), (4, .int (zI (hh)))]) (j := 5) C dX10_falls_95 rfl rfl (by decide) rfl ?_
                      refine z_goto (tgt := 58) C dX10_falls_98 (by decide) ?_
                      have hMy139 : okMr cs ad gvy120 i (x) Fvy120 rvy120 st op ai fa mu tb tp := okMr.upd hMvy120 hg_y121 hMvy120.2.1 (fun f _ => rfl) ha1_y121 (hA_y121.mono (by omega)) (fun j a b => by
                          exact Or.inl (by rfl))
                      have hFFb : (∀ f, f ≠ 12 → f ≠ 27 → f ≠ 28 → Fvy120 f = F f) := fun f n12 n27 n28 => hCvy120 f n12 n27 n28
                      have hey140 : Fvy120 13 = F9b 13 := hq13vy120
                      have hey141 : Fvy120 14 = F9b 14 := hq14vy120
                      have hey142 : Fvy120 27 = Fvy120 27 := rfl
                      refine z_lv (lv' := [(0, .ref (ad i)), (1, .int (zI (z))), (2, .int (zI (cn))), (3, .int (zI (fi))), (4, .int (zI (hh))), (5, .int (zI (mm + 1)))]) [1, 2, 3, 4, 5, 0] rfl ?_
                      exact ih_lp2 _ (by omega) (cn) (fi) (mm + 1) _ _ gvy120 rfl hMy139 hFFb ((fun j a9 => (hRvy120 j a9).trans (fRb j a9))) (fun j j1 => by rw [hfvy120 _ (by omega)]; exact f3 j j1) (by omega) (by omega) (by omega) (by omega)
              have hMy143 : okMr cs ad g1 i (x) F9 r9 st op ai fa mu tb tp := okMr.upd fM hg_y31 fM.2.1 (fun f _ => rfl) ha1_y31 (hA_y31.mono (by omega)) (fun j a b => by
                  exact Or.inl (by rfl))
              have hFFb : (∀ f, f ≠ 12 → f ≠ 27 → f ≠ 28 → F9 f = F f) := fun f n12 n27 n28 => fF f n12 n27 n28
              have hey144 : F9 13 = F9 13 := rfl
              have hey145 : F9 14 = F9 14 := rfl
              have hey146 : F9 27 = F9 27 := rfl
              refine z_lv (lv' := [(0, .ref (ad i)), (1, .int (zI (z))), (2, .int (zI (cn))), (3, .int (zI (fi))), (4, .int (zI (hh))), (5, .int (zI (1)))]) [1, 2, 3, 4, 5, 0] rfl ?_
              exact lp2 _ (cn) (fi) (1) _ _ g1 rfl hMy143 hFFb (fR) (fun j j1 => by exact f3 j j1) (by omega) (by omega) (by omega) (by omega)
        have hgy147 := up_n egy25 ha1 (ne_o (i := i) (c := 1) (d := 0) rfl)
        have hgy148 := (hfvy28 (i + 1) (ne_o (i := i) (c := 1) (d := 0) rfl)).trans hgy147
        have hFy149 : ∀ f, f ≠ 12 → Fvy28 f = F f := fun f n12 => ((hFvy28 f n12).trans ((uZ_n _ _ n12).trans rfl))
        have hey150 : Fvy28 13 = F 13 := ((hFvy28 13 (by decide)).trans (fn rfl (by decide)))
        have hey151 : Fvy28 14 = F 14 := ((hFvy28 14 (by decide)).trans (fn rfl (by decide)))
        have hey152 : Fvy28 15 = F 15 := ((hFvy28 15 (by decide)).trans (fn rfl (by decide)))
        have hey153 : Fvy28 16 = F 16 := ((hFvy28 16 (by decide)).trans (fn rfl (by decide)))
        have hey154 : Fvy28 17 = F 17 := ((hFvy28 17 (by decide)).trans (fn rfl (by decide)))
        have hey155 : Fvy28 18 = F 18 := ((hFvy28 18 (by decide)).trans (fn rfl (by decide)))
        have hey156 : Fvy28 19 = F 19 := ((hFvy28 19 (by decide)).trans (fn rfl (by decide)))
        have hey157 : Fvy28 20 = F 20 := ((hFvy28 20 (by decide)).trans (fn rfl (by decide)))
        have hey158 : Fvy28 21 = F 21 := ((hFvy28 21 (by decide)).trans (fn rfl (by decide)))
        have hey159 : Fvy28 23 = F 23 := ((hFvy28 23 (by decide)).trans (fn rfl (by decide)))
        have hey160 : Fvy28 25 = F 25 := ((hFvy28 25 (by decide)).trans (fn rfl (by decide)))
        have hey161 : Fvy28 27 = F 27 := ((hFvy28 27 (by decide)).trans (fn rfl (by decide)))
        have hey162 : Fvy28 28 = F 28 := ((hFvy28 28 (by decide)).trans (fn rfl (by decide)))
        have hey163 : Fvy28 29 = F 29 := ((hFvy28 29 (by decide)).trans (fn rfl (by decide)))
        have hKy164 : okF Fvy28 := okF.mv hM.2.1 hey150 hey151 hey152 hey153 hey154 hey155 hey156 hey157 hey158 hey159 hey160 hey161 hey162 hey163
        have hMy165 : okMr cs ad gvy28 i (x) Fvy28 r st op ai fa mu tb tp := okMr.upd hM hcvy28 hKy164 (fun f a => hFy149 f (by omega)) hgy148 (hA.mono (by omega)) (fun j a b => by
            exact Or.inl (by rw [hfvy28 _ (by omega)]; rw [egy25, va_up_ne _ _ (by omega)]))
        have hFy166 : ∀ f, f ≠ 12 → Fvy28 f = F f := fun f n12 => ((hFvy28 f n12).trans ((uZ_n _ _ n12).trans rfl))
        have hFF : (∀ f, f ≠ 12 → f ≠ 27 → f ≠ 28 → Fvy28 f = F f) := fun f n12 n27 n28 => (hFy166 f n12)
        have hey167 : Fvy28 13 = F 13 := ((hFvy28 13 (by decide)).trans (fn rfl (by decide)))
        have hey168 : Fvy28 14 = F 14 := ((hFvy28 14 (by decide)).trans (fn rfl (by decide)))
        have hey169 : Fvy28 27 = F 27 := ((hFvy28 27 (by decide)).trans (fn rfl (by decide)))
        refine z_lv (lv' := [(0, .ref (ad i)), (1, .int (zI (z))), (2, .int (zI (0))), (3, .int (zI (-1))), (4, .int (zI (0)))]) [3, 4, 2, 1, 0] rfl ?_
        exact lp1 _ (0) (-1) (0) _ _ gvy28 rfl hMy165 hFF ((fun j _ => rfl)) (fun j j1 => by rw [hfvy28 _ (by omega)]; rw [egy25, va_up_ne _ _ (by omega)]) (by omega) (by omega) (by omega) (by omega)
      · refine z_aload_n C 0 dX10_falls_26 rfl ?_
        have hgy170 := up_n egy25 ha1 (ne_o (i := i) (c := 1) (d := 0) rfl)
        have hgy171 := (hfvy28 (i + 1) (ne_o (i := i) (c := 1) (d := 0) rfl)).trans hgy170
        have hFy172 : ∀ f, f ≠ 12 → Fvy28 f = F f := fun f n12 => ((hFvy28 f n12).trans ((uZ_n _ _ n12).trans rfl))
        have hey173 : Fvy28 13 = F 13 := ((hFvy28 13 (by decide)).trans (fn rfl (by decide)))
        have hey174 : Fvy28 14 = F 14 := ((hFvy28 14 (by decide)).trans (fn rfl (by decide)))
        have hey175 : Fvy28 15 = F 15 := ((hFvy28 15 (by decide)).trans (fn rfl (by decide)))
        have hey176 : Fvy28 16 = F 16 := ((hFvy28 16 (by decide)).trans (fn rfl (by decide)))
        have hey177 : Fvy28 17 = F 17 := ((hFvy28 17 (by decide)).trans (fn rfl (by decide)))
        have hey178 : Fvy28 18 = F 18 := ((hFvy28 18 (by decide)).trans (fn rfl (by decide)))
        have hey179 : Fvy28 19 = F 19 := ((hFvy28 19 (by decide)).trans (fn rfl (by decide)))
        have hey180 : Fvy28 20 = F 20 := ((hFvy28 20 (by decide)).trans (fn rfl (by decide)))
        have hey181 : Fvy28 21 = F 21 := ((hFvy28 21 (by decide)).trans (fn rfl (by decide)))
        have hey182 : Fvy28 23 = F 23 := ((hFvy28 23 (by decide)).trans (fn rfl (by decide)))
        have hey183 : Fvy28 25 = F 25 := ((hFvy28 25 (by decide)).trans (fn rfl (by decide)))
        have hey184 : Fvy28 27 = F 27 := ((hFvy28 27 (by decide)).trans (fn rfl (by decide)))
        have hey185 : Fvy28 28 = F 28 := ((hFvy28 28 (by decide)).trans (fn rfl (by decide)))
        have hey186 : Fvy28 29 = F 29 := ((hFvy28 29 (by decide)).trans (fn rfl (by decide)))
        have hKy187 : okF Fvy28 := okF.mv hM.2.1 hey173 hey174 hey175 hey176 hey177 hey178 hey179 hey180 hey181 hey182 hey183 hey184 hey185 hey186
        have hMy188 : okMr cs ad gvy28 i (x) Fvy28 r st op ai fa mu tb tp := okMr.upd hM hcvy28 hKy187 (fun f a => hFy172 f (by omega)) hgy171 (hA.mono (by omega)) (fun j a b => by
            exact Or.inl (by rw [hfvy28 _ (by omega)]; rw [egy25, va_up_ne _ _ (by omega)]))
        refine z_cV (As := []) (rest := []) (ci := 12) C (c_X10_isNoted l D A cs tt N ad _ i hN x hx _ _ hMy188 ) (lt_A0 hN rfl) hay1 hcvy28 rfl rfl mv_yX10_isNoted q_2071 hd_yX10_isNoted (by decide) (Nat.le_of_ble_eq_true rfl) (by decide) dX10_falls_27 rfl (kI0 fun vy189 gvy189 hvy189 => ?_)
        obtain ⟨hrvy189, ⟨Fvy189, rvy189, hMvy189, hFvy189, hRvy189⟩, hfvy189⟩ := hvy189
        have hFy190 : ∀ f, f ≠ 12 → Fvy28 f = F f := fun f n12 => ((hFvy28 f n12).trans ((uZ_n _ _ n12).trans rfl))
        have hBvy189 : (∀ f, f ≠ 12 → Fvy189 f = F f) := fun f n12 => (hFvy189 f ).trans (hFy190 f n12)
        have hCvy189 := hBvy189
        have hq13vy189 : Fvy189 13 = F 13 := (hFvy189 13).trans ((hFvy28 13 (by decide)).trans (fn rfl (by decide)))
        have hq14vy189 : Fvy189 14 = F 14 := (hFvy189 14).trans ((hFvy28 14 (by decide)).trans (fn rfl (by decide)))
        have hq15vy189 : Fvy189 15 = F 15 := (hFvy189 15).trans ((hFvy28 15 (by decide)).trans (fn rfl (by decide)))
        have hq17vy189 : Fvy189 17 = F 17 := (hFvy189 17).trans ((hFvy28 17 (by decide)).trans (fn rfl (by decide)))
        have hq20vy189 : Fvy189 20 = F 20 := (hFvy189 20).trans ((hFvy28 20 (by decide)).trans (fn rfl (by decide)))
        have hq21vy189 : Fvy189 21 = F 21 := (hFvy189 21).trans ((hFvy28 21 (by decide)).trans (fn rfl (by decide)))
        have hq23vy189 : Fvy189 23 = F 23 := (hFvy189 23).trans ((hFvy28 23 (by decide)).trans (fn rfl (by decide)))
        have hq24vy189 : Fvy189 24 = F 24 := (hFvy189 24).trans ((hFvy28 24 (by decide)).trans (fn rfl (by decide)))
        have hq16vy189 : Fvy189 16 = F 16 := (hFvy189 16).trans ((hFvy28 16 (by decide)).trans (fn rfl (by decide)))
        have hq18vy189 : Fvy189 18 = F 18 := (hFvy189 18).trans ((hFvy28 18 (by decide)).trans (fn rfl (by decide)))
        have hq19vy189 : Fvy189 19 = F 19 := (hFvy189 19).trans ((hFvy28 19 (by decide)).trans (fn rfl (by decide)))
        have hq25vy189 : Fvy189 25 = F 25 := (hFvy189 25).trans ((hFvy28 25 (by decide)).trans (fn rfl (by decide)))
        have hq26vy189 : Fvy189 26 = F 26 := (hFvy189 26).trans ((hFvy28 26 (by decide)).trans (fn rfl (by decide)))
        have hq27vy189 : Fvy189 27 = F 27 := (hFvy189 27).trans ((hFvy28 27 (by decide)).trans (fn rfl (by decide)))
        have hq29vy189 : Fvy189 29 = F 29 := (hFvy189 29).trans ((hFvy28 29 (by decide)).trans (fn rfl (by decide)))
        obtain ⟨hg_y191, ⟨⟨e13_y191, e14_y191, e25_y191, e27_y191, e29_y191⟩, k15_y191, k16_y191, k17_y191, k18_y191, k19_y191, k20_y191, k23_y191, k21_y191⟩, hRD_y191, hTx_y191, hA_y191, ns_y191, nh_y191, nd_y191, rf_y191, pi_y191, te_y191, ki_y191, li_y191, ok1_y191, ok2_y191, fo_y191, dd_y191, dps_y191, ⟨ha1_y191, ha2_y191, ha3_y191, ha4_y191, ha5_y191, ha6_y191, ha7_y191, ha8_y191, ha9_y191, ha10_y191, ha11_y191, ha12_y191, ha13_y191, ha14_y191, ha15_y191, ha24_y191, ha25_y191, ha26_y191, ha27_y191, ha28_y191, ha29_y191⟩, hEv_y191, hPt_y191, hns_y191, htp_y191⟩ := id hMvy189
        obtain ⟨-, hop_y191, hai_y191, hfa_y191, hT_y191, hT1_y191⟩ := id hEv_y191
        have e14 := e14_y191
        have e25 := e25_y191
        have e27 := e27_y191
        have e29 := e29_y191
        have hop := hop_y191
        have hai := hai_y191
        have hfa := hfa_y191
        have hT := hT_y191
        have hT1 := hT1_y191
        have hEv := hEv_y191
        have htp := htp_y191
        have hns := hns_y191
        have hPt := hPt_y191
        obtain ⟨⟨hsyy192, htyy192, hnyy192, hpyy192⟩, hlyy192⟩ := okA.at0 hA_y191
        simp only [Nat.zero_add] at hsyy192 hnyy192 hpyy192
        have hmn : ∀ s, s < 4 → 0 ≤ rvy189 (6 + 86 * s) ∧ rvy189 (6 + 86 * s) ≤ 12 := fun s hs => (hsyy192 s hs).1
        have h5 : 0 ≤ rvy189 5 ∧ rvy189 5 ≤ 6 := hpyy192
        refine z_if_eq (tgt := 37) C dX10_falls_30 (by decide) (by omega) (fun hby193 => ?_) (fun hby193 => ?_)
        · refine z_iconst (z := 0) C dX10_falls_37 rfl ?_
          have hMy194 : okMr cs ad gvy189 i (x + 1) Fvy189 rvy189 st op ai fa mu tb tp := okMr.upd hMvy189 hg_y191 hMvy189.2.1 (fun f _ => rfl) ha1_y191 (hA_y191.mono (by omega)) (fun j a b => by
              exact Or.inl (by rfl))
          have hkpy195 : Fvy189 13 = F 13 := hq13vy189
          have hkpy196 : Fvy189 14 = F 14 := hq14vy189
          have hkpy197 : Fvy189 15 = F 15 := hq15vy189
          have hkpy198 : Fvy189 16 = F 16 := hq16vy189
          have hkpy199 : Fvy189 17 = F 17 := hq17vy189
          have hkpy200 : Fvy189 18 = F 18 := hq18vy189
          have hkpy201 : Fvy189 19 = F 19 := hq19vy189
          have hkpy202 : Fvy189 20 = F 20 := hq20vy189
          have hkpy203 : Fvy189 21 = F 21 := hq21vy189
          have hkpy204 : Fvy189 23 = F 23 := hq23vy189
          have hkpy205 : Fvy189 24 = F 24 := hq24vy189
          have hkpy206 : Fvy189 25 = F 25 := hq25vy189
          have hkpy207 : Fvy189 26 = F 26 := hq26vy189
          have hkpy208 : Fvy189 27 = F 27 := hq27vy189
          have hkpy209 : Fvy189 29 = F 29 := hq29vy189
          exact z_iret C hr hlk dX10_falls_38 (by decide) (by decide) ⟨0, rfl, rfl, rfl, by omega, ⟨_, _, hMy194, ⟨hkpy195, hkpy196, hkpy197, hkpy198, hkpy199, hkpy200, hkpy201, hkpy202, hkpy203, hkpy204, hkpy205⟩, ⟨(hkpy206.trans hp25), (hkpy207.trans hp26), (hkpy208.trans hp27), (hkpy209.trans hp29)⟩, (fun j a9 => (hRvy189 j a9).trans ((fun j _ => rfl) j a9))⟩, fun j j1 => by rw [hfvy189 _ (by omega)]; rw [hfvy28 _ (by omega)]; rw [egy25, va_up_ne _ _ (by omega)]⟩
        · refine z_iconst (z := 1) C dX10_falls_33 rfl ?_
          refine z_goto (tgt := 38) C dX10_falls_34 (by decide) ?_
          have hMy210 : okMr cs ad gvy189 i (x + 1) Fvy189 rvy189 st op ai fa mu tb tp := okMr.upd hMvy189 hg_y191 hMvy189.2.1 (fun f _ => rfl) ha1_y191 (hA_y191.mono (by omega)) (fun j a b => by
              exact Or.inl (by rfl))
          have hkpy211 : Fvy189 13 = F 13 := hq13vy189
          have hkpy212 : Fvy189 14 = F 14 := hq14vy189
          have hkpy213 : Fvy189 15 = F 15 := hq15vy189
          have hkpy214 : Fvy189 16 = F 16 := hq16vy189
          have hkpy215 : Fvy189 17 = F 17 := hq17vy189
          have hkpy216 : Fvy189 18 = F 18 := hq18vy189
          have hkpy217 : Fvy189 19 = F 19 := hq19vy189
          have hkpy218 : Fvy189 20 = F 20 := hq20vy189
          have hkpy219 : Fvy189 21 = F 21 := hq21vy189
          have hkpy220 : Fvy189 23 = F 23 := hq23vy189
          have hkpy221 : Fvy189 24 = F 24 := hq24vy189
          have hkpy222 : Fvy189 25 = F 25 := hq25vy189
          have hkpy223 : Fvy189 26 = F 26 := hq26vy189
          have hkpy224 : Fvy189 27 = F 27 := hq27vy189
          have hkpy225 : Fvy189 29 = F 29 := hq29vy189
          exact z_iret C hr hlk dX10_falls_38 (by decide) (by decide) ⟨1, rfl, rfl, rfl, by omega, ⟨_, _, hMy210, ⟨hkpy211, hkpy212, hkpy213, hkpy214, hkpy215, hkpy216, hkpy217, hkpy218, hkpy219, hkpy220, hkpy221⟩, ⟨(hkpy222.trans hp25), (hkpy223.trans hp26), (hkpy224.trans hp27), (hkpy225.trans hp29)⟩, (fun j a9 => (hRvy189 j a9).trans ((fun j _ => rfl) j a9))⟩, fun j j1 => by rw [hfvy189 _ (by omega)]; rw [hfvy28 _ (by omega)]; rw [egy25, va_up_ne _ _ (by omega)]⟩
    · refine z_if_ne (tgt := 21) C dX10_falls_16 (by decide) (by omega) (fun h => absurd h (by omega)) (fun _ => ?_)
      refine z_iconst (z := 0) C dX10_falls_19 rfl ?_
      have hgy226 := up_n egy25 ha1 (ne_o (i := i) (c := 1) (d := 0) rfl)
      have hgy227 := (hfvy28 (i + 1) (ne_o (i := i) (c := 1) (d := 0) rfl)).trans hgy226
      have hFy228 : ∀ f, f ≠ 12 → Fvy28 f = F f := fun f n12 => ((hFvy28 f n12).trans ((uZ_n _ _ n12).trans rfl))
      have hey229 : Fvy28 13 = F 13 := ((hFvy28 13 (by decide)).trans (fn rfl (by decide)))
      have hey230 : Fvy28 14 = F 14 := ((hFvy28 14 (by decide)).trans (fn rfl (by decide)))
      have hey231 : Fvy28 15 = F 15 := ((hFvy28 15 (by decide)).trans (fn rfl (by decide)))
      have hey232 : Fvy28 16 = F 16 := ((hFvy28 16 (by decide)).trans (fn rfl (by decide)))
      have hey233 : Fvy28 17 = F 17 := ((hFvy28 17 (by decide)).trans (fn rfl (by decide)))
      have hey234 : Fvy28 18 = F 18 := ((hFvy28 18 (by decide)).trans (fn rfl (by decide)))
      have hey235 : Fvy28 19 = F 19 := ((hFvy28 19 (by decide)).trans (fn rfl (by decide)))
      have hey236 : Fvy28 20 = F 20 := ((hFvy28 20 (by decide)).trans (fn rfl (by decide)))
      have hey237 : Fvy28 21 = F 21 := ((hFvy28 21 (by decide)).trans (fn rfl (by decide)))
      have hey238 : Fvy28 23 = F 23 := ((hFvy28 23 (by decide)).trans (fn rfl (by decide)))
      have hey239 : Fvy28 25 = F 25 := ((hFvy28 25 (by decide)).trans (fn rfl (by decide)))
      have hey240 : Fvy28 27 = F 27 := ((hFvy28 27 (by decide)).trans (fn rfl (by decide)))
      have hey241 : Fvy28 28 = F 28 := ((hFvy28 28 (by decide)).trans (fn rfl (by decide)))
      have hey242 : Fvy28 29 = F 29 := ((hFvy28 29 (by decide)).trans (fn rfl (by decide)))
      have hKy243 : okF Fvy28 := okF.mv hM.2.1 hey229 hey230 hey231 hey232 hey233 hey234 hey235 hey236 hey237 hey238 hey239 hey240 hey241 hey242
      have hMy244 : okMr cs ad gvy28 i (x + 1) Fvy28 r st op ai fa mu tb tp := okMr.upd hM hcvy28 hKy243 (fun f a => hFy228 f (by omega)) hgy227 (hA.mono (by omega)) (fun j a b => by
          exact Or.inl (by rw [hfvy28 _ (by omega)]; rw [egy25, va_up_ne _ _ (by omega)]))
      have hkpy245 : Fvy28 13 = F 13 := ((hFvy28 13 (by decide)).trans (fn rfl (by decide)))
      have hkpy246 : Fvy28 14 = F 14 := ((hFvy28 14 (by decide)).trans (fn rfl (by decide)))
      have hkpy247 : Fvy28 15 = F 15 := ((hFvy28 15 (by decide)).trans (fn rfl (by decide)))
      have hkpy248 : Fvy28 16 = F 16 := ((hFvy28 16 (by decide)).trans (fn rfl (by decide)))
      have hkpy249 : Fvy28 17 = F 17 := ((hFvy28 17 (by decide)).trans (fn rfl (by decide)))
      have hkpy250 : Fvy28 18 = F 18 := ((hFvy28 18 (by decide)).trans (fn rfl (by decide)))
      have hkpy251 : Fvy28 19 = F 19 := ((hFvy28 19 (by decide)).trans (fn rfl (by decide)))
      have hkpy252 : Fvy28 20 = F 20 := ((hFvy28 20 (by decide)).trans (fn rfl (by decide)))
      have hkpy253 : Fvy28 21 = F 21 := ((hFvy28 21 (by decide)).trans (fn rfl (by decide)))
      have hkpy254 : Fvy28 23 = F 23 := ((hFvy28 23 (by decide)).trans (fn rfl (by decide)))
      have hkpy255 : Fvy28 24 = F 24 := ((hFvy28 24 (by decide)).trans (fn rfl (by decide)))
      have hkpy256 : Fvy28 25 = F 25 := ((hFvy28 25 (by decide)).trans (fn rfl (by decide)))
      have hkpy257 : Fvy28 26 = F 26 := ((hFvy28 26 (by decide)).trans (fn rfl (by decide)))
      have hkpy258 : Fvy28 27 = F 27 := ((hFvy28 27 (by decide)).trans (fn rfl (by decide)))
      have hkpy259 : Fvy28 29 = F 29 := ((hFvy28 29 (by decide)).trans (fn rfl (by decide)))
      exact z_iret C hr hlk dX10_falls_20 (by decide) (by decide) ⟨0, rfl, rfl, rfl, by omega, ⟨_, _, hMy244, ⟨hkpy245, hkpy246, hkpy247, hkpy248, hkpy249, hkpy250, hkpy251, hkpy252, hkpy253, hkpy254, hkpy255⟩, ⟨(hkpy256.trans hp25), (hkpy257.trans hp26), (hkpy258.trans hp27), (hkpy259.trans hp29)⟩, (fun j _ => rfl)⟩, fun j j1 => by rw [hfvy28 _ (by omega)]; rw [egy25, va_up_ne _ _ (by omega)]⟩
  · refine z_iconst (z := 1) C dX10_falls_12 rfl ?_
    have hey261 : (uZ F 12 (0)) 12 = 0 := (uZ_s _ _ _)
    refine z_cV (As := [.int (zI (0)), .int (zI (1))]) (rest := []) (ci := 12) C (c_X10_right l D A cs tt N ad _ i hN _ hgy26 (by omega) (0) (by omega) (1) (by omega)) (lt_A0 hN rfl) hay1 hgy26 rfl rfl mv_yX10_right q_1648 hd_yX10_right (by decide) (Nat.le_of_ble_eq_true rfl) (by decide) dX10_falls_13 rfl (kI0 fun vy260 gvy260 hvy260 => ?_)
    obtain ⟨hrvy260, ⟨Fvy260, hcvy260, htvy260, hFvy260⟩, hfvy260⟩ := hvy260
    obtain rfl : vy260 = 0 := by omega
    refine z_if_ne (tgt := 21) C dX10_falls_16 (by decide) (by omega) (fun h => absurd h (by omega)) (fun _ => ?_)
    refine z_iconst (z := 0) C dX10_falls_19 rfl ?_
    have hgy262 := up_n egy25 ha1 (ne_o (i := i) (c := 1) (d := 0) rfl)
    have hgy263 := (hfvy260 (i + 1) (ne_o (i := i) (c := 1) (d := 0) rfl)).trans hgy262
    have hFy264 : ∀ f, f ≠ 12 → Fvy260 f = F f := fun f n12 => ((hFvy260 f n12).trans ((uZ_n _ _ n12).trans rfl))
    have hey265 : Fvy260 13 = F 13 := ((hFvy260 13 (by decide)).trans (fn rfl (by decide)))
    have hey266 : Fvy260 14 = F 14 := ((hFvy260 14 (by decide)).trans (fn rfl (by decide)))
    have hey267 : Fvy260 15 = F 15 := ((hFvy260 15 (by decide)).trans (fn rfl (by decide)))
    have hey268 : Fvy260 16 = F 16 := ((hFvy260 16 (by decide)).trans (fn rfl (by decide)))
    have hey269 : Fvy260 17 = F 17 := ((hFvy260 17 (by decide)).trans (fn rfl (by decide)))
    have hey270 : Fvy260 18 = F 18 := ((hFvy260 18 (by decide)).trans (fn rfl (by decide)))
    have hey271 : Fvy260 19 = F 19 := ((hFvy260 19 (by decide)).trans (fn rfl (by decide)))
    have hey272 : Fvy260 20 = F 20 := ((hFvy260 20 (by decide)).trans (fn rfl (by decide)))
    have hey273 : Fvy260 21 = F 21 := ((hFvy260 21 (by decide)).trans (fn rfl (by decide)))
    have hey274 : Fvy260 23 = F 23 := ((hFvy260 23 (by decide)).trans (fn rfl (by decide)))
    have hey275 : Fvy260 25 = F 25 := ((hFvy260 25 (by decide)).trans (fn rfl (by decide)))
    have hey276 : Fvy260 27 = F 27 := ((hFvy260 27 (by decide)).trans (fn rfl (by decide)))
    have hey277 : Fvy260 28 = F 28 := ((hFvy260 28 (by decide)).trans (fn rfl (by decide)))
    have hey278 : Fvy260 29 = F 29 := ((hFvy260 29 (by decide)).trans (fn rfl (by decide)))
    have hKy279 : okF Fvy260 := okF.mv hM.2.1 hey265 hey266 hey267 hey268 hey269 hey270 hey271 hey272 hey273 hey274 hey275 hey276 hey277 hey278
    have hMy280 : okMr cs ad gvy260 i (x + 1) Fvy260 r st op ai fa mu tb tp := okMr.upd hM hcvy260 hKy279 (fun f a => hFy264 f (by omega)) hgy263 (hA.mono (by omega)) (fun j a b => by
        exact Or.inl (by rw [hfvy260 _ (by omega)]; rw [egy25, va_up_ne _ _ (by omega)]))
    have hkpy281 : Fvy260 13 = F 13 := ((hFvy260 13 (by decide)).trans (fn rfl (by decide)))
    have hkpy282 : Fvy260 14 = F 14 := ((hFvy260 14 (by decide)).trans (fn rfl (by decide)))
    have hkpy283 : Fvy260 15 = F 15 := ((hFvy260 15 (by decide)).trans (fn rfl (by decide)))
    have hkpy284 : Fvy260 16 = F 16 := ((hFvy260 16 (by decide)).trans (fn rfl (by decide)))
    have hkpy285 : Fvy260 17 = F 17 := ((hFvy260 17 (by decide)).trans (fn rfl (by decide)))
    have hkpy286 : Fvy260 18 = F 18 := ((hFvy260 18 (by decide)).trans (fn rfl (by decide)))
    have hkpy287 : Fvy260 19 = F 19 := ((hFvy260 19 (by decide)).trans (fn rfl (by decide)))
    have hkpy288 : Fvy260 20 = F 20 := ((hFvy260 20 (by decide)).trans (fn rfl (by decide)))
    have hkpy289 : Fvy260 21 = F 21 := ((hFvy260 21 (by decide)).trans (fn rfl (by decide)))
    have hkpy290 : Fvy260 23 = F 23 := ((hFvy260 23 (by decide)).trans (fn rfl (by decide)))
    have hkpy291 : Fvy260 24 = F 24 := ((hFvy260 24 (by decide)).trans (fn rfl (by decide)))
    have hkpy292 : Fvy260 25 = F 25 := ((hFvy260 25 (by decide)).trans (fn rfl (by decide)))
    have hkpy293 : Fvy260 26 = F 26 := ((hFvy260 26 (by decide)).trans (fn rfl (by decide)))
    have hkpy294 : Fvy260 27 = F 27 := ((hFvy260 27 (by decide)).trans (fn rfl (by decide)))
    have hkpy295 : Fvy260 29 = F 29 := ((hFvy260 29 (by decide)).trans (fn rfl (by decide)))
    exact z_iret C hr hlk dX10_falls_20 (by decide) (by decide) ⟨0, rfl, rfl, rfl, by omega, ⟨_, _, hMy280, ⟨hkpy281, hkpy282, hkpy283, hkpy284, hkpy285, hkpy286, hkpy287, hkpy288, hkpy289, hkpy290, hkpy291⟩, ⟨(hkpy292.trans hp25), (hkpy293.trans hp26), (hkpy294.trans hp27), (hkpy295.trans hp29)⟩, (fun j _ => rfl)⟩, fun j j1 => by rw [hfvy260 _ (by omega)]; rw [egy25, va_up_ne _ _ (by omega)]⟩

set_option maxRecDepth 100000 in
set_option maxHeartbeats 4000000 in
theorem c_X10_unlike (l : Launch) (D : va_G) (A : Nat → Prop) (cs : Nat → ClassId) (tt : Nat) (N : Nat) (ad : Nat → Nat) (g : Nat → va_E) (i : Nat) (hN : i + 30 ≤ N) (F : Nat → Int) (hg : g i = mC ad i F) (dps : Nat → Int) (ha29 : g (i + 29) = iA cs 4800 dps) (z : Int) (hz : 0 ≤ z ∧ z ≤ 3) (z1 : Int) (hz1 : 0 ≤ z1 ∧ z1 ≤ 1200) : zM l yX10_unlike cX10_unlike 7 (some .int) ({ frames := 1, cells := 0, slots := 0, locals := 60 } : Room) D A cs tt N ad g [.ref (ad i), .int (zI (z)), .int (zI (z1))] (rI0 N ad fun r g' => (-2147483648 ≤ r ∧ r ≤ 2147483647) ∧ g = g') := by
  have hay1 : zAt ad (i) (ad i) := rfl
  have hay2 : zAt ad (i + 29) (ad (i + 29)) := rfl
  refine z_of (by decide) (Nat.le_of_ble_eq_true rfl) ?_
  intro pZ eZ sZ mZ below meth cZ C hr hlk hnm
  refine z_lv (lv' := [(0, .ref (ad i)), (1, .int (zI (z))), (2, .int (zI (z1)))]) [0, 1, 2] rfl ?_
  have lpo : ∀ (n9 : Nat) (mn : Int) (aa : Int) (g1 : Nat → va_E), (1201 - aa).toNat = n9 → (g = g1) → (-2147483648 ≤ mn ∧ mn ≤ 2147483647) → (0 ≤ aa ∧ aa ≤ z1) → zV pZ l eZ ({ frames := 1, cells := 0, slots := 0, locals := 60 } : Room) sZ mZ ([.ref (ad i), .int (zI (z)), .int (zI (z1))] : List Value).toArray below meth cZ (MQ below (zPost D A (rI0 N ad fun r g' => (-2147483648 ≤ r ∧ r ≤ 2147483647) ∧ g = g')) ([.ref (ad i), .int (zI (z)), .int (zI (z1))] : List Value).toArray sZ ({ frames := 1, cells := 0, slots := 0, locals := 60 } : Room).cells ({ frames := 1, cells := 0, slots := 0, locals := 60 } : Room).slots A) D A 7 (N) ad g1 (0) (0) 5 [(0, .ref (ad i)), (1, .int (zI (z))), (2, .int (zI (z1))), (3, .int (zI (mn))), (4, .int (zI (aa)))] [] := by
    intro n9
    induction n9 using Nat.strongRecOn with
    | ind n9 ih_lpo =>
      intro mn aa g1 hm9 hg1 hvo hvp
      subst hg1
      refine z_iload C 4 dX10_unlike_5 rfl ?_
      refine z_iload_n C 2 dX10_unlike_7 rfl ?_
      refine z_icmp_ge (tgt := 86) C dX10_unlike_8 (by decide) (by omega) (by omega) (fun hby3 => ?_) (fun hby3 => ?_)
      · refine z_iload_n C 3 dX10_unlike_86 rfl ?_
        exact z_iret C hr hlk dX10_unlike_87 (by decide) (by decide) ⟨mn, rfl, rfl, rfl, by omega, rfl⟩
      · refine z_iconst (z := 1) C dX10_unlike_11 rfl ?_
        refine z_istore (lv' := [(5, .int (zI (1))), (0, .ref (ad i)), (1, .int (zI (z))), (2, .int (zI (z1))), (3, .int (zI (mn))), (4, .int (zI (aa)))]) C dX10_unlike_12 (by decide) rfl ?_
        refine z_iconst (z := 0) C dX10_unlike_14 rfl ?_
        refine z_istore (lv' := [(6, .int (zI (0))), (5, .int (zI (1))), (0, .ref (ad i)), (1, .int (zI (z))), (2, .int (zI (z1))), (3, .int (zI (mn))), (4, .int (zI (aa)))]) C dX10_unlike_15 (by decide) rfl ?_
        have lpi : ∀ (n9 : Nat) (nw : Int) (bb : Int) (g1 : Nat → va_E), (1201 - bb).toNat = n9 → (g = g1) → (0 ≤ nw ∧ nw ≤ 1) → (0 ≤ bb ∧ bb ≤ aa) → zV pZ l eZ ({ frames := 1, cells := 0, slots := 0, locals := 60 } : Room) sZ mZ ([.ref (ad i), .int (zI (z)), .int (zI (z1))] : List Value).toArray below meth cZ (MQ below (zPost D A (rI0 N ad fun r g' => (-2147483648 ≤ r ∧ r ≤ 2147483647) ∧ g = g')) ([.ref (ad i), .int (zI (z)), .int (zI (z1))] : List Value).toArray sZ ({ frames := 1, cells := 0, slots := 0, locals := 60 } : Room).cells ({ frames := 1, cells := 0, slots := 0, locals := 60 } : Room).slots A) D A 7 (N) ad g1 (0) (0) 17 [(0, .ref (ad i)), (1, .int (zI (z))), (2, .int (zI (z1))), (3, .int (zI (mn))), (4, .int (zI (aa))), (5, .int (zI (nw))), (6, .int (zI (bb)))] [] := by
          intro n9
          induction n9 using Nat.strongRecOn with
          | ind n9 ih_lpi =>
            intro nw bb g1 hm9 hg2 hvi hvj
            subst hg2
            refine z_iload C 6 dX10_unlike_17 rfl ?_
            refine z_iload C 4 dX10_unlike_19 rfl ?_
            refine z_icmp_ge (tgt := 67) C dX10_unlike_21 (by decide) (by omega) (by omega) (fun hby4 => ?_) (fun hby4 => ?_)
            · refine z_iload_n C 3 dX10_unlike_67 rfl ?_
              refine z_iload C 5 dX10_unlike_68 rfl ?_
              refine z_if_eq (tgt := 77) C dX10_unlike_70 (by decide) (by omega) (fun hby5 => ?_) (fun hby5 => ?_)
              · refine z_iconst (z := 0) C dX10_unlike_77 rfl ?_
                refine z_iadd C dX10_unlike_78 ?_
                refine z_istore_n (lv' := [(3, .int (zI (mn + 0))), (0, .ref (ad i)), (1, .int (zI (z))), (2, .int (zI (z1))), (4, .int (zI (aa))), (5, .int (zI (nw))), (6, .int (zI (bb)))]) C dX10_unlike_79 rfl (by decide) rfl ?_
                refine z_iinc (z := aa + 1) (lv' := [(4, .int (zI (aa + 1))), (3, .int (zI (mn + 0))), (0, .ref (ad i)), (1, .int (zI (z))), (2, .int (zI (z1))), (5, .int (zI (nw))), (6, .int (zI (bb)))]) (j := 4) C dX10_unlike_80 rfl rfl (by decide) rfl ?_
                refine z_goto (tgt := 5) C dX10_unlike_83 (by decide) ?_
                refine z_lv (lv' := [(0, .ref (ad i)), (1, .int (zI (z))), (2, .int (zI (z1))), (3, .int (zI (mn + 0))), (4, .int (zI (aa + 1)))]) [2, 3, 4, 1, 0] rfl ?_
                exact ih_lpo _ (by omega) (mn + 0) (aa + 1) _ rfl rfl (by omega) (by omega)
              · refine z_iconst (z := 1) C dX10_unlike_73 rfl ?_
                refine z_goto (tgt := 78) C dX10_unlike_74 (by decide) ?_
                refine z_iadd C dX10_unlike_78 ?_
                refine z_istore_n (lv' := [(3, .int (zI (mn + 1))), (0, .ref (ad i)), (1, .int (zI (z))), (2, .int (zI (z1))), (4, .int (zI (aa))), (5, .int (zI (nw))), (6, .int (zI (bb)))]) C dX10_unlike_79 rfl (by decide) rfl ?_
                refine z_iinc (z := aa + 1) (lv' := [(4, .int (zI (aa + 1))), (3, .int (zI (mn + 1))), (0, .ref (ad i)), (1, .int (zI (z))), (2, .int (zI (z1))), (5, .int (zI (nw))), (6, .int (zI (bb)))]) (j := 4) C dX10_unlike_80 rfl rfl (by decide) rfl ?_
                refine z_goto (tgt := 5) C dX10_unlike_83 (by decide) ?_
                obtain ⟨xy6, exy7, hxy8⟩ := zI_of (zI (mn + 1))
                rw [exy7]
                refine z_lv (lv' := [(0, .ref (ad i)), (1, .int (zI (z))), (2, .int (zI (z1))), (3, .int (zI (xy6))), (4, .int (zI (aa + 1)))]) [2, 3, 4, 1, 0] rfl ?_
                exact ih_lpo _ (by omega) (xy6) (aa + 1) _ rfl rfl (by omega) (by omega)
            · refine z_iload C 5 dX10_unlike_24 rfl ?_
              refine z_if_eq (tgt := 67) C dX10_unlike_26 (by decide) (by omega) (fun hby9 => ?_) (fun hby9 => ?_)
              · refine z_iload_n C 3 dX10_unlike_67 rfl ?_
                refine z_iload C 5 dX10_unlike_68 rfl ?_
                refine z_if_eq (tgt := 77) C dX10_unlike_70 (by decide) (by omega) (fun hby10 => ?_) (fun hby10 => ?_)
                · refine z_iconst (z := 0) C dX10_unlike_77 rfl ?_
                  refine z_iadd C dX10_unlike_78 ?_
                  refine z_istore_n (lv' := [(3, .int (zI (mn + 0))), (0, .ref (ad i)), (1, .int (zI (z))), (2, .int (zI (z1))), (4, .int (zI (aa))), (5, .int (zI (nw))), (6, .int (zI (bb)))]) C dX10_unlike_79 rfl (by decide) rfl ?_
                  refine z_iinc (z := aa + 1) (lv' := [(4, .int (zI (aa + 1))), (3, .int (zI (mn + 0))), (0, .ref (ad i)), (1, .int (zI (z))), (2, .int (zI (z1))), (5, .int (zI (nw))), (6, .int (zI (bb)))]) (j := 4) C dX10_unlike_80 rfl rfl (by decide) rfl ?_
                  refine z_goto (tgt := 5) C dX10_unlike_83 (by decide) ?_
                  refine z_lv (lv' := [(0, .ref (ad i)), (1, .int (zI (z))), (2, .int (zI (z1))), (3, .int (zI (mn + 0))), (4, .int (zI (aa + 1)))]) [2, 3, 4, 1, 0] rfl ?_
                  exact ih_lpo _ (by omega) (mn + 0) (aa + 1) _ rfl rfl (by omega) (by omega)
                · refine z_iconst (z := 1) C dX10_unlike_73 rfl ?_
                  refine z_goto (tgt := 78) C dX10_unlike_74 (by decide) ?_
                  refine z_iadd C dX10_unlike_78 ?_
                  refine z_istore_n (lv' := [(3, .int (zI (mn + 1))), (0, .ref (ad i)), (1, .int (zI (z))), (2, .int (zI (z1))), (4, .int (zI (aa))), (5, .int (zI (nw))), (6, .int (zI (bb)))]) C dX10_unlike_79 rfl (by decide) rfl ?_
                  refine z_iinc (z := aa + 1) (lv' := [(4, .int (zI (aa + 1))), (3, .int (zI (mn + 1))), (0, .ref (ad i)), (1, .int (zI (z))), (2, .int (zI (z1))), (5, .int (zI (nw))), (6, .int (zI (bb)))]) (j := 4) C dX10_unlike_80 rfl rfl (by decide) rfl ?_
                  refine z_goto (tgt := 5) C dX10_unlike_83 (by decide) ?_
                  obtain ⟨xy11, exy12, hxy13⟩ := zI_of (zI (mn + 1))
                  rw [exy12]
                  refine z_lv (lv' := [(0, .ref (ad i)), (1, .int (zI (z))), (2, .int (zI (z1))), (3, .int (zI (xy11))), (4, .int (zI (aa + 1)))]) [2, 3, 4, 1, 0] rfl ?_
                  exact ih_lpo _ (by omega) (xy11) (aa + 1) _ rfl rfl (by omega) (by omega)
              · refine z_aload_n C 0 dX10_unlike_29 rfl ?_
                refine z_get (v := .ref (ad (i + 29))) C (lt_A0 hN rfl) hay1 hg rfl inA_X10 58 (by decide) q_1517 rfl rfl dX10_unlike_30 ?_
                refine z_iconst (z := 4) C dX10_unlike_33 rfl ?_
                refine z_iload C 6 dX10_unlike_34 rfl ?_
                refine z_imul C dX10_unlike_36 ?_
                refine z_iload_n C 1 dX10_unlike_37 rfl ?_
                refine z_iadd C dX10_unlike_38 ?_
                refine z_iald C (lt_A (c := 29) hN rfl) hay2 ha29 (((4 * bb) + z).toNat) (by omega) (by omega) (by decide) dX10_unlike_39 ?_
                refine z_aload_n C 0 dX10_unlike_40 rfl ?_
                refine z_get (v := .ref (ad (i + 29))) C (lt_A0 hN rfl) hay1 hg rfl inA_X10 58 (by decide) q_1517 rfl rfl dX10_unlike_41 ?_
                refine z_iconst (z := 4) C dX10_unlike_44 rfl ?_
                refine z_iload C 4 dX10_unlike_45 rfl ?_
                refine z_imul C dX10_unlike_47 ?_
                refine z_iload_n C 1 dX10_unlike_48 rfl ?_
                refine z_iadd C dX10_unlike_49 ?_
                refine z_iald C (lt_A (c := 29) hN rfl) hay2 ha29 (((4 * aa) + z).toNat) (by omega) (by omega) (by decide) dX10_unlike_50 ?_
                obtain ⟨xy14, exy15, hxy16⟩ := zI_of (zI (dps (((4 * aa) + z).toNat)))
                rw [exy15]
                obtain ⟨xy17, exy18, hxy19⟩ := zI_of (zI (dps (((4 * bb) + z).toNat)))
                rw [exy18]
                refine z_icmp_eq (tgt := 58) C dX10_unlike_51 (by decide) (by omega) (by omega) (fun hby20 => ?_) (fun hby20 => ?_)
                · refine z_iconst (z := 0) C dX10_unlike_58 rfl ?_
                  refine z_istore (lv' := [(5, .int (zI (0))), (0, .ref (ad i)), (1, .int (zI (z))), (2, .int (zI (z1))), (3, .int (zI (mn))), (4, .int (zI (aa))), (6, .int (zI (bb)))]) C dX10_unlike_59 (by decide) rfl ?_
                  refine z_iinc (z := bb + 1) (lv' := [(6, .int (zI (bb + 1))), (5, .int (zI (0))), (0, .ref (ad i)), (1, .int (zI (z))), (2, .int (zI (z1))), (3, .int (zI (mn))), (4, .int (zI (aa)))]) (j := 6) C dX10_unlike_61 rfl rfl (by decide) rfl ?_
                  refine z_goto (tgt := 17) C dX10_unlike_64 (by decide) ?_
                  refine z_lv (lv' := [(0, .ref (ad i)), (1, .int (zI (z))), (2, .int (zI (z1))), (3, .int (zI (mn))), (4, .int (zI (aa))), (5, .int (zI (0))), (6, .int (zI (bb + 1)))]) [2, 3, 4, 5, 6, 1, 0] rfl ?_
                  exact ih_lpi _ (by omega) (0) (bb + 1) _ rfl rfl (by omega) (by omega)
                · refine z_iconst (z := 1) C dX10_unlike_54 rfl ?_
                  refine z_goto (tgt := 59) C dX10_unlike_55 (by decide) ?_
                  refine z_istore (lv' := [(5, .int (zI (1))), (0, .ref (ad i)), (1, .int (zI (z))), (2, .int (zI (z1))), (3, .int (zI (mn))), (4, .int (zI (aa))), (6, .int (zI (bb)))]) C dX10_unlike_59 (by decide) rfl ?_
                  refine z_iinc (z := bb + 1) (lv' := [(6, .int (zI (bb + 1))), (5, .int (zI (1))), (0, .ref (ad i)), (1, .int (zI (z))), (2, .int (zI (z1))), (3, .int (zI (mn))), (4, .int (zI (aa)))]) (j := 6) C dX10_unlike_61 rfl rfl (by decide) rfl ?_
                  refine z_goto (tgt := 17) C dX10_unlike_64 (by decide) ?_
                  refine z_lv (lv' := [(0, .ref (ad i)), (1, .int (zI (z))), (2, .int (zI (z1))), (3, .int (zI (mn))), (4, .int (zI (aa))), (5, .int (zI (1))), (6, .int (zI (bb + 1)))]) [2, 3, 4, 5, 6, 1, 0] rfl ?_
                  exact ih_lpi _ (by omega) (1) (bb + 1) _ rfl rfl (by omega) (by omega)
        refine z_lv (lv' := [(0, .ref (ad i)), (1, .int (zI (z))), (2, .int (zI (z1))), (3, .int (zI (mn))), (4, .int (zI (aa))), (5, .int (zI (1))), (6, .int (zI (0)))]) [2, 3, 4, 5, 6, 1, 0] rfl ?_
        exact lpi _ (1) (0) _ rfl rfl (by omega) (by omega)
  refine z_iconst (z := 0) C dX10_unlike_0 rfl ?_
  refine z_istore_n (lv' := [(3, .int (zI (0))), (0, .ref (ad i)), (1, .int (zI (z))), (2, .int (zI (z1)))]) C dX10_unlike_1 rfl (by decide) rfl ?_
  refine z_iconst (z := 0) C dX10_unlike_2 rfl ?_
  refine z_istore (lv' := [(4, .int (zI (0))), (3, .int (zI (0))), (0, .ref (ad i)), (1, .int (zI (z))), (2, .int (zI (z1)))]) C dX10_unlike_3 (by decide) rfl ?_
  refine z_lv (lv' := [(0, .ref (ad i)), (1, .int (zI (z))), (2, .int (zI (z1))), (3, .int (zI (0))), (4, .int (zI (0)))]) [2, 3, 4, 1, 0] rfl ?_
  exact lpo _ (0) (0) _ rfl rfl (by omega) (by omega)

set_option maxRecDepth 100000 in
set_option maxHeartbeats 4000000 in
theorem c_X10_look (l : Launch) (D : va_G) (A : Nat → Prop) (cs : Nat → ClassId) (tt : Nat) (N : Nat) (ad : Nat → Nat) (g : Nat → va_E) (i : Nat) (hN : i + 30 ≤ N) (x : Int) (hx : 0 ≤ x ∧ x ≤ 512) (F r : Nat → Int) {st op ai fa mu tb tp : Nat → Int} (hM : okMr cs ad g i x F r st op ai fa mu tb tp) (hPl : F 25 = 0 ∧ F 26 = -1 ∧ F 27 = -1 ∧ F 29 = 0) (z : Int) (hz : -2147483648 ≤ z ∧ z ≤ 2147483647) : zM l yX10_look cX10_look 7 (some .int) ({ frames := 12, cells := 0, slots := 0, locals := 720 } : Room) D A cs tt N ad g [.ref (ad i), .int (zI (z))] (rI0 N ad fun q g' => (-2147483648 ≤ q ∧ q ≤ 2147483647) ∧ (∃ F' r' : Nat → Int, okMr cs ad g' i (x + 1) F' r' st op ai fa mu tb tp ∧ (F' 13 = F 13 ∧ F' 14 = F 14 ∧ F' 15 = F 15 ∧ F' 16 = F 16 ∧ F' 17 = F 17 ∧ F' 18 = F 18 ∧ F' 19 = F 19 ∧ F' 20 = F 20 ∧ F' 21 = F 21 ∧ F' 23 = F 23 ∧ F' 24 = F 24) ∧ (F' 25 = 0 ∧ F' 26 = -1 ∧ F' 27 = -1 ∧ F' 29 = 0) ∧ (∀ j, j < 350 ∨ 700 ≤ j → r' j = r j)) ∧ ∀ j, j < i ∨ i + 30 ≤ j ∨ (i + 8 ≤ j ∧ j ≤ i + 12) → g' j = g j) := by
  obtain ⟨hg, ⟨⟨e13, e14, e25, e27, e29⟩, k15, k16, k17, k18, k19, k20, k23, k21⟩, hRD, hTx, hA, ns, nh, nd, rf, pi, te, ki, li, ok1, ok2, fo, dd, dps, ⟨ha1, ha2, ha3, ha4, ha5, ha6, ha7, ha8, ha9, ha10, ha11, ha12, ha13, ha14, ha15, ha24, ha25, ha26, ha27, ha28, ha29⟩, hEv, hPt, hns, htp⟩ := id hM
  obtain ⟨-, hop, hai, hfa, hT, hT1⟩ := id hEv
  have hay1 : zAt ad (i) (ad i) := rfl
  have hay2 : zAt ad (i + 1) (ad (i + 1)) := rfl
  have hay3 : zAt ad (i + 2) (ad (i + 2)) := rfl
  have hay4 : zAt ad (i + 3) (ad (i + 3)) := rfl
  have hay5 : zAt ad (i + 4) (ad (i + 4)) := rfl
  have hay6 : zAt ad (i + 5) (ad (i + 5)) := rfl
  have hay7 : zAt ad (i + 6) (ad (i + 6)) := rfl
  have hay8 : zAt ad (i + 7) (ad (i + 7)) := rfl
  have hay9 : zAt ad (i + 8) (ad (i + 8)) := rfl
  have hay10 : zAt ad (i + 9) (ad (i + 9)) := rfl
  have hay11 : zAt ad (i + 10) (ad (i + 10)) := rfl
  have hay12 : zAt ad (i + 11) (ad (i + 11)) := rfl
  have hay13 : zAt ad (i + 12) (ad (i + 12)) := rfl
  have hay14 : zAt ad (i + 13) (ad (i + 13)) := rfl
  have hay15 : zAt ad (i + 14) (ad (i + 14)) := rfl
  have hay16 : zAt ad (i + 15) (ad (i + 15)) := rfl
  have hay17 : zAt ad (i + 24) (ad (i + 24)) := rfl
  have hay18 : zAt ad (i + 25) (ad (i + 25)) := rfl
  have hay19 : zAt ad (i + 26) (ad (i + 26)) := rfl
  have hay20 : zAt ad (i + 27) (ad (i + 27)) := rfl
  have hay21 : zAt ad (i + 28) (ad (i + 28)) := rfl
  have hay22 : zAt ad (i + 29) (ad (i + 29)) := rfl
  obtain ⟨⟨hsyy23, htyy23, hnyy23, hpyy23⟩, hlyy23⟩ := okA.at0 hA
  simp only [Nat.zero_add] at hsyy23 hnyy23 hpyy23
  have hmn : ∀ s, s < 4 → 0 ≤ r (6 + 86 * s) ∧ r (6 + 86 * s) ≤ 12 := fun s hs => (hsyy23 s hs).1
  have h5 : 0 ≤ r 5 ∧ r 5 ≤ 6 := hpyy23
  obtain ⟨hp25, hp26, hp27, hp29⟩ := id hPl
  refine z_of (by decide) (Nat.le_of_ble_eq_true rfl) ?_
  intro pZ eZ sZ mZ below meth cZ C hr hlk hnm
  refine z_lv (lv' := [(0, .ref (ad i)), (1, .int (zI (z)))]) [0, 1] rfl ?_
  refine z_aload_n C 0 dX10_look_0 rfl ?_
  refine z_iconst (z := 0) C dX10_look_1 rfl ?_
  refine z_put (fs' := mF ad (i) (uZ F 12 (0))) C (lt_A0 hN rfl) hay1 hg tyX10 tyX10_ok nmX10 rfl inA_X10 12 (by decide) q_1471 rfl rfl rfl rfl (Nat.le_of_ble_eq_true rfl) rfl dX10_look_2 (fun gy24 egy25 => ?_)
  have hgy26 := up_s egy25
  refine z_aload_n C 0 dX10_look_5 rfl ?_
  refine z_iload_n C 1 dX10_look_6 rfl ?_
  refine z_iconst (z := 0) C dX10_look_7 rfl ?_
  refine z_iconst (z := 1) C dX10_look_8 rfl ?_
  refine z_cS (As := [.int (zI (z)), .int (zI (0)), .int (zI (1))]) (rest := [.ref (ad i)]) C (c_X10_within l D A cs tt N ad _ (z) (by omega) (0) (by omega) (1) (by omega)) ms_yX10_within q_1686 hd_yX10_within (by decide) (Nat.le_of_ble_eq_true rfl) (by decide) dX10_look_9 rfl (kI0 fun vy27 gvy27 hvy27 => ?_)
  obtain ⟨hvy27, rfl⟩ := hvy27
  rcases hvy27 with ⟨rfl, hxvy27⟩ | ⟨rfl, hxvy27⟩
  · refine z_iconst (z := 1) C dX10_look_12 rfl ?_
    have hey29 : (uZ F 12 (0)) 12 = 0 := (uZ_s _ _ _)
    refine z_cV (As := [.int (zI (1)), .int (zI (1))]) (rest := []) (ci := 12) C (c_X10_right l D A cs tt N ad _ i hN _ hgy26 (by omega) (1) (by omega) (1) (by omega)) (lt_A0 hN rfl) hay1 hgy26 rfl rfl mv_yX10_right q_1648 hd_yX10_right (by decide) (Nat.le_of_ble_eq_true rfl) (by decide) dX10_look_13 rfl (kI0 fun vy28 gvy28 hvy28 => ?_)
    obtain ⟨hrvy28, ⟨Fvy28, hcvy28, htvy28, hFvy28⟩, hfvy28⟩ := hvy28
    rcases (show vy28 = 1 ∨ vy28 = 0 by omega) with rfl | rfl
    · refine z_if_ne (tgt := 21) C dX10_look_16 (by decide) (by omega) (fun _ => ?_) (fun h => absurd h (by omega))
      refine z_iconst (z := 0) C dX10_look_21 rfl ?_
      refine z_istore_n (lv' := [(2, .int (zI (0))), (0, .ref (ad i)), (1, .int (zI (z)))]) C dX10_look_22 rfl (by decide) rfl ?_
      refine z_iconst (z := 0) C dX10_look_23 rfl ?_
      refine z_istore_n (lv' := [(3, .int (zI (0))), (2, .int (zI (0))), (0, .ref (ad i)), (1, .int (zI (z)))]) C dX10_look_24 rfl (by decide) rfl ?_
      have lp1 : ∀ (n9 : Nat) (cn : Int) (hh : Int) (F9 : Nat → Int) (r9 : Nat → Int) (g1 : Nat → va_E), (25 - hh).toNat = n9 → (okMr cs ad g1 i x F9 r9 st op ai fa mu tb tp) → ((∀ f, f ≠ 12 → f ≠ 27 → f ≠ 28 → F9 f = F f)) → ((∀ j, j < 350 ∨ 700 ≤ j → r9 j = r j)) → (∀ j, j < i ∨ i + 30 ≤ j ∨ (i + 8 ≤ j ∧ j ≤ i + 12) → g1 j = g j) → (0 ≤ cn ∧ cn ≤ 50 * hh) → (0 ≤ hh ∧ hh ≤ F 14) → (F9 27 = -1) → zV pZ l eZ ({ frames := 12, cells := 0, slots := 0, locals := 720 } : Room) sZ mZ ([.ref (ad i), .int (zI (z))] : List Value).toArray below meth cZ (MQ below (zPost D A (rI0 N ad fun q g' => (-2147483648 ≤ q ∧ q ≤ 2147483647) ∧ (∃ F' r' : Nat → Int, okMr cs ad g' i (x + 1) F' r' st op ai fa mu tb tp ∧ (F' 13 = F 13 ∧ F' 14 = F 14 ∧ F' 15 = F 15 ∧ F' 16 = F 16 ∧ F' 17 = F 17 ∧ F' 18 = F 18 ∧ F' 19 = F 19 ∧ F' 20 = F 20 ∧ F' 21 = F 21 ∧ F' 23 = F 23 ∧ F' 24 = F 24) ∧ (F' 25 = 0 ∧ F' 26 = -1 ∧ F' 27 = -1 ∧ F' 29 = 0) ∧ (∀ j, j < 350 ∨ 700 ≤ j → r' j = r j)) ∧ ∀ j, j < i ∨ i + 30 ≤ j ∨ (i + 8 ≤ j ∧ j ≤ i + 12) → g' j = g j)) ([.ref (ad i), .int (zI (z))] : List Value).toArray sZ ({ frames := 12, cells := 0, slots := 0, locals := 720 } : Room).cells ({ frames := 12, cells := 0, slots := 0, locals := 720 } : Room).slots A) D A 7 (N) ad g1 (0) (0) 25 [(0, .ref (ad i)), (1, .int (zI (z))), (2, .int (zI (cn))), (3, .int (zI (hh)))] [] := by
        intro n9
        induction n9 using Nat.strongRecOn with
        | ind n9 ih_lp1 =>
          intro cn hh F9 r9 g1 hm9 fM fF fR f3 hvlp10 hvlp11 hvlp12
          obtain ⟨hg_y30, ⟨⟨e13_y30, e14_y30, e25_y30, e27_y30, e29_y30⟩, k15_y30, k16_y30, k17_y30, k18_y30, k19_y30, k20_y30, k23_y30, k21_y30⟩, hRD_y30, hTx_y30, hA_y30, ns_y30, nh_y30, nd_y30, rf_y30, pi_y30, te_y30, ki_y30, li_y30, ok1_y30, ok2_y30, fo_y30, dd_y30, dps_y30, ⟨ha1_y30, ha2_y30, ha3_y30, ha4_y30, ha5_y30, ha6_y30, ha7_y30, ha8_y30, ha9_y30, ha10_y30, ha11_y30, ha12_y30, ha13_y30, ha14_y30, ha15_y30, ha24_y30, ha25_y30, ha26_y30, ha27_y30, ha28_y30, ha29_y30⟩, hEv_y30, hPt_y30, hns_y30, htp_y30⟩ := id fM
          obtain ⟨-, hop_y30, hai_y30, hfa_y30, hT_y30, hT1_y30⟩ := id hEv_y30
          have e14 := e14_y30
          have e25 := e25_y30
          have e27 := e27_y30
          have e29 := e29_y30
          have hop := hop_y30
          have hai := hai_y30
          have hfa := hfa_y30
          have hT := hT_y30
          have hT1 := hT1_y30
          have hEv := hEv_y30
          have htp := htp_y30
          have hns := hns_y30
          have hPt := hPt_y30
          have hay31 : zAt ad (i) (ad i) := rfl
          have hay32 : zAt ad (i + 1) (ad (i + 1)) := rfl
          have hay33 : zAt ad (i + 2) (ad (i + 2)) := rfl
          have hay34 : zAt ad (i + 3) (ad (i + 3)) := rfl
          have hay35 : zAt ad (i + 4) (ad (i + 4)) := rfl
          have hay36 : zAt ad (i + 5) (ad (i + 5)) := rfl
          have hay37 : zAt ad (i + 6) (ad (i + 6)) := rfl
          have hay38 : zAt ad (i + 7) (ad (i + 7)) := rfl
          have hay39 : zAt ad (i + 8) (ad (i + 8)) := rfl
          have hay40 : zAt ad (i + 9) (ad (i + 9)) := rfl
          have hay41 : zAt ad (i + 10) (ad (i + 10)) := rfl
          have hay42 : zAt ad (i + 11) (ad (i + 11)) := rfl
          have hay43 : zAt ad (i + 12) (ad (i + 12)) := rfl
          have hay44 : zAt ad (i + 13) (ad (i + 13)) := rfl
          have hay45 : zAt ad (i + 14) (ad (i + 14)) := rfl
          have hay46 : zAt ad (i + 15) (ad (i + 15)) := rfl
          have hay47 : zAt ad (i + 24) (ad (i + 24)) := rfl
          have hay48 : zAt ad (i + 25) (ad (i + 25)) := rfl
          have hay49 : zAt ad (i + 26) (ad (i + 26)) := rfl
          have hay50 : zAt ad (i + 27) (ad (i + 27)) := rfl
          have hay51 : zAt ad (i + 28) (ad (i + 28)) := rfl
          have hay52 : zAt ad (i + 29) (ad (i + 29)) := rfl
          obtain ⟨⟨hsyy53, htyy53, hnyy53, hpyy53⟩, hlyy53⟩ := okA.at0 hA_y30
          simp only [Nat.zero_add] at hsyy53 hnyy53 hpyy53
          have hmn : ∀ s, s < 4 → 0 ≤ r9 (6 + 86 * s) ∧ r9 (6 + 86 * s) ≤ 12 := fun s hs => (hsyy53 s hs).1
          have h5 : 0 ≤ r9 5 ∧ r9 5 ≤ 6 := hpyy53
          have h13e : F9 13 = F 13 := fF 13 (by decide) (by decide) (by decide)
          have h14e : F9 14 = F 14 := fF 14 (by decide) (by decide) (by decide)
          have h17e : F9 17 = F 17 := fF 17 (by decide) (by decide) (by decide)
          have h20e : F9 20 = F 20 := fF 20 (by decide) (by decide) (by decide)
          have h21e : F9 21 = F 21 := fF 21 (by decide) (by decide) (by decide)
          have h23e : F9 23 = F 23 := fF 23 (by decide) (by decide) (by decide)
          have h24e : F9 24 = F 24 := fF 24 (by decide) (by decide) (by decide)
          have h15e : F9 15 = F 15 := fF 15 (by decide) (by decide) (by decide)
          have h16e : F9 16 = F 16 := fF 16 (by decide) (by decide) (by decide)
          have h18e : F9 18 = F 18 := fF 18 (by decide) (by decide) (by decide)
          have h19e : F9 19 = F 19 := fF 19 (by decide) (by decide) (by decide)
          have h25e : F9 25 = F 25 := fF 25 (by decide) (by decide) (by decide)
          have h26e : F9 26 = F 26 := fF 26 (by decide) (by decide) (by decide)
          have h29e : F9 29 = F 29 := fF 29 (by decide) (by decide) (by decide)
          refine z_iload_n C 3 dX10_look_25 rfl ?_
          refine z_aload_n C 0 dX10_look_26 rfl ?_
          refine z_get (v := .int (zI (F9 14))) C (lt_A0 hN rfl) hay31 hg_y30 rfl inA_X10 14 (by decide) q_1473 rfl (fv (F := F9) (f := 14) rfl) dX10_look_27 ?_
          refine z_icmp_ge (tgt := 107) C dX10_look_30 (by decide) (by omega) (by omega) (fun hby54 => ?_) (fun hby54 => ?_)
          · refine z_iconst (z := -1) C dX10_look_107 rfl ?_
            refine z_istore_n (lv' := [(3, .int (zI (-1))), (0, .ref (ad i)), (1, .int (zI (z))), (2, .int (zI (cn)))]) C dX10_look_108 rfl (by decide) rfl ?_
            refine z_iconst (z := 0) C dX10_look_109 rfl ?_
            refine z_istore (lv' := [(4, .int (zI (0))), (3, .int (zI (-1))), (0, .ref (ad i)), (1, .int (zI (z))), (2, .int (zI (cn)))]) C dX10_look_110 (by decide) rfl ?_
            refine z_iconst (z := 0) C dX10_look_112 rfl ?_
            refine z_istore (lv' := [(5, .int (zI (0))), (4, .int (zI (0))), (3, .int (zI (-1))), (0, .ref (ad i)), (1, .int (zI (z))), (2, .int (zI (cn)))]) C dX10_look_113 (by decide) rfl ?_
            have lp4 : ∀ (n9 : Nat) (it : Int) (tp9 : Int) (ss : Int) (F9d : Nat → Int) (r9d : Nat → Int) (g1 : Nat → va_E), (5 - ss).toNat = n9 → (okMr cs ad g1 i x F9d r9d st op ai fa mu tb tp) → ((∀ f, f ≠ 12 → f ≠ 27 → f ≠ 28 → F9d f = F f)) → ((∀ j, j < 350 ∨ 700 ≤ j → r9d j = r j)) → (∀ j, j < i ∨ i + 30 ≤ j ∨ (i + 8 ≤ j ∧ j ≤ i + 12) → g1 j = g j) → (-2147483648 ≤ it ∧ it ≤ 2147483647) → (-2147483648 ≤ tp9 ∧ tp9 ≤ 2147483647) → (0 ≤ ss ∧ ss ≤ F 13) → (F9d 27 = -1) → zV pZ l eZ ({ frames := 12, cells := 0, slots := 0, locals := 720 } : Room) sZ mZ ([.ref (ad i), .int (zI (z))] : List Value).toArray below meth cZ (MQ below (zPost D A (rI0 N ad fun q g' => (-2147483648 ≤ q ∧ q ≤ 2147483647) ∧ (∃ F' r' : Nat → Int, okMr cs ad g' i (x + 1) F' r' st op ai fa mu tb tp ∧ (F' 13 = F 13 ∧ F' 14 = F 14 ∧ F' 15 = F 15 ∧ F' 16 = F 16 ∧ F' 17 = F 17 ∧ F' 18 = F 18 ∧ F' 19 = F 19 ∧ F' 20 = F 20 ∧ F' 21 = F 21 ∧ F' 23 = F 23 ∧ F' 24 = F 24) ∧ (F' 25 = 0 ∧ F' 26 = -1 ∧ F' 27 = -1 ∧ F' 29 = 0) ∧ (∀ j, j < 350 ∨ 700 ≤ j → r' j = r j)) ∧ ∀ j, j < i ∨ i + 30 ≤ j ∨ (i + 8 ≤ j ∧ j ≤ i + 12) → g' j = g j)) ([.ref (ad i), .int (zI (z))] : List Value).toArray sZ ({ frames := 12, cells := 0, slots := 0, locals := 720 } : Room).cells ({ frames := 12, cells := 0, slots := 0, locals := 720 } : Room).slots A) D A 7 (N) ad g1 (0) (0) 115 [(0, .ref (ad i)), (1, .int (zI (z))), (2, .int (zI (cn))), (3, .int (zI (it))), (4, .int (zI (tp9))), (5, .int (zI (ss)))] [] := by
              intro n9
              induction n9 using Nat.strongRecOn with
              | ind n9 ih_lp4 =>
                intro it tp9 ss F9d r9d g1 hm9 fMd fFd fRd f3 hvlp40 hvlp41 hvlp42 hvlp43
                obtain ⟨hg_y55, ⟨⟨e13_y55, e14_y55, e25_y55, e27_y55, e29_y55⟩, k15_y55, k16_y55, k17_y55, k18_y55, k19_y55, k20_y55, k23_y55, k21_y55⟩, hRD_y55, hTx_y55, hA_y55, ns_y55, nh_y55, nd_y55, rf_y55, pi_y55, te_y55, ki_y55, li_y55, ok1_y55, ok2_y55, fo_y55, dd_y55, dps_y55, ⟨ha1_y55, ha2_y55, ha3_y55, ha4_y55, ha5_y55, ha6_y55, ha7_y55, ha8_y55, ha9_y55, ha10_y55, ha11_y55, ha12_y55, ha13_y55, ha14_y55, ha15_y55, ha24_y55, ha25_y55, ha26_y55, ha27_y55, ha28_y55, ha29_y55⟩, hEv_y55, hPt_y55, hns_y55, htp_y55⟩ := id fMd
                obtain ⟨-, hop_y55, hai_y55, hfa_y55, hT_y55, hT1_y55⟩ := id hEv_y55
                have e14 := e14_y55
                have e25 := e25_y55
                have e27 := e27_y55
                have e29 := e29_y55
                have hop := hop_y55
                have hai := hai_y55
                have hfa := hfa_y55
                have hT := hT_y55
                have hT1 := hT1_y55
                have hEv := hEv_y55
                have htp := htp_y55
                have hns := hns_y55
                have hPt := hPt_y55
                have hay56 : zAt ad (i) (ad i) := rfl
                have hay57 : zAt ad (i + 1) (ad (i + 1)) := rfl
                have hay58 : zAt ad (i + 2) (ad (i + 2)) := rfl
                have hay59 : zAt ad (i + 3) (ad (i + 3)) := rfl
                have hay60 : zAt ad (i + 4) (ad (i + 4)) := rfl
                have hay61 : zAt ad (i + 5) (ad (i + 5)) := rfl
                have hay62 : zAt ad (i + 6) (ad (i + 6)) := rfl
                have hay63 : zAt ad (i + 7) (ad (i + 7)) := rfl
                have hay64 : zAt ad (i + 8) (ad (i + 8)) := rfl
                have hay65 : zAt ad (i + 9) (ad (i + 9)) := rfl
                have hay66 : zAt ad (i + 10) (ad (i + 10)) := rfl
                have hay67 : zAt ad (i + 11) (ad (i + 11)) := rfl
                have hay68 : zAt ad (i + 12) (ad (i + 12)) := rfl
                have hay69 : zAt ad (i + 13) (ad (i + 13)) := rfl
                have hay70 : zAt ad (i + 14) (ad (i + 14)) := rfl
                have hay71 : zAt ad (i + 15) (ad (i + 15)) := rfl
                have hay72 : zAt ad (i + 24) (ad (i + 24)) := rfl
                have hay73 : zAt ad (i + 25) (ad (i + 25)) := rfl
                have hay74 : zAt ad (i + 26) (ad (i + 26)) := rfl
                have hay75 : zAt ad (i + 27) (ad (i + 27)) := rfl
                have hay76 : zAt ad (i + 28) (ad (i + 28)) := rfl
                have hay77 : zAt ad (i + 29) (ad (i + 29)) := rfl
                obtain ⟨⟨hsyy78, htyy78, hnyy78, hpyy78⟩, hlyy78⟩ := okA.at0 hA_y55
                simp only [Nat.zero_add] at hsyy78 hnyy78 hpyy78
                have hmn : ∀ s, s < 4 → 0 ≤ r9d (6 + 86 * s) ∧ r9d (6 + 86 * s) ≤ 12 := fun s hs => (hsyy78 s hs).1
                have h5 : 0 ≤ r9d 5 ∧ r9d 5 ≤ 6 := hpyy78
                have h13de : F9d 13 = F 13 := fFd 13 (by decide) (by decide) (by decide)
                have h14de : F9d 14 = F 14 := fFd 14 (by decide) (by decide) (by decide)
                have h17de : F9d 17 = F 17 := fFd 17 (by decide) (by decide) (by decide)
                have h20de : F9d 20 = F 20 := fFd 20 (by decide) (by decide) (by decide)
                have h21de : F9d 21 = F 21 := fFd 21 (by decide) (by decide) (by decide)
                have h23de : F9d 23 = F 23 := fFd 23 (by decide) (by decide) (by decide)
                have h24de : F9d 24 = F 24 := fFd 24 (by decide) (by decide) (by decide)
                have h15de : F9d 15 = F 15 := fFd 15 (by decide) (by decide) (by decide)
                have h16de : F9d 16 = F 16 := fFd 16 (by decide) (by decide) (by decide)
                have h18de : F9d 18 = F 18 := fFd 18 (by decide) (by decide) (by decide)
                have h19de : F9d 19 = F 19 := fFd 19 (by decide) (by decide) (by decide)
                have h25de : F9d 25 = F 25 := fFd 25 (by decide) (by decide) (by decide)
                have h26de : F9d 26 = F 26 := fFd 26 (by decide) (by decide) (by decide)
                have h29de : F9d 29 = F 29 := fFd 29 (by decide) (by decide) (by decide)
                refine z_iload C 5 dX10_look_115 rfl ?_
                refine z_aload_n C 0 dX10_look_117 rfl ?_
                refine z_get (v := .int (zI (F9d 13))) C (lt_A0 hN rfl) hay56 hg_y55 rfl inA_X10 13 (by decide) q_1472 rfl (fv (F := F9d) (f := 13) rfl) dX10_look_118 ?_
                refine z_icmp_ge (tgt := 156) C dX10_look_121 (by decide) (by omega) (by omega) (fun hby79 => ?_) (fun hby79 => ?_)
                · refine z_iload_n C 1 dX10_look_156 rfl ?_
                  refine z_if_ne (tgt := 164) C dX10_look_157 (by decide) (by omega) (fun hby80 => ?_) (fun hby80 => ?_)
                  · refine z_iload C 4 dX10_look_164 rfl ?_
                    have hMy81 : okMr cs ad g1 i (x + 1) F9d r9d st op ai fa mu tb tp := okMr.upd fMd hg_y55 fMd.2.1 (fun f _ => rfl) ha1_y55 (hA_y55.mono (by omega)) (fun j a b => by
                        exact Or.inl (by rfl))
                    have hkpy82 : F9d 13 = F9d 13 := rfl
                    have hkpy83 : F9d 14 = F9d 14 := rfl
                    have hkpy84 : F9d 15 = F9d 15 := rfl
                    have hkpy85 : F9d 16 = F9d 16 := rfl
                    have hkpy86 : F9d 17 = F9d 17 := rfl
                    have hkpy87 : F9d 18 = F9d 18 := rfl
                    have hkpy88 : F9d 19 = F9d 19 := rfl
                    have hkpy89 : F9d 20 = F9d 20 := rfl
                    have hkpy90 : F9d 21 = F9d 21 := rfl
                    have hkpy91 : F9d 23 = F9d 23 := rfl
                    have hkpy92 : F9d 24 = F9d 24 := rfl
                    have hkpy93 : F9d 25 = F9d 25 := rfl
                    have hkpy94 : F9d 26 = F9d 26 := rfl
                    have hkpy95 : F9d 27 = F9d 27 := rfl
                    have hkpy96 : F9d 29 = F9d 29 := rfl
                    exact z_iret C hr hlk dX10_look_166 (by decide) (by decide) ⟨tp9, rfl, rfl, rfl, by omega, ⟨_, _, hMy81, ⟨(by omega), (by omega), (by omega), (by omega), (by omega), (by omega), (by omega), (by omega), (by omega), (by omega), (by omega)⟩, ⟨(by omega), (by omega), (by omega), (by omega)⟩, fRd⟩, fun j j1 => by exact f3 j j1⟩
                  · refine z_iload_n C 3 dX10_look_160 rfl ?_
                    refine z_goto (tgt := 166) C dX10_look_161 (by decide) ?_
                    have hMy97 : okMr cs ad g1 i (x + 1) F9d r9d st op ai fa mu tb tp := okMr.upd fMd hg_y55 fMd.2.1 (fun f _ => rfl) ha1_y55 (hA_y55.mono (by omega)) (fun j a b => by
                        exact Or.inl (by rfl))
                    have hkpy98 : F9d 13 = F9d 13 := rfl
                    have hkpy99 : F9d 14 = F9d 14 := rfl
                    have hkpy100 : F9d 15 = F9d 15 := rfl
                    have hkpy101 : F9d 16 = F9d 16 := rfl
                    have hkpy102 : F9d 17 = F9d 17 := rfl
                    have hkpy103 : F9d 18 = F9d 18 := rfl
                    have hkpy104 : F9d 19 = F9d 19 := rfl
                    have hkpy105 : F9d 20 = F9d 20 := rfl
                    have hkpy106 : F9d 21 = F9d 21 := rfl
                    have hkpy107 : F9d 23 = F9d 23 := rfl
                    have hkpy108 : F9d 24 = F9d 24 := rfl
                    have hkpy109 : F9d 25 = F9d 25 := rfl
                    have hkpy110 : F9d 26 = F9d 26 := rfl
                    have hkpy111 : F9d 27 = F9d 27 := rfl
                    have hkpy112 : F9d 29 = F9d 29 := rfl
                    exact z_iret C hr hlk dX10_look_166 (by decide) (by decide) ⟨it, rfl, rfl, rfl, by omega, ⟨_, _, hMy97, ⟨(by omega), (by omega), (by omega), (by omega), (by omega), (by omega), (by omega), (by omega), (by omega), (by omega), (by omega)⟩, ⟨(by omega), (by omega), (by omega), (by omega)⟩, fRd⟩, fun j j1 => by exact f3 j j1⟩
                · refine z_aload_n C 0 dX10_look_124 rfl ?_
                  refine z_iload C 5 dX10_look_125 rfl ?_
                  refine z_iload_n C 2 dX10_look_127 rfl ?_
                  refine z_cV (As := [.int (zI (ss)), .int (zI (cn))]) (rest := []) (ci := 12) C (c_X10_unlike l D A cs tt N ad _ i hN _ hg_y55 _ ha29_y55 (ss) (by omega) (cn) (by omega)) (lt_A0 hN rfl) hay56 hg_y55 rfl rfl mv_yX10_unlike q_2083 hd_yX10_unlike (by decide) (Nat.le_of_ble_eq_true rfl) (by decide) dX10_look_128 rfl (kI0 fun vy113 gvy113 hvy113 => ?_)
                  obtain ⟨hvy113, rfl⟩ := hvy113
                  refine z_istore (lv' := [(6, .int (zI (vy113))), (0, .ref (ad i)), (1, .int (zI (z))), (2, .int (zI (cn))), (3, .int (zI (it))), (4, .int (zI (tp9))), (5, .int (zI (ss)))]) C dX10_look_131 (by decide) rfl ?_
                  refine z_iload C 0 dX10_look_133 rfl ?_
                  refine z_iload C 5 dX10_look_135 rfl ?_
                  refine z_icmp_gt (tgt := 143) C dX10_look_137 (by decide) (by omega) (by omega) (fun hby114 => ?_) (fun hby114 => ?_)
                  · refine z_iload C 6 dX10_look_143 rfl ?_
                    refine z_istore_n (lv' := [(3, .int (zI (ss))), (6, .int (zI (vy113))), (0, .ref (ad i)), (1, .int (zI (z))), (2, .int (zI (cn))), (4, .int (zI (tp9))), (5, .int (zI (ss)))]) C dX10_look_145 rfl (by decide) rfl ?_
                    refine z_iload C 1 dX10_look_146 rfl ?_
                    refine z_istore (lv' := [(4, .int (zI (vy113))), (3, .int (zI (ss))), (6, .int (zI (vy113))), (0, .ref (ad i)), (1, .int (zI (z))), (2, .int (zI (cn))), (5, .int (zI (ss)))]) C dX10_look_148 (by decide) rfl ?_
                    refine z_iinc (z := ss + 1) (lv' := [(5, .int (zI (ss + 1))), (4, .int (zI (vy113))), (3, .int (zI (ss))), (6, .int (zI (vy113))), (0, .ref (ad i)), (1, .int (zI (z))), (2, .int (zI (cn)))]) (j := 6) C dX10_look_150 rfl rfl (by decide) rfl ?_
                    refine z_goto (tgt := 115) C dX10_look_153 (by decide) ?_
                    have hMy115 : okMr cs ad g1 i (x) F9d r9d st op ai fa mu tb tp := okMr.upd fMd hg_y55 fMd.2.1 (fun f _ => rfl) ha1_y55 (hA_y55.mono (by omega)) (fun j a b => by
                        exact Or.inl (by rfl))
                    have hFFd : (∀ f, f ≠ 12 → f ≠ 27 → f ≠ 28 → F9d f = F f) := fun f n12 n27 n28 => fFd f n12 n27 n28
                    have hey116 : F9d 13 = F9d 13 := rfl
                    have hey117 : F9d 14 = F9d 14 := rfl
                    have hey118 : F9d 27 = F9d 27 := rfl
                    refine z_lv (lv' := [(0, .ref (ad i)), (1, .int (zI (z))), (2, .int (zI (cn))), (3, .int (zI (ss))), (4, .int (zI (vy113))), (5, .int (zI (ss + 1)))]) [4, 5, 6, 2, 1, 0] rfl ?_
                    exact ih_lp4 _ (by omega) (ss) (vy113) (ss + 1) _ _ g1 rfl hMy115 hFFd (fRd) (fun j j1 => by exact f3 j j1) (by omega) (by omega) (by omega) (by omega)
                  · refine z_goto (tgt := 150) C dX10_look_140 (by decide) ?_
                    refine z_iinc (z := ss + 1) (lv' := [(5, .int (zI (ss + 1))), (6, .int (zI (vy113))), (0, .ref (ad i)), (1, .int (zI (z))), (2, .int (zI (cn))), (3, .int (zI (it))), (4, .int (zI (tp9)))]) (j := 6) C dX10_look_150 rfl rfl (by decide) rfl ?_
                    refine z_goto (tgt := 115) C dX10_look_153 (by decide) ?_
                    have hMy119 : okMr cs ad g1 i (x) F9d r9d st op ai fa mu tb tp := okMr.upd fMd hg_y55 fMd.2.1 (fun f _ => rfl) ha1_y55 (hA_y55.mono (by omega)) (fun j a b => by
                        exact Or.inl (by rfl))
                    have hFFd : (∀ f, f ≠ 12 → f ≠ 27 → f ≠ 28 → F9d f = F f) := fun f n12 n27 n28 => fFd f n12 n27 n28
                    have hey120 : F9d 13 = F9d 13 := rfl
                    have hey121 : F9d 14 = F9d 14 := rfl
                    have hey122 : F9d 27 = F9d 27 := rfl
                    refine z_lv (lv' := [(0, .ref (ad i)), (1, .int (zI (z))), (2, .int (zI (cn))), (3, .int (zI (it))), (4, .int (zI (tp9))), (5, .int (zI (ss + 1)))]) [2, 3, 4, 5, 6, 0] rfl ?_
                    exact ih_lp4 _ (by omega) (it) (tp9) (ss + 1) _ _ g1 rfl hMy119 hFFd (fRd) (fun j j1 => by exact f3 j j1) (by omega) (by omega) (by omega) (by omega)
            have hMy123 : okMr cs ad g1 i (x) F9 r9 st op ai fa mu tb tp := okMr.upd fM hg_y30 fM.2.1 (fun f _ => rfl) ha1_y30 (hA_y30.mono (by omega)) (fun j a b => by
                exact Or.inl (by rfl))
            have hFFd : (∀ f, f ≠ 12 → f ≠ 27 → f ≠ 28 → F9 f = F f) := fun f n12 n27 n28 => fF f n12 n27 n28
            have hey124 : F9 13 = F9 13 := rfl
            have hey125 : F9 14 = F9 14 := rfl
            have hey126 : F9 27 = F9 27 := rfl
            refine z_lv (lv' := [(0, .ref (ad i)), (1, .int (zI (z))), (2, .int (zI (cn))), (3, .int (zI (-1))), (4, .int (zI (0))), (5, .int (zI (0)))]) [3, 4, 5, 2, 1, 0] rfl ?_
            exact lp4 _ (-1) (0) (0) _ _ g1 rfl hMy123 hFFd (fR) (fun j j1 => by exact f3 j j1) (by omega) (by omega) (by omega) (by omega)
          · refine z_iconst (z := 1) C dX10_look_33 rfl ?_
            refine z_istore (lv' := [(4, .int (zI (1))), (0, .ref (ad i)), (1, .int (zI (z))), (2, .int (zI (cn))), (3, .int (zI (hh)))]) C dX10_look_34 (by decide) rfl ?_
            have lp2 : ∀ (n9 : Nat) (cn : Int) (mm : Int) (F9b : Nat → Int) (r9b : Nat → Int) (g1 : Nat → va_E), (51 - mm).toNat = n9 → (okMr cs ad g1 i x F9b r9b st op ai fa mu tb tp) → ((∀ f, f ≠ 12 → f ≠ 27 → f ≠ 28 → F9b f = F f)) → ((∀ j, j < 350 ∨ 700 ≤ j → r9b j = r j)) → (∀ j, j < i ∨ i + 30 ≤ j ∨ (i + 8 ≤ j ∧ j ≤ i + 12) → g1 j = g j) → (0 ≤ cn ∧ cn ≤ 50 * hh + mm - 1) → (1 ≤ mm ∧ mm ≤ 51) → (F9b 27 = -1) → zV pZ l eZ ({ frames := 12, cells := 0, slots := 0, locals := 720 } : Room) sZ mZ ([.ref (ad i), .int (zI (z))] : List Value).toArray below meth cZ (MQ below (zPost D A (rI0 N ad fun q g' => (-2147483648 ≤ q ∧ q ≤ 2147483647) ∧ (∃ F' r' : Nat → Int, okMr cs ad g' i (x + 1) F' r' st op ai fa mu tb tp ∧ (F' 13 = F 13 ∧ F' 14 = F 14 ∧ F' 15 = F 15 ∧ F' 16 = F 16 ∧ F' 17 = F 17 ∧ F' 18 = F 18 ∧ F' 19 = F 19 ∧ F' 20 = F 20 ∧ F' 21 = F 21 ∧ F' 23 = F 23 ∧ F' 24 = F 24) ∧ (F' 25 = 0 ∧ F' 26 = -1 ∧ F' 27 = -1 ∧ F' 29 = 0) ∧ (∀ j, j < 350 ∨ 700 ≤ j → r' j = r j)) ∧ ∀ j, j < i ∨ i + 30 ≤ j ∨ (i + 8 ≤ j ∧ j ≤ i + 12) → g' j = g j)) ([.ref (ad i), .int (zI (z))] : List Value).toArray sZ ({ frames := 12, cells := 0, slots := 0, locals := 720 } : Room).cells ({ frames := 12, cells := 0, slots := 0, locals := 720 } : Room).slots A) D A 7 (N) ad g1 (0) (0) 36 [(0, .ref (ad i)), (1, .int (zI (z))), (2, .int (zI (cn))), (3, .int (zI (hh))), (4, .int (zI (mm)))] [] := by
              intro n9
              induction n9 using Nat.strongRecOn with
              | ind n9 ih_lp2 =>
                intro cn mm F9b r9b g1 hm9 fMb fFb fRb f3 hvlp20 hvlp21 hvlp22
                obtain ⟨hg_y127, ⟨⟨e13_y127, e14_y127, e25_y127, e27_y127, e29_y127⟩, k15_y127, k16_y127, k17_y127, k18_y127, k19_y127, k20_y127, k23_y127, k21_y127⟩, hRD_y127, hTx_y127, hA_y127, ns_y127, nh_y127, nd_y127, rf_y127, pi_y127, te_y127, ki_y127, li_y127, ok1_y127, ok2_y127, fo_y127, dd_y127, dps_y127, ⟨ha1_y127, ha2_y127, ha3_y127, ha4_y127, ha5_y127, ha6_y127, ha7_y127, ha8_y127, ha9_y127, ha10_y127, ha11_y127, ha12_y127, ha13_y127, ha14_y127, ha15_y127, ha24_y127, ha25_y127, ha26_y127, ha27_y127, ha28_y127, ha29_y127⟩, hEv_y127, hPt_y127, hns_y127, htp_y127⟩ := id fMb
                obtain ⟨-, hop_y127, hai_y127, hfa_y127, hT_y127, hT1_y127⟩ := id hEv_y127
                have e14 := e14_y127
                have e25 := e25_y127
                have e27 := e27_y127
                have e29 := e29_y127
                have hop := hop_y127
                have hai := hai_y127
                have hfa := hfa_y127
                have hT := hT_y127
                have hT1 := hT1_y127
                have hEv := hEv_y127
                have htp := htp_y127
                have hns := hns_y127
                have hPt := hPt_y127
                have hay128 : zAt ad (i) (ad i) := rfl
                have hay129 : zAt ad (i + 1) (ad (i + 1)) := rfl
                have hay130 : zAt ad (i + 2) (ad (i + 2)) := rfl
                have hay131 : zAt ad (i + 3) (ad (i + 3)) := rfl
                have hay132 : zAt ad (i + 4) (ad (i + 4)) := rfl
                have hay133 : zAt ad (i + 5) (ad (i + 5)) := rfl
                have hay134 : zAt ad (i + 6) (ad (i + 6)) := rfl
                have hay135 : zAt ad (i + 7) (ad (i + 7)) := rfl
                have hay136 : zAt ad (i + 8) (ad (i + 8)) := rfl
                have hay137 : zAt ad (i + 9) (ad (i + 9)) := rfl
                have hay138 : zAt ad (i + 10) (ad (i + 10)) := rfl
                have hay139 : zAt ad (i + 11) (ad (i + 11)) := rfl
                have hay140 : zAt ad (i + 12) (ad (i + 12)) := rfl
                have hay141 : zAt ad (i + 13) (ad (i + 13)) := rfl
                have hay142 : zAt ad (i + 14) (ad (i + 14)) := rfl
                have hay143 : zAt ad (i + 15) (ad (i + 15)) := rfl
                have hay144 : zAt ad (i + 24) (ad (i + 24)) := rfl
                have hay145 : zAt ad (i + 25) (ad (i + 25)) := rfl
                have hay146 : zAt ad (i + 26) (ad (i + 26)) := rfl
                have hay147 : zAt ad (i + 27) (ad (i + 27)) := rfl
                have hay148 : zAt ad (i + 28) (ad (i + 28)) := rfl
                have hay149 : zAt ad (i + 29) (ad (i + 29)) := rfl
                obtain ⟨⟨hsyy150, htyy150, hnyy150, hpyy150⟩, hlyy150⟩ := okA.at0 hA_y127
                simp only [Nat.zero_add] at hsyy150 hnyy150 hpyy150
                have hmn : ∀ s, s < 4 → 0 ≤ r9b (6 + 86 * s) ∧ r9b (6 + 86 * s) ≤ 12 := fun s hs => (hsyy150 s hs).1
                have h5 : 0 ≤ r9b 5 ∧ r9b 5 ≤ 6 := hpyy150
                have h13be : F9b 13 = F 13 := fFb 13 (by decide) (by decide) (by decide)
                have h14be : F9b 14 = F 14 := fFb 14 (by decide) (by decide) (by decide)
                have h17be : F9b 17 = F 17 := fFb 17 (by decide) (by decide) (by decide)
                have h20be : F9b 20 = F 20 := fFb 20 (by decide) (by decide) (by decide)
                have h21be : F9b 21 = F 21 := fFb 21 (by decide) (by decide) (by decide)
                have h23be : F9b 23 = F 23 := fFb 23 (by decide) (by decide) (by decide)
                have h24be : F9b 24 = F 24 := fFb 24 (by decide) (by decide) (by decide)
                have h15be : F9b 15 = F 15 := fFb 15 (by decide) (by decide) (by decide)
                have h16be : F9b 16 = F 16 := fFb 16 (by decide) (by decide) (by decide)
                have h18be : F9b 18 = F 18 := fFb 18 (by decide) (by decide) (by decide)
                have h19be : F9b 19 = F 19 := fFb 19 (by decide) (by decide) (by decide)
                have h25be : F9b 25 = F 25 := fFb 25 (by decide) (by decide) (by decide)
                have h26be : F9b 26 = F 26 := fFb 26 (by decide) (by decide) (by decide)
                have h29be : F9b 29 = F 29 := fFb 29 (by decide) (by decide) (by decide)
                refine z_iload C 4 dX10_look_36 rfl ?_
                refine z_bipush (z := 50) C dX10_look_38 (by decide) ?_
                refine z_icmp_gt (tgt := 101) C dX10_look_40 (by decide) (by omega) (by omega) (fun hby151 => ?_) (fun hby151 => ?_)
                · refine z_iinc (z := hh + 1) (lv' := [(3, .int (zI (hh + 1))), (0, .ref (ad i)), (1, .int (zI (z))), (2, .int (zI (cn))), (4, .int (zI (mm)))]) (j := 3) C dX10_look_101 rfl rfl (by decide) rfl ?_
                  refine z_goto (tgt := 25) C dX10_look_104 (by decide) ?_
                  have hMy152 : okMr cs ad g1 i (x) F9b r9b st op ai fa mu tb tp := okMr.upd fMb hg_y127 fMb.2.1 (fun f _ => rfl) ha1_y127 (hA_y127.mono (by omega)) (fun j a b => by
                      exact Or.inl (by rfl))
                  have hFF : (∀ f, f ≠ 12 → f ≠ 27 → f ≠ 28 → F9b f = F f) := fun f n12 n27 n28 => fFb f n12 n27 n28
                  have hey153 : F9b 13 = F9b 13 := rfl
                  have hey154 : F9b 14 = F9b 14 := rfl
                  have hey155 : F9b 27 = F9b 27 := rfl
                  refine z_lv (lv' := [(0, .ref (ad i)), (1, .int (zI (z))), (2, .int (zI (cn))), (3, .int (zI (hh + 1)))]) [1, 2, 3, 0] rfl ?_
                  exact ih_lp1 _ (by omega) (cn) (hh + 1) _ _ g1 rfl hMy152 hFF (fRb) (fun j j1 => by exact f3 j j1) (by omega) (by omega) (by omega)
                · refine z_aload_n C 0 dX10_look_43 rfl ?_
                  refine z_iload_n C 3 dX10_look_44 rfl ?_
                  refine z_iload C 4 dX10_look_45 rfl ?_
                  have h27y156 : F9b 27 = F9b 27 := rfl
                  have hMy157 : okMr cs ad g1 i (x) F9b r9b st op ai fa mu tb tp := okMr.upd fMb hg_y127 fMb.2.1 (fun f _ => rfl) ha1_y127 (hA_y127.mono (by omega)) (fun j a b => by
                      exact Or.inl (by rfl))
                  refine z_cV (As := [.int (zI (hh)), .int (zI (mm))]) (rest := []) (ci := 12) C (c_X10_isGuess l D A cs tt N ad _ i hN x hx _ _ hMy157 (by omega) (hh) (by omega) (mm) (by omega)) (lt_A0 hN rfl) hay128 hg_y127 rfl rfl mv_yX10_isGuess q_2075 hd_yX10_isGuess (by decide) (Nat.le_of_ble_eq_true rfl) (by decide) dX10_look_47 rfl (kI0 fun vy158 gvy158 hvy158 => ?_)
                  obtain ⟨hrvy158, ⟨Fvy158, rvy158, hMvy158, hFvy158, hRvy158, hxvy158⟩, hfvy158⟩ := hvy158
                  have hBvy158 : (∀ f, f ≠ 27 → f ≠ 28 → Fvy158 f = F9b f) := fun f n27 n28 => (hFvy158 f n27 n28)
                  have hCvy158 : (∀ f, f ≠ 12 → f ≠ 27 → f ≠ 28 → Fvy158 f = F f) := fun f n12 n27 n28 => (hBvy158 f n27 n28).trans (fFb f n12 n27 n28)
                  have hq13vy158 : Fvy158 13 = F9b 13 := (hFvy158 13 (by decide) (by decide)).trans rfl
                  have hq14vy158 : Fvy158 14 = F9b 14 := (hFvy158 14 (by decide) (by decide)).trans rfl
                  have hq15vy158 : Fvy158 15 = F9b 15 := (hFvy158 15 (by decide) (by decide)).trans rfl
                  have hq17vy158 : Fvy158 17 = F9b 17 := (hFvy158 17 (by decide) (by decide)).trans rfl
                  have hq20vy158 : Fvy158 20 = F9b 20 := (hFvy158 20 (by decide) (by decide)).trans rfl
                  have hq21vy158 : Fvy158 21 = F9b 21 := (hFvy158 21 (by decide) (by decide)).trans rfl
                  have hq23vy158 : Fvy158 23 = F9b 23 := (hFvy158 23 (by decide) (by decide)).trans rfl
                  have hq24vy158 : Fvy158 24 = F9b 24 := (hFvy158 24 (by decide) (by decide)).trans rfl
                  have hq16vy158 : Fvy158 16 = F9b 16 := (hFvy158 16 (by decide) (by decide)).trans rfl
                  have hq18vy158 : Fvy158 18 = F9b 18 := (hFvy158 18 (by decide) (by decide)).trans rfl
                  have hq19vy158 : Fvy158 19 = F9b 19 := (hFvy158 19 (by decide) (by decide)).trans rfl
                  have hq25vy158 : Fvy158 25 = F9b 25 := (hFvy158 25 (by decide) (by decide)).trans rfl
                  have hq26vy158 : Fvy158 26 = F9b 26 := (hFvy158 26 (by decide) (by decide)).trans rfl
                  have hq29vy158 : Fvy158 29 = F9b 29 := (hFvy158 29 (by decide) (by decide)).trans rfl
                  obtain ⟨hg_y159, ⟨⟨e13_y159, e14_y159, e25_y159, e27_y159, e29_y159⟩, k15_y159, k16_y159, k17_y159, k18_y159, k19_y159, k20_y159, k23_y159, k21_y159⟩, hRD_y159, hTx_y159, hA_y159, ns_y159, nh_y159, nd_y159, rf_y159, pi_y159, te_y159, ki_y159, li_y159, ok1_y159, ok2_y159, fo_y159, dd_y159, dps_y159, ⟨ha1_y159, ha2_y159, ha3_y159, ha4_y159, ha5_y159, ha6_y159, ha7_y159, ha8_y159, ha9_y159, ha10_y159, ha11_y159, ha12_y159, ha13_y159, ha14_y159, ha15_y159, ha24_y159, ha25_y159, ha26_y159, ha27_y159, ha28_y159, ha29_y159⟩, hEv_y159, hPt_y159, hns_y159, htp_y159⟩ := id hMvy158
                  obtain ⟨-, hop_y159, hai_y159, hfa_y159, hT_y159, hT1_y159⟩ := id hEv_y159
                  have e14 := e14_y159
                  have e25 := e25_y159
                  have e27 := e27_y159
                  have e29 := e29_y159
                  have hop := hop_y159
                  have hai := hai_y159
                  have hfa := hfa_y159
                  have hT := hT_y159
                  have hT1 := hT1_y159
                  have hEv := hEv_y159
                  have htp := htp_y159
                  have hns := hns_y159
                  have hPt := hPt_y159
                  obtain ⟨⟨hsyy160, htyy160, hnyy160, hpyy160⟩, hlyy160⟩ := okA.at0 hA_y159
                  simp only [Nat.zero_add] at hsyy160 hnyy160 hpyy160
                  have hmn : ∀ s, s < 4 → 0 ≤ rvy158 (6 + 86 * s) ∧ rvy158 (6 + 86 * s) ≤ 12 := fun s hs => (hsyy160 s hs).1
                  have h5 : 0 ≤ rvy158 5 ∧ rvy158 5 ≤ 6 := hpyy160
                  refine z_if_ne (tgt := 56) C dX10_look_50 (by decide) (by omega) (fun hby161 => ?_) (fun hby161 => ?_)
                  · refine z_iconst (z := 0) C dX10_look_56 rfl ?_
                    refine z_istore (lv' := [(5, .int (zI (0))), (0, .ref (ad i)), (1, .int (zI (z))), (2, .int (zI (cn))), (3, .int (zI (hh))), (4, .int (zI (mm)))]) C dX10_look_57 (by decide) rfl ?_
                    have lp3 : ∀ (n9 : Nat) (ss : Int) (F9c : Nat → Int) (r9c : Nat → Int) (g1 : Nat → va_E), (5 - ss).toNat = n9 → (okMr cs ad g1 i x F9c r9c st op ai fa mu tb tp) → ((∀ f, f ≠ 12 → f ≠ 27 → f ≠ 28 → F9c f = F f)) → ((∀ j, j < 350 ∨ 700 ≤ j → r9c j = r j)) → (∀ j, j < i ∨ i + 30 ≤ j ∨ (i + 8 ≤ j ∧ j ≤ i + 12) → g1 j = g j) → (0 ≤ ss ∧ ss ≤ F 13) → (F9c 27 = -1) → zV pZ l eZ ({ frames := 12, cells := 0, slots := 0, locals := 720 } : Room) sZ mZ ([.ref (ad i), .int (zI (z))] : List Value).toArray below meth cZ (MQ below (zPost D A (rI0 N ad fun q g' => (-2147483648 ≤ q ∧ q ≤ 2147483647) ∧ (∃ F' r' : Nat → Int, okMr cs ad g' i (x + 1) F' r' st op ai fa mu tb tp ∧ (F' 13 = F 13 ∧ F' 14 = F 14 ∧ F' 15 = F 15 ∧ F' 16 = F 16 ∧ F' 17 = F 17 ∧ F' 18 = F 18 ∧ F' 19 = F 19 ∧ F' 20 = F 20 ∧ F' 21 = F 21 ∧ F' 23 = F 23 ∧ F' 24 = F 24) ∧ (F' 25 = 0 ∧ F' 26 = -1 ∧ F' 27 = -1 ∧ F' 29 = 0) ∧ (∀ j, j < 350 ∨ 700 ≤ j → r' j = r j)) ∧ ∀ j, j < i ∨ i + 30 ≤ j ∨ (i + 8 ≤ j ∧ j ≤ i + 12) → g' j = g j)) ([.ref (ad i), .int (zI (z))] : List Value).toArray sZ ({ frames := 12, cells := 0, slots := 0, locals := 720 } : Room).cells ({ frames := 12, cells := 0, slots := 0, locals := 720 } : Room).slots A) D A 7 (N) ad g1 (0) (0) 59 [(0, .ref (ad i)), (1, .int (zI (z))), (2, .int (zI (cn))), (3, .int (zI (hh))), (4, .int (zI (mm))), (5, .int (zI (ss)))] [] := by
                      intro n9
                      induction n9 using Nat.strongRecOn with
                      | ind n9 ih_lp3 =>
                        intro ss F9c r9c g1 hm9 fMc fFc fRc f3 hvlp30 hvlp31
                        obtain ⟨hg_y162, ⟨⟨e13_y162, e14_y162, e25_y162, e27_y162, e29_y162⟩, k15_y162, k16_y162, k17_y162, k18_y162, k19_y162, k20_y162, k23_y162, k21_y162⟩, hRD_y162, hTx_y162, hA_y162, ns_y162, nh_y162, nd_y162, rf_y162, pi_y162, te_y162, ki_y162, li_y162, ok1_y162, ok2_y162, fo_y162, dd_y162, dps_y162, ⟨ha1_y162, ha2_y162, ha3_y162, ha4_y162, ha5_y162, ha6_y162, ha7_y162, ha8_y162, ha9_y162, ha10_y162, ha11_y162, ha12_y162, ha13_y162, ha14_y162, ha15_y162, ha24_y162, ha25_y162, ha26_y162, ha27_y162, ha28_y162, ha29_y162⟩, hEv_y162, hPt_y162, hns_y162, htp_y162⟩ := id fMc
                        obtain ⟨-, hop_y162, hai_y162, hfa_y162, hT_y162, hT1_y162⟩ := id hEv_y162
                        have e14 := e14_y162
                        have e25 := e25_y162
                        have e27 := e27_y162
                        have e29 := e29_y162
                        have hop := hop_y162
                        have hai := hai_y162
                        have hfa := hfa_y162
                        have hT := hT_y162
                        have hT1 := hT1_y162
                        have hEv := hEv_y162
                        have htp := htp_y162
                        have hns := hns_y162
                        have hPt := hPt_y162
                        have hay163 : zAt ad (i) (ad i) := rfl
                        have hay164 : zAt ad (i + 1) (ad (i + 1)) := rfl
                        have hay165 : zAt ad (i + 2) (ad (i + 2)) := rfl
                        have hay166 : zAt ad (i + 3) (ad (i + 3)) := rfl
                        have hay167 : zAt ad (i + 4) (ad (i + 4)) := rfl
                        have hay168 : zAt ad (i + 5) (ad (i + 5)) := rfl
                        have hay169 : zAt ad (i + 6) (ad (i + 6)) := rfl
                        have hay170 : zAt ad (i + 7) (ad (i + 7)) := rfl
                        have hay171 : zAt ad (i + 8) (ad (i + 8)) := rfl
                        have hay172 : zAt ad (i + 9) (ad (i + 9)) := rfl
                        have hay173 : zAt ad (i + 10) (ad (i + 10)) := rfl
                        have hay174 : zAt ad (i + 11) (ad (i + 11)) := rfl
                        have hay175 : zAt ad (i + 12) (ad (i + 12)) := rfl
                        have hay176 : zAt ad (i + 13) (ad (i + 13)) := rfl
                        have hay177 : zAt ad (i + 14) (ad (i + 14)) := rfl
                        have hay178 : zAt ad (i + 15) (ad (i + 15)) := rfl
                        have hay179 : zAt ad (i + 24) (ad (i + 24)) := rfl
                        have hay180 : zAt ad (i + 25) (ad (i + 25)) := rfl
                        have hay181 : zAt ad (i + 26) (ad (i + 26)) := rfl
                        have hay182 : zAt ad (i + 27) (ad (i + 27)) := rfl
                        have hay183 : zAt ad (i + 28) (ad (i + 28)) := rfl
                        have hay184 : zAt ad (i + 29) (ad (i + 29)) := rfl
                        obtain ⟨⟨hsyy185, htyy185, hnyy185, hpyy185⟩, hlyy185⟩ := okA.at0 hA_y162
                        simp only [Nat.zero_add] at hsyy185 hnyy185 hpyy185
                        have hmn : ∀ s, s < 4 → 0 ≤ r9c (6 + 86 * s) ∧ r9c (6 + 86 * s) ≤ 12 := fun s hs => (hsyy185 s hs).1
                        have h5 : 0 ≤ r9c 5 ∧ r9c 5 ≤ 6 := hpyy185
                        have h13ce : F9c 13 = F 13 := fFc 13 (by decide) (by decide) (by decide)
                        have h14ce : F9c 14 = F 14 := fFc 14 (by decide) (by decide) (by decide)
                        have h17ce : F9c 17 = F 17 := fFc 17 (by decide) (by decide) (by decide)
                        have h20ce : F9c 20 = F 20 := fFc 20 (by decide) (by decide) (by decide)
                        have h21ce : F9c 21 = F 21 := fFc 21 (by decide) (by decide) (by decide)
                        have h23ce : F9c 23 = F 23 := fFc 23 (by decide) (by decide) (by decide)
                        have h24ce : F9c 24 = F 24 := fFc 24 (by decide) (by decide) (by decide)
                        have h15ce : F9c 15 = F 15 := fFc 15 (by decide) (by decide) (by decide)
                        have h16ce : F9c 16 = F 16 := fFc 16 (by decide) (by decide) (by decide)
                        have h18ce : F9c 18 = F 18 := fFc 18 (by decide) (by decide) (by decide)
                        have h19ce : F9c 19 = F 19 := fFc 19 (by decide) (by decide) (by decide)
                        have h25ce : F9c 25 = F 25 := fFc 25 (by decide) (by decide) (by decide)
                        have h26ce : F9c 26 = F 26 := fFc 26 (by decide) (by decide) (by decide)
                        have h29ce : F9c 29 = F 29 := fFc 29 (by decide) (by decide) (by decide)
                        refine z_iload C 5 dX10_look_59 rfl ?_
                        refine z_aload_n C 0 dX10_look_61 rfl ?_
                        refine z_get (v := .int (zI (F9c 13))) C (lt_A0 hN rfl) hay163 hg_y162 rfl inA_X10 13 (by decide) q_1472 rfl (fv (F := F9c) (f := 13) rfl) dX10_look_62 ?_
                        refine z_icmp_ge (tgt := 92) C dX10_look_65 (by decide) (by omega) (by omega) (fun hby186 => ?_) (fun hby186 => ?_)
                        · refine z_iinc (z := cn + 1) (lv' := [(2, .int (zI (cn + 1))), (0, .ref (ad i)), (1, .int (zI (z))), (3, .int (zI (hh))), (4, .int (zI (mm))), (5, .int (zI (ss)))]) (j := 2) C dX10_look_92 rfl rfl (by decide) rfl ?_
                          refine z_iinc (z := mm + 1) (lv' := [(4, .int (zI (mm + 1))), (2, .int (zI (cn + 1))), (0, .ref (ad i)), (1, .int (zI (z))), (3, .int (zI (hh))), (5, .int (zI (ss)))]) (j := 4) C dX10_look_95 rfl rfl (by decide) rfl ?_
                          refine z_goto (tgt := 36) C dX10_look_98 (by decide) ?_
                          have hMy187 : okMr cs ad g1 i (x) F9c r9c st op ai fa mu tb tp := okMr.upd fMc hg_y162 fMc.2.1 (fun f _ => rfl) ha1_y162 (hA_y162.mono (by omega)) (fun j a b => by
                              exact Or.inl (by rfl))
                          have hFFb : (∀ f, f ≠ 12 → f ≠ 27 → f ≠ 28 → F9c f = F f) := fun f n12 n27 n28 => fFc f n12 n27 n28
                          have hey188 : F9c 13 = F9c 13 := rfl
                          have hey189 : F9c 14 = F9c 14 := rfl
                          have hey190 : F9c 27 = F9c 27 := rfl
                          refine z_lv (lv' := [(0, .ref (ad i)), (1, .int (zI (z))), (2, .int (zI (cn + 1))), (3, .int (zI (hh))), (4, .int (zI (mm + 1)))]) [2, 3, 1, 4, 0] rfl ?_
                          exact ih_lp2 _ (by omega) (cn + 1) (mm + 1) _ _ g1 rfl hMy187 hFFb (fRc) (fun j j1 => by exact f3 j j1) (by omega) (by omega) (by omega)
                        · refine z_aload_n C 0 dX10_look_68 rfl ?_
                          refine z_get (v := .ref (ad (i + 29))) C (lt_A0 hN rfl) hay163 hg_y162 rfl inA_X10 58 (by decide) q_1517 rfl rfl dX10_look_69 ?_
                          refine z_iconst (z := 4) C dX10_look_72 rfl ?_
                          refine z_iload_n C 2 dX10_look_73 rfl ?_
                          refine z_imul C dX10_look_74 ?_
                          refine z_iload C 5 dX10_look_75 rfl ?_
                          refine z_iadd C dX10_look_77 ?_
                          refine z_aload_n C 0 dX10_look_78 rfl ?_
                          refine z_get (v := .ref (ad (i + 28))) C (lt_A0 hN rfl) hay163 hg_y162 rfl inA_X10 57 (by decide) q_1516 rfl rfl dX10_look_79 ?_
                          refine z_iload C 5 dX10_look_82 rfl ?_
                          refine z_iald C (lt_A (c := 28) hN rfl) hay183 ha28_y162 ((ss).toNat) (by omega) (by omega) (by decide) dX10_look_84 ?_
                          refine z_iast C (lt_A (c := 29) hN rfl) hay184 ha29_y162 (((4 * cn) + ss).toNat) (by omega) (by omega) (by decide) dX10_look_85 (fun gy191 egy192 => ?_)
                          have hgy193 := up_s egy192
                          refine z_iinc (z := ss + 1) (lv' := [(5, .int (zI (ss + 1))), (0, .ref (ad i)), (1, .int (zI (z))), (2, .int (zI (cn))), (3, .int (zI (hh))), (4, .int (zI (mm)))]) (j := 5) C dX10_look_86 rfl rfl (by decide) rfl ?_
                          refine z_goto (tgt := 59) C dX10_look_89 (by decide) ?_
                          have hgy194 := up_n egy192 hg_y162 (ne_o (i := i) (c := 0) (d := 29) rfl)
                          have hgy195 := up_n egy192 ha1_y162 (ne_o (i := i) (c := 1) (d := 29) rfl)
                          have hMy196 : okMr cs ad gy191 i (x) F9c r9c st op ai fa mu tb tp := okMr.upd fMc hgy194 fMc.2.1 (fun f _ => rfl) hgy195 (hA_y162.mono (by omega)) (fun j a b => by
                              by_cases e0 : j = i + 29
                              · exact Or.inr ⟨29, _, e0, lsP.l (by decide), by rw [e0]; exact hgy193⟩
                              exact Or.inl (by rw [egy192, va_up_ne _ _ (by omega)]))
                          have hFFc : (∀ f, f ≠ 12 → f ≠ 27 → f ≠ 28 → F9c f = F f) := fun f n12 n27 n28 => fFc f n12 n27 n28
                          have hey197 : F9c 13 = F9c 13 := rfl
                          have hey198 : F9c 14 = F9c 14 := rfl
                          have hey199 : F9c 27 = F9c 27 := rfl
                          refine z_lv (lv' := [(0, .ref (ad i)), (1, .int (zI (z))), (2, .int (zI (cn))), (3, .int (zI (hh))), (4, .int (zI (mm))), (5, .int (zI (ss + 1)))]) [1, 2, 3, 4, 5, 0] rfl ?_
                          exact ih_lp3 _ (by omega) (ss + 1) _ _ gy191 rfl hMy196 hFFc (fRc) (fun j j1 => by rw [egy192, va_up_ne _ _ (by omega)]; exact f3 j j1) (by omega) (by omega)
                    have hMy200 : okMr cs ad gvy158 i (x) Fvy158 rvy158 st op ai fa mu tb tp := okMr.upd hMvy158 hg_y159 hMvy158.2.1 (fun f _ => rfl) ha1_y159 (hA_y159.mono (by omega)) (fun j a b => by
                        exact Or.inl (by rfl))
                    have hFFc : (∀ f, f ≠ 12 → f ≠ 27 → f ≠ 28 → Fvy158 f = F f) := fun f n12 n27 n28 => hCvy158 f n12 n27 n28
                    have hey201 : Fvy158 13 = F9b 13 := hq13vy158
                    have hey202 : Fvy158 14 = F9b 14 := hq14vy158
                    have hey203 : Fvy158 27 = Fvy158 27 := rfl
                    refine z_lv (lv' := [(0, .ref (ad i)), (1, .int (zI (z))), (2, .int (zI (cn))), (3, .int (zI (hh))), (4, .int (zI (mm))), (5, .int (zI (0)))]) [1, 2, 3, 4, 5, 0] rfl ?_
                    exact lp3 _ (0) _ _ gvy158 rfl hMy200 hFFc ((fun j a9 => (hRvy158 j a9).trans (fRb j a9))) (fun j j1 => by rw [hfvy158 _ (by omega)]; exact f3 j j1) (by omega) (by omega)
                  · refine z_goto (tgt := 95) C dX10_look_53 (by decide) ?_
                    refine z_iinc (z := mm + 1) (lv' := [(4, .int (zI (mm + 1))), (0, .ref (ad i)), (1, .int (zI (z))), (2, .int (zI (cn))), (3, .int (zI (hh)))]) (j := 4) C dX10_look_95 rfl rfl (by decide) rfl ?_
                    refine z_goto (tgt := 36) C dX10_look_98 (by decide) ?_
                    have hMy204 : okMr cs ad gvy158 i (x) Fvy158 rvy158 st op ai fa mu tb tp := okMr.upd hMvy158 hg_y159 hMvy158.2.1 (fun f _ => rfl) ha1_y159 (hA_y159.mono (by omega)) (fun j a b => by
                        exact Or.inl (by rfl))
                    have hFFb : (∀ f, f ≠ 12 → f ≠ 27 → f ≠ 28 → Fvy158 f = F f) := fun f n12 n27 n28 => hCvy158 f n12 n27 n28
                    have hey205 : Fvy158 13 = F9b 13 := hq13vy158
                    have hey206 : Fvy158 14 = F9b 14 := hq14vy158
                    have hey207 : Fvy158 27 = Fvy158 27 := rfl
                    refine z_lv (lv' := [(0, .ref (ad i)), (1, .int (zI (z))), (2, .int (zI (cn))), (3, .int (zI (hh))), (4, .int (zI (mm + 1)))]) [1, 2, 3, 4, 0] rfl ?_
                    exact ih_lp2 _ (by omega) (cn) (mm + 1) _ _ gvy158 rfl hMy204 hFFb ((fun j a9 => (hRvy158 j a9).trans (fRb j a9))) (fun j j1 => by rw [hfvy158 _ (by omega)]; exact f3 j j1) (by omega) (by omega) (by omega)
            have hMy208 : okMr cs ad g1 i (x) F9 r9 st op ai fa mu tb tp := okMr.upd fM hg_y30 fM.2.1 (fun f _ => rfl) ha1_y30 (hA_y30.mono (by omega)) (fun j a b => by
                exact Or.inl (by rfl))
            have hFFb : (∀ f, f ≠ 12 → f ≠ 27 → f ≠ 28 → F9 f = F f) := fun f n12 n27 n28 => fF f n12 n27 n28
            have hey209 : F9 13 = F9 13 := rfl
            have hey210 : F9 14 = F9 14 := rfl
            have hey211 : F9 27 = F9 27 := rfl
            refine z_lv (lv' := [(0, .ref (ad i)), (1, .int (zI (z))), (2, .int (zI (cn))), (3, .int (zI (hh))), (4, .int (zI (1)))]) [1, 2, 3, 4, 0] rfl ?_
            exact lp2 _ (cn) (1) _ _ g1 rfl hMy208 hFFb (fR) (fun j j1 => by exact f3 j j1) (by omega) (by omega) (by omega)
      have hgy212 := up_n egy25 ha1 (ne_o (i := i) (c := 1) (d := 0) rfl)
      have hgy213 := (hfvy28 (i + 1) (ne_o (i := i) (c := 1) (d := 0) rfl)).trans hgy212
      have hFy214 : ∀ f, f ≠ 12 → Fvy28 f = F f := fun f n12 => ((hFvy28 f n12).trans ((uZ_n _ _ n12).trans rfl))
      have hey215 : Fvy28 13 = F 13 := ((hFvy28 13 (by decide)).trans (fn rfl (by decide)))
      have hey216 : Fvy28 14 = F 14 := ((hFvy28 14 (by decide)).trans (fn rfl (by decide)))
      have hey217 : Fvy28 15 = F 15 := ((hFvy28 15 (by decide)).trans (fn rfl (by decide)))
      have hey218 : Fvy28 16 = F 16 := ((hFvy28 16 (by decide)).trans (fn rfl (by decide)))
      have hey219 : Fvy28 17 = F 17 := ((hFvy28 17 (by decide)).trans (fn rfl (by decide)))
      have hey220 : Fvy28 18 = F 18 := ((hFvy28 18 (by decide)).trans (fn rfl (by decide)))
      have hey221 : Fvy28 19 = F 19 := ((hFvy28 19 (by decide)).trans (fn rfl (by decide)))
      have hey222 : Fvy28 20 = F 20 := ((hFvy28 20 (by decide)).trans (fn rfl (by decide)))
      have hey223 : Fvy28 21 = F 21 := ((hFvy28 21 (by decide)).trans (fn rfl (by decide)))
      have hey224 : Fvy28 23 = F 23 := ((hFvy28 23 (by decide)).trans (fn rfl (by decide)))
      have hey225 : Fvy28 25 = F 25 := ((hFvy28 25 (by decide)).trans (fn rfl (by decide)))
      have hey226 : Fvy28 27 = F 27 := ((hFvy28 27 (by decide)).trans (fn rfl (by decide)))
      have hey227 : Fvy28 28 = F 28 := ((hFvy28 28 (by decide)).trans (fn rfl (by decide)))
      have hey228 : Fvy28 29 = F 29 := ((hFvy28 29 (by decide)).trans (fn rfl (by decide)))
      have hKy229 : okF Fvy28 := okF.mv hM.2.1 hey215 hey216 hey217 hey218 hey219 hey220 hey221 hey222 hey223 hey224 hey225 hey226 hey227 hey228
      have hMy230 : okMr cs ad gvy28 i (x) Fvy28 r st op ai fa mu tb tp := okMr.upd hM hcvy28 hKy229 (fun f a => hFy214 f (by omega)) hgy213 (hA.mono (by omega)) (fun j a b => by
          exact Or.inl (by rw [hfvy28 _ (by omega)]; rw [egy25, va_up_ne _ _ (by omega)]))
      have hFy231 : ∀ f, f ≠ 12 → Fvy28 f = F f := fun f n12 => ((hFvy28 f n12).trans ((uZ_n _ _ n12).trans rfl))
      have hFF : (∀ f, f ≠ 12 → f ≠ 27 → f ≠ 28 → Fvy28 f = F f) := fun f n12 n27 n28 => (hFy231 f n12)
      have hey232 : Fvy28 13 = F 13 := ((hFvy28 13 (by decide)).trans (fn rfl (by decide)))
      have hey233 : Fvy28 14 = F 14 := ((hFvy28 14 (by decide)).trans (fn rfl (by decide)))
      have hey234 : Fvy28 27 = F 27 := ((hFvy28 27 (by decide)).trans (fn rfl (by decide)))
      refine z_lv (lv' := [(0, .ref (ad i)), (1, .int (zI (z))), (2, .int (zI (0))), (3, .int (zI (0)))]) [2, 3, 1, 0] rfl ?_
      exact lp1 _ (0) (0) _ _ gvy28 rfl hMy230 hFF ((fun j _ => rfl)) (fun j j1 => by rw [hfvy28 _ (by omega)]; rw [egy25, va_up_ne _ _ (by omega)]) (by omega) (by omega) (by omega)
    · refine z_if_ne (tgt := 21) C dX10_look_16 (by decide) (by omega) (fun h => absurd h (by omega)) (fun _ => ?_)
      refine z_iconst (z := 0) C dX10_look_19 rfl ?_
      have hgy235 := up_n egy25 ha1 (ne_o (i := i) (c := 1) (d := 0) rfl)
      have hgy236 := (hfvy28 (i + 1) (ne_o (i := i) (c := 1) (d := 0) rfl)).trans hgy235
      have hFy237 : ∀ f, f ≠ 12 → Fvy28 f = F f := fun f n12 => ((hFvy28 f n12).trans ((uZ_n _ _ n12).trans rfl))
      have hey238 : Fvy28 13 = F 13 := ((hFvy28 13 (by decide)).trans (fn rfl (by decide)))
      have hey239 : Fvy28 14 = F 14 := ((hFvy28 14 (by decide)).trans (fn rfl (by decide)))
      have hey240 : Fvy28 15 = F 15 := ((hFvy28 15 (by decide)).trans (fn rfl (by decide)))
      have hey241 : Fvy28 16 = F 16 := ((hFvy28 16 (by decide)).trans (fn rfl (by decide)))
      have hey242 : Fvy28 17 = F 17 := ((hFvy28 17 (by decide)).trans (fn rfl (by decide)))
      have hey243 : Fvy28 18 = F 18 := ((hFvy28 18 (by decide)).trans (fn rfl (by decide)))
      have hey244 : Fvy28 19 = F 19 := ((hFvy28 19 (by decide)).trans (fn rfl (by decide)))
      have hey245 : Fvy28 20 = F 20 := ((hFvy28 20 (by decide)).trans (fn rfl (by decide)))
      have hey246 : Fvy28 21 = F 21 := ((hFvy28 21 (by decide)).trans (fn rfl (by decide)))
      have hey247 : Fvy28 23 = F 23 := ((hFvy28 23 (by decide)).trans (fn rfl (by decide)))
      have hey248 : Fvy28 25 = F 25 := ((hFvy28 25 (by decide)).trans (fn rfl (by decide)))
      have hey249 : Fvy28 27 = F 27 := ((hFvy28 27 (by decide)).trans (fn rfl (by decide)))
      have hey250 : Fvy28 28 = F 28 := ((hFvy28 28 (by decide)).trans (fn rfl (by decide)))
      have hey251 : Fvy28 29 = F 29 := ((hFvy28 29 (by decide)).trans (fn rfl (by decide)))
      have hKy252 : okF Fvy28 := okF.mv hM.2.1 hey238 hey239 hey240 hey241 hey242 hey243 hey244 hey245 hey246 hey247 hey248 hey249 hey250 hey251
      have hMy253 : okMr cs ad gvy28 i (x + 1) Fvy28 r st op ai fa mu tb tp := okMr.upd hM hcvy28 hKy252 (fun f a => hFy237 f (by omega)) hgy236 (hA.mono (by omega)) (fun j a b => by
          exact Or.inl (by rw [hfvy28 _ (by omega)]; rw [egy25, va_up_ne _ _ (by omega)]))
      have hkpy254 : Fvy28 13 = F 13 := ((hFvy28 13 (by decide)).trans (fn rfl (by decide)))
      have hkpy255 : Fvy28 14 = F 14 := ((hFvy28 14 (by decide)).trans (fn rfl (by decide)))
      have hkpy256 : Fvy28 15 = F 15 := ((hFvy28 15 (by decide)).trans (fn rfl (by decide)))
      have hkpy257 : Fvy28 16 = F 16 := ((hFvy28 16 (by decide)).trans (fn rfl (by decide)))
      have hkpy258 : Fvy28 17 = F 17 := ((hFvy28 17 (by decide)).trans (fn rfl (by decide)))
      have hkpy259 : Fvy28 18 = F 18 := ((hFvy28 18 (by decide)).trans (fn rfl (by decide)))
      have hkpy260 : Fvy28 19 = F 19 := ((hFvy28 19 (by decide)).trans (fn rfl (by decide)))
      have hkpy261 : Fvy28 20 = F 20 := ((hFvy28 20 (by decide)).trans (fn rfl (by decide)))
      have hkpy262 : Fvy28 21 = F 21 := ((hFvy28 21 (by decide)).trans (fn rfl (by decide)))
      have hkpy263 : Fvy28 23 = F 23 := ((hFvy28 23 (by decide)).trans (fn rfl (by decide)))
      have hkpy264 : Fvy28 24 = F 24 := ((hFvy28 24 (by decide)).trans (fn rfl (by decide)))
      have hkpy265 : Fvy28 25 = F 25 := ((hFvy28 25 (by decide)).trans (fn rfl (by decide)))
      have hkpy266 : Fvy28 26 = F 26 := ((hFvy28 26 (by decide)).trans (fn rfl (by decide)))
      have hkpy267 : Fvy28 27 = F 27 := ((hFvy28 27 (by decide)).trans (fn rfl (by decide)))
      have hkpy268 : Fvy28 29 = F 29 := ((hFvy28 29 (by decide)).trans (fn rfl (by decide)))
      exact z_iret C hr hlk dX10_look_20 (by decide) (by decide) ⟨0, rfl, rfl, rfl, by omega, ⟨_, _, hMy253, ⟨hkpy254, hkpy255, hkpy256, hkpy257, hkpy258, hkpy259, hkpy260, hkpy261, hkpy262, hkpy263, hkpy264⟩, ⟨(hkpy265.trans hp25), (hkpy266.trans hp26), (hkpy267.trans hp27), (hkpy268.trans hp29)⟩, (fun j _ => rfl)⟩, fun j j1 => by rw [hfvy28 _ (by omega)]; rw [egy25, va_up_ne _ _ (by omega)]⟩
  · refine z_iconst (z := 1) C dX10_look_12 rfl ?_
    have hey270 : (uZ F 12 (0)) 12 = 0 := (uZ_s _ _ _)
    refine z_cV (As := [.int (zI (0)), .int (zI (1))]) (rest := []) (ci := 12) C (c_X10_right l D A cs tt N ad _ i hN _ hgy26 (by omega) (0) (by omega) (1) (by omega)) (lt_A0 hN rfl) hay1 hgy26 rfl rfl mv_yX10_right q_1648 hd_yX10_right (by decide) (Nat.le_of_ble_eq_true rfl) (by decide) dX10_look_13 rfl (kI0 fun vy269 gvy269 hvy269 => ?_)
    obtain ⟨hrvy269, ⟨Fvy269, hcvy269, htvy269, hFvy269⟩, hfvy269⟩ := hvy269
    obtain rfl : vy269 = 0 := by omega
    refine z_if_ne (tgt := 21) C dX10_look_16 (by decide) (by omega) (fun h => absurd h (by omega)) (fun _ => ?_)
    refine z_iconst (z := 0) C dX10_look_19 rfl ?_
    have hgy271 := up_n egy25 ha1 (ne_o (i := i) (c := 1) (d := 0) rfl)
    have hgy272 := (hfvy269 (i + 1) (ne_o (i := i) (c := 1) (d := 0) rfl)).trans hgy271
    have hFy273 : ∀ f, f ≠ 12 → Fvy269 f = F f := fun f n12 => ((hFvy269 f n12).trans ((uZ_n _ _ n12).trans rfl))
    have hey274 : Fvy269 13 = F 13 := ((hFvy269 13 (by decide)).trans (fn rfl (by decide)))
    have hey275 : Fvy269 14 = F 14 := ((hFvy269 14 (by decide)).trans (fn rfl (by decide)))
    have hey276 : Fvy269 15 = F 15 := ((hFvy269 15 (by decide)).trans (fn rfl (by decide)))
    have hey277 : Fvy269 16 = F 16 := ((hFvy269 16 (by decide)).trans (fn rfl (by decide)))
    have hey278 : Fvy269 17 = F 17 := ((hFvy269 17 (by decide)).trans (fn rfl (by decide)))
    have hey279 : Fvy269 18 = F 18 := ((hFvy269 18 (by decide)).trans (fn rfl (by decide)))
    have hey280 : Fvy269 19 = F 19 := ((hFvy269 19 (by decide)).trans (fn rfl (by decide)))
    have hey281 : Fvy269 20 = F 20 := ((hFvy269 20 (by decide)).trans (fn rfl (by decide)))
    have hey282 : Fvy269 21 = F 21 := ((hFvy269 21 (by decide)).trans (fn rfl (by decide)))
    have hey283 : Fvy269 23 = F 23 := ((hFvy269 23 (by decide)).trans (fn rfl (by decide)))
    have hey284 : Fvy269 25 = F 25 := ((hFvy269 25 (by decide)).trans (fn rfl (by decide)))
    have hey285 : Fvy269 27 = F 27 := ((hFvy269 27 (by decide)).trans (fn rfl (by decide)))
    have hey286 : Fvy269 28 = F 28 := ((hFvy269 28 (by decide)).trans (fn rfl (by decide)))
    have hey287 : Fvy269 29 = F 29 := ((hFvy269 29 (by decide)).trans (fn rfl (by decide)))
    have hKy288 : okF Fvy269 := okF.mv hM.2.1 hey274 hey275 hey276 hey277 hey278 hey279 hey280 hey281 hey282 hey283 hey284 hey285 hey286 hey287
    have hMy289 : okMr cs ad gvy269 i (x + 1) Fvy269 r st op ai fa mu tb tp := okMr.upd hM hcvy269 hKy288 (fun f a => hFy273 f (by omega)) hgy272 (hA.mono (by omega)) (fun j a b => by
        exact Or.inl (by rw [hfvy269 _ (by omega)]; rw [egy25, va_up_ne _ _ (by omega)]))
    have hkpy290 : Fvy269 13 = F 13 := ((hFvy269 13 (by decide)).trans (fn rfl (by decide)))
    have hkpy291 : Fvy269 14 = F 14 := ((hFvy269 14 (by decide)).trans (fn rfl (by decide)))
    have hkpy292 : Fvy269 15 = F 15 := ((hFvy269 15 (by decide)).trans (fn rfl (by decide)))
    have hkpy293 : Fvy269 16 = F 16 := ((hFvy269 16 (by decide)).trans (fn rfl (by decide)))
    have hkpy294 : Fvy269 17 = F 17 := ((hFvy269 17 (by decide)).trans (fn rfl (by decide)))
    have hkpy295 : Fvy269 18 = F 18 := ((hFvy269 18 (by decide)).trans (fn rfl (by decide)))
    have hkpy296 : Fvy269 19 = F 19 := ((hFvy269 19 (by decide)).trans (fn rfl (by decide)))
    have hkpy297 : Fvy269 20 = F 20 := ((hFvy269 20 (by decide)).trans (fn rfl (by decide)))
    have hkpy298 : Fvy269 21 = F 21 := ((hFvy269 21 (by decide)).trans (fn rfl (by decide)))
    have hkpy299 : Fvy269 23 = F 23 := ((hFvy269 23 (by decide)).trans (fn rfl (by decide)))
    have hkpy300 : Fvy269 24 = F 24 := ((hFvy269 24 (by decide)).trans (fn rfl (by decide)))
    have hkpy301 : Fvy269 25 = F 25 := ((hFvy269 25 (by decide)).trans (fn rfl (by decide)))
    have hkpy302 : Fvy269 26 = F 26 := ((hFvy269 26 (by decide)).trans (fn rfl (by decide)))
    have hkpy303 : Fvy269 27 = F 27 := ((hFvy269 27 (by decide)).trans (fn rfl (by decide)))
    have hkpy304 : Fvy269 29 = F 29 := ((hFvy269 29 (by decide)).trans (fn rfl (by decide)))
    exact z_iret C hr hlk dX10_look_20 (by decide) (by decide) ⟨0, rfl, rfl, rfl, by omega, ⟨_, _, hMy289, ⟨hkpy290, hkpy291, hkpy292, hkpy293, hkpy294, hkpy295, hkpy296, hkpy297, hkpy298, hkpy299, hkpy300⟩, ⟨(hkpy301.trans hp25), (hkpy302.trans hp26), (hkpy303.trans hp27), (hkpy304.trans hp29)⟩, (fun j _ => rfl)⟩, fun j j1 => by rw [hfvy269 _ (by omega)]; rw [egy25, va_up_ne _ _ (by omega)]⟩

