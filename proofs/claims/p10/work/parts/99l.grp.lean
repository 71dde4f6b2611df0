section
-- 99l.refcmp.lean.txt
theorem qS.ofPit {r pi : Nat → Int} {p k : Nat} (hk : k < 12) (h : okPt pi) (hp : r p = pi (90 * k + 2)) (hl : ∀ m, m < 84 → r (p + 2 + m) = pi (90 * k + 3 + m)) : qS r p := by
  obtain ⟨h1, h2, h3⟩ := h k hk
  refine ⟨by rw [hp]; exact h2, fun l a => ?_⟩
  rw [hp] at a
  have h9 := h3 l a
  rw [show p + 2 + 7 * l + 3 = p + 2 + (7 * l + 3) by omega, hl (7 * l + 3) (by omega), hl (7 * l) (by omega), show 90 * k + 3 + (7 * l + 3) = 90 * k + 3 + 7 * l + 3 by omega]
  exact h9
theorem okPt.put {pi p9 r : Nat → Int} {kp p s : Nat} {M E : Int} (h : okPt pi) (hk : kp < 6) (hs : s < 4) (ho : okS r p M E) (hE : E ≤ 400000000) (hf : ∀ j, j < 90 * kp ∨ 90 * kp + 90 ≤ j → p9 j = pi j) (h0 : p9 (90 * kp) = (s : Int)) (h2 : p9 (90 * kp + 2) = r p) (hl : ∀ m, m < 84 → p9 (90 * kp + 3 + m) = r (p + 2 + m)) : okPt p9 := fun k hk2 => by
  by_cases e : k = kp
  · subst e
    refine ⟨by rw [h0]; omega, by rw [h2]; exact ho.1, fun l a => ?_⟩
    rw [h2] at a
    have hb := ho.1
    have h9 := (ho.q hE).2 l a
    rw [show 90 * k + 3 + 7 * l + 3 = 90 * k + 3 + (7 * l + 3) by omega, hl (7 * l + 3) (by omega), hl (7 * l) (by omega), show p + 2 + (7 * l + 3) = p + 2 + 7 * l + 3 by omega]
    exact h9
  · obtain ⟨a1, a2, a3⟩ := h k hk2
    rw [hf (90 * k) (by omega), hf (90 * k + 2) (by omega)]
    refine ⟨a1, a2, fun l b => ?_⟩
    rw [hf (90 * k + 3 + 7 * l) (by omega), hf (90 * k + 3 + 7 * l + 3) (by omega)]
    exact a3 l b
theorem okPt.cpy {pi p9 : Nat → Int} {a b : Nat} (h : okPt pi) (hab : a = 0 ∧ b = 6 ∨ a = 6 ∧ b = 0) (he : ∀ m, m < 540 → p9 (90 * b + m) = pi (90 * a + m)) (hf : ∀ m, m < 540 → p9 (90 * a + m) = pi (90 * a + m)) : okPt p9 := fun k hk => by
  obtain ⟨c, hc, hq⟩ : ∃ c, c < 12 ∧ ∀ m, m < 90 → p9 (90 * k + m) = pi (90 * c + m) := by
    by_cases e : b ≤ k ∧ k < b + 6
    · refine ⟨a + (k - b), by omega, fun m hm => ?_⟩
      rw [show 90 * k + m = 90 * b + (90 * (k - b) + m) by omega, show 90 * (a + (k - b)) + m = 90 * a + (90 * (k - b) + m) by omega]
      exact he _ (by omega)
    · refine ⟨k, hk, fun m hm => ?_⟩
      rw [show 90 * k + m = 90 * a + (90 * (k - a) + m) by omega]
      exact hf _ (by omega)
  obtain ⟨a1, a2, a3⟩ := h c hc
  have q0 := hq 0 (by omega)
  rw [Nat.add_zero, Nat.add_zero] at q0
  rw [q0, hq 2 (by omega)]
  refine ⟨a1, a2, fun l b2 => ?_⟩
  have hl : l < 12 := by omega
  rw [show 90 * k + 3 + 7 * l + 3 = 90 * k + (3 + 7 * l + 3) by omega, show 90 * k + 3 + 7 * l = 90 * k + (3 + 7 * l) by omega, hq _ (by omega), hq _ (by omega), show 90 * c + (3 + 7 * l + 3) = 90 * c + 3 + 7 * l + 3 by omega, show 90 * c + (3 + 7 * l) = 90 * c + 3 + 7 * l by omega]
  exact a3 l b2

set_option maxRecDepth 100000 in
set_option maxHeartbeats 4000000 in
theorem c_X10_weakestName (l : Launch) (D : va_G) (A : Nat → Prop) (cs : Nat → ClassId) (tt : Nat) (N : Nat) (ad : Nat → Nat) (g : Nat → va_E) (i : Nat) (hN : i + 30 ≤ N) (x : Int) (hx : 0 ≤ x ∧ x ≤ 512) (F r : Nat → Int) {st op ai fa mu tb tp : Nat → Int} (hM : okMr cs ad g i x F r st op ai fa mu tb tp) (n0 : Nat) (hn0 : n0 < 6) : zM l yX10_weakestName cX10_weakestName 4 (some .int) ({ frames := 9, cells := 0, slots := 0, locals := 540 } : Room) D A cs tt N ad g [.ref (ad i), .int (zI ((n0 : Int)))] (rI0 N ad fun q g' => (-2147483648 ≤ q ∧ q ≤ 2147483647) ∧ (∃ F' r' : Nat → Int, okMr cs ad g' i x F' r' st op ai fa mu tb tp ∧ (∀ f, F' f = F f) ∧ (∀ j, j < 350 ∨ 700 ≤ j → r' j = r j)) ∧ ∀ j, j < i ∨ i + 30 ≤ j ∨ (i + 8 ≤ j ∧ j ≤ i + 12) → g' j = g j) := by
  obtain ⟨hg, ⟨⟨e13, e14, e25, e27, e29⟩, k15, k16, k17, k18, k19, k20, k23, k21⟩, hRD, hTx, hA, ns, nh, nd, rf, pi, te, ki, li, ok1, ok2, fo, dd, dps, ⟨ha1, ha2, ha3, ha4, ha5, ha6, ha7, ha8, ha9, ha10, ha11, ha12, ha13, ha14, ha15, ha24, ha25, ha26, ha27, ha28, ha29⟩, hEv, hPt, hns, htp⟩ := id hM
  obtain ⟨-, hop, hai, hfa, hT, hT1⟩ := id hEv
  have hay1 : zAt ad (i) (ad i) := rfl
  have hay2 : zAt ad (i + 1) (ad (i + 1)) := rfl
  have hay3 : zAt ad (i + 2) (ad (i + 2)) := rfl
  have hay4 : zAt ad (i + 3) (ad (i + 3)) := rfl
  have hay5 : zAt ad (i + 4) (ad (i + 4)) := rfl
  have hay6 : zAt ad (i + 5) (ad (i + 5)) := rfl
  have hay7 : zAt ad (i + 6) (ad (i + 6)) := rfl
  have hay8 : zAt ad (i + 7) (ad (i + 7)) := rfl
  have hay9 : zAt ad (i + 8) (ad (i + 8)) := rfl
  have hay10 : zAt ad (i + 9) (ad (i + 9)) := rfl
  have hay11 : zAt ad (i + 10) (ad (i + 10)) := rfl
  have hay12 : zAt ad (i + 11) (ad (i + 11)) := rfl
  have hay13 : zAt ad (i + 12) (ad (i + 12)) := rfl
  have hay14 : zAt ad (i + 13) (ad (i + 13)) := rfl
  have hay15 : zAt ad (i + 14) (ad (i + 14)) := rfl
  have hay16 : zAt ad (i + 15) (ad (i + 15)) := rfl
  have hay17 : zAt ad (i + 24) (ad (i + 24)) := rfl
  have hay18 : zAt ad (i + 25) (ad (i + 25)) := rfl
  have hay19 : zAt ad (i + 26) (ad (i + 26)) := rfl
  have hay20 : zAt ad (i + 27) (ad (i + 27)) := rfl
  have hay21 : zAt ad (i + 28) (ad (i + 28)) := rfl
  have hay22 : zAt ad (i + 29) (ad (i + 29)) := rfl
  obtain ⟨⟨hsyy23, htyy23, hnyy23, hpyy23⟩, hlyy23⟩ := okA.at0 hA
  simp only [Nat.zero_add] at hsyy23 hnyy23 hpyy23
  have hmn : ∀ s, s < 4 → 0 ≤ r (6 + 86 * s) ∧ r (6 + 86 * s) ≤ 12 := fun s hs => (hsyy23 s hs).1
  have h5 : 0 ≤ r 5 ∧ r 5 ≤ 6 := hpyy23
  refine z_of (by decide) (Nat.le_of_ble_eq_true rfl) ?_
  intro pZ eZ sZ mZ below meth cZ C hr hlk hnm
  refine z_lv (lv' := [(0, .ref (ad i)), (1, .int (zI ((n0 : Int))))]) [0, 1] rfl ?_
  refine z_aload_n C 0 dX10_weakestName_0 rfl ?_
  refine z_get (v := .ref (ad (i + 12))) C (lt_A0 hN rfl) hay1 hg rfl inA_X10 11 (by decide) q_1470 rfl rfl dX10_weakestName_1 ?_
  refine z_bipush (z := 90) C dX10_weakestName_4 (by decide) ?_
  refine z_iload_n C 1 dX10_weakestName_6 rfl ?_
  refine z_imul C dX10_weakestName_7 ?_
  refine z_iald C (lt_A (c := 12) hN rfl) hay13 ha12 (90 * n0) (by omega) (by omega) (by decide) dX10_weakestName_8 ?_
  have hp0 := hPt n0 (by omega)
  obtain ⟨ny24, hny24⟩ : ∃ n9 : Nat, pi (90 * n0) = (n9 : Int) := ⟨(pi (90 * n0)).toNat, by omega⟩
  rw [hny24]
  refine z_istore_n (lv' := [(2, .int (zI ((ny24 : Int)))), (0, .ref (ad i)), (1, .int (zI ((n0 : Int))))]) C dX10_weakestName_9 rfl (by decide) rfl ?_
  refine z_aload_n C 1 dX10_weakestName_10 rfl ?_
  refine z_cV (As := []) (rest := []) (ci := 12) C (c_X10_tries l D A cs tt N ad _ i hN _ hg _ ha1 (x) hA) (lt_A0 hN rfl) hay1 hg rfl rfl mv_yX10_tries q_1980 hd_yX10_tries (by decide) (Nat.le_of_ble_eq_true rfl) (by decide) dX10_weakestName_11 rfl (kV0 fun gvy25 hvy25 => ?_)
  obtain ⟨⟨rvy25, hdvy25, hAvy25, hWvy25, h0vy25, hyvy25⟩, hfvy25⟩ := hvy25
  obtain ⟨⟨hsyy26, htyy26, hnyy26, hpyy26⟩, hlyy26⟩ := okA.at0 hAvy25
  simp only [Nat.zero_add] at hsyy26 hnyy26 hpyy26
  have hmn : ∀ s, s < 4 → 0 ≤ rvy25 (6 + 86 * s) ∧ rvy25 (6 + 86 * s) ≤ 12 := fun s hs => (hsyy26 s hs).1
  have h5 : 0 ≤ rvy25 5 ∧ rvy25 5 ≤ 6 := hpyy26
  refine z_aload_n C 1 dX10_weakestName_14 rfl ?_
  refine z_sipush (z := 350) C dX10_weakestName_15 (by decide) ?_
  refine z_iload_n C 0 dX10_weakestName_18 rfl ?_
  refine z_aload_n C 1 dX10_weakestName_19 rfl ?_
  refine z_iload_n C 2 dX10_weakestName_20 rfl ?_
  have hgy27 := (hfvy25 (i) (ne_o (i := i) (c := 0) (d := 1) rfl)).trans hg
  have hgy28 := (hfvy25 (i + 12) (ne_o (i := i) (c := 12) (d := 1) rfl)).trans ha12
  have hpkn0 := okPt.at hPt (k := n0) (by omega)
  refine z_cV (As := [.int (zI ((n0 : Int)))]) (rest := [.int (zI ((ny24 : Int))), .int (zI (350)), .ref (ad i)]) (ci := 12) C (c_X10_pitMany l D A cs tt N ad _ i hN _ hgy27 _ hgy28 hPt n0 (by omega)) (lt_A0 hN rfl) hay1 hgy27 rfl rfl mv_yX10_pitMany q_2031 hd_yX10_pitMany (by decide) (Nat.le_of_ble_eq_true rfl) (by decide) dX10_weakestName_21 rfl (kI0 fun vy29 gvy29 hvy29 => ?_)
  obtain ⟨rfl, rfl⟩ := hvy29
  obtain ⟨py30, hpy30⟩ : ∃ p9 : Nat, 350 + 6 + 86 * ny24 = p9 := ⟨_, rfl⟩
  refine z_cV (As := [.int (zI (350)), .int (zI ((ny24 : Int))), .int (zI (pi (90 * n0 + 2)))]) (rest := []) (ci := 12) C (c_X10_setsMany l D A cs tt N ad _ i hN _ hgy27 _ hdvy25 350 ny24 py30 hpy30 (by omega) (by omega) (pi (90 * n0 + 2))) (lt_A0 hN rfl) hay1 hgy27 rfl rfl mv_yX10_setsMany q_1717 hd_yX10_setsMany (by decide) (Nat.le_of_ble_eq_true rfl) (by decide) dX10_weakestName_24 rfl (kV0 fun gvy31 hvy31 => ?_)
  obtain ⟨hcvy31, hfvy31⟩ := hvy31
  obtain ⟨ry32, hvy33⟩ : ∃ rZ9 : Nat → Int, rZ9 = uZ rvy25 (py30) (pi (90 * n0 + 2)) := ⟨_, rfl⟩
  rw [← hvy33] at hcvy31
  refine z_iconst (z := 0) C dX10_weakestName_27 rfl ?_
  refine z_istore_n (lv' := [(3, .int (zI (0))), (2, .int (zI ((ny24 : Int)))), (0, .ref (ad i)), (1, .int (zI ((n0 : Int))))]) C dX10_weakestName_28 rfl (by decide) rfl ?_
  have hwy34 : ry32 (py30) = pi (90 * n0 + 2) := (congrFun hvy33 _).trans (uZ_s _ _ _)
  have hfry35 : ∀ j, j ≠ py30 → ry32 j = rvy25 j := fun j n0 => (congrFun hvy33 _).trans ((uZ_n _ _ n0).trans (rfl))
  have hAx : okA ry32 (x) := okA.tried hAvy25 (fun j a => hfry35 j (by omega))
  have lp : ∀ (n9 : Nat) (kk : Int) (r8 : Nat → Int) (g1 : Nat → va_E), (85 - kk).toNat = n9 → (g1 (i + 1) = iA cs 29200 r8) → (∀ j, j ≠ i + 1 → g1 j = gvy31 j) → (∀ j, j < 350 ∨ 700 ≤ j → r8 j = ry32 j) → (r8 py30 = pi (90 * n0 + 2)) → (∀ k : Nat, (k : Int) < kk → r8 (py30 + 2 + k) = pi (90 * n0 + 3 + k)) → (0 ≤ kk ∧ kk ≤ 84) → zV pZ l eZ ({ frames := 9, cells := 0, slots := 0, locals := 540 } : Room) sZ mZ ([.ref (ad i), .int (zI ((n0 : Int)))] : List Value).toArray below meth cZ (MQ below (zPost D A (rI0 N ad fun q g' => (-2147483648 ≤ q ∧ q ≤ 2147483647) ∧ (∃ F' r' : Nat → Int, okMr cs ad g' i x F' r' st op ai fa mu tb tp ∧ (∀ f, F' f = F f) ∧ (∀ j, j < 350 ∨ 700 ≤ j → r' j = r j)) ∧ ∀ j, j < i ∨ i + 30 ≤ j ∨ (i + 8 ≤ j ∧ j ≤ i + 12) → g' j = g j)) ([.ref (ad i), .int (zI ((n0 : Int)))] : List Value).toArray sZ ({ frames := 9, cells := 0, slots := 0, locals := 540 } : Room).cells ({ frames := 9, cells := 0, slots := 0, locals := 540 } : Room).slots A) D A 4 (N) ad g1 (0) (0) 29 [(0, .ref (ad i)), (1, .int (zI ((n0 : Int)))), (2, .int (zI ((ny24 : Int)))), (3, .int (zI (kk)))] [] := by
    intro n9
    induction n9 using Nat.strongRecOn with
    | ind n9 ih =>
      intro kk r8 g1 hm9 f2 f3w fA fp fk hv
      obtain ⟨nk, hnk⟩ : ∃ n9 : Nat, kk = (n9 : Int) := ⟨kk.toNat, by omega⟩
      obtain ⟨nj, hnj⟩ : ∃ n9 : Nat, py30 + 2 + nk = n9 := ⟨_, rfl⟩
      obtain ⟨np, hnp⟩ : ∃ n9 : Nat, 90 * n0 + 3 + nk = n9 := ⟨_, rfl⟩
      have hA8 : okA r8 (x) := okA.tried hAx (fun j a => fA j a)
      have fp0 := fp
      refine z_iload_n C 3 dX10_weakestName_29 rfl ?_
      refine z_bipush (z := 84) C dX10_weakestName_30 (by decide) ?_
      refine z_icmp_ge (tgt := 71) C dX10_weakestName_32 (by decide) (by omega) (by omega) (fun hby36 => ?_) (fun hby36 => ?_)
      · refine z_aload_n C 0 dX10_weakestName_71 rfl ?_
        refine z_sipush (z := 350) C dX10_weakestName_72 (by decide) ?_
        refine z_iload_n C 2 dX10_weakestName_75 rfl ?_
        have hgy37 := (hfvy31 (i) (ne_o (i := i) (c := 0) (d := 1) rfl)).trans hgy27
        have hgy38 := (f3w (i) (ne_o (i := i) (c := 0) (d := 1) rfl)).trans hgy37
        have hgy40 := (hfvy25 (i + 2) (ne_o (i := i) (c := 2) (d := 1) rfl)).trans ha2
        have hgy41 := (hfvy31 (i + 2) (ne_o (i := i) (c := 2) (d := 1) rfl)).trans hgy40
        have hgy42 := (f3w (i + 2) (ne_o (i := i) (c := 2) (d := 1) rfl)).trans hgy41
        have hgy43 := (hfvy25 (i + 7) (ne_o (i := i) (c := 7) (d := 1) rfl)).trans ha7
        have hgy44 := (hfvy31 (i + 7) (ne_o (i := i) (c := 7) (d := 1) rfl)).trans hgy43
        have hgy45 := (f3w (i + 7) (ne_o (i := i) (c := 7) (d := 1) rfl)).trans hgy44
        have hqy46 : qS r8 py30 := qS.ofPit (k := n0) (by omega) hPt fp (fun m hm => fk m (by omega))
        have hmky47 := hqy46.1
        refine z_cV (As := [.int (zI (350)), .int (zI ((ny24 : Int)))]) (rest := []) (ci := 12) C (c_X10_weakest l D A cs tt N ad _ i hN _ hgy38 _ f2 _ hgy42 _ hgy45 350 ny24 py30 hpy30 (by omega) (by omega) hqy46) (lt_A0 hN rfl) hay1 hgy38 rfl rfl mv_yX10_weakest q_1807 hd_yX10_weakest (by decide) (Nat.le_of_ble_eq_true rfl) (by decide) dX10_weakestName_76 rfl (kI0 fun vy39 gvy39 hvy39 => ?_)
        obtain ⟨hvy39, rfl⟩ := hvy39
        refine z_istore_n (lv' := [(3, .int (zI (vy39))), (0, .ref (ad i)), (1, .int (zI ((n0 : Int)))), (2, .int (zI ((ny24 : Int))))]) C dX10_weakestName_79 rfl (by decide) rfl ?_
        refine z_iload_n C 0 dX10_weakestName_80 rfl ?_
        refine z_iconst (z := -1) C dX10_weakestName_81 rfl ?_
        refine z_icmp_ne (tgt := 89) C dX10_weakestName_82 (by decide) (by omega) (by omega) (fun hby48 => ?_) (fun hby48 => ?_)
        · refine z_aload_n C 1 dX10_weakestName_89 rfl ?_
          refine z_iload_n C 2 dX10_weakestName_90 rfl ?_
          refine z_iload_n C 0 dX10_weakestName_91 rfl ?_
          refine z_bipush (z := 6) C dX10_weakestName_92 (by decide) ?_
          have hgy49 := (hfvy31 (i + 12) (ne_o (i := i) (c := 12) (d := 1) rfl)).trans hgy28
          have hgy50 := (f3w (i + 12) (ne_o (i := i) (c := 12) (d := 1) rfl)).trans hgy49
          refine z_cV (As := [.int (zI ((n0 : Int))), .int (zI (vy39)), .int (zI (6))]) (rest := []) (ci := 12) C (c_X10_inPit l D A cs tt N ad _ i hN _ hgy38 _ hgy50 hPt n0 (by omega) (vy39) (by omega) (6) (by omega)) (lt_A0 hN rfl) hay1 hgy38 rfl rfl mv_yX10_inPit q_2043 hd_yX10_inPit (by decide) (Nat.le_of_ble_eq_true rfl) (by decide) dX10_weakestName_94 rfl (kI0 fun vy51 gvy51 hvy51 => ?_)
          obtain ⟨hvy51, rfl⟩ := hvy51
          obtain ⟨xy52, exy53, hxy54⟩ := zI_of (zI (vy51))
          rw [exy53]
          have hMy55 : okMr cs ad g1 i (x) F r8 st op ai fa mu tb tp := okMr.upd hM hgy38 hM.2.1 (fun f _ => rfl) f2 (hA8.mono (by omega)) (fun j a b => by
              exact Or.inl (by rw [f3w _ (by omega)]; rw [hfvy31 _ (by omega)]; rw [hfvy25 _ (by omega)]))
          exact z_iret C hr hlk dX10_weakestName_97 (by decide) (by decide) ⟨xy52, rfl, rfl, rfl, by omega, ⟨_, _, hMy55, fun f  => rfl, (fun j a9 => (fA j a9).trans ((fun j a9 => (hfry35 j (by omega)).trans ((fun j a9 => (hyvy25 j a9).trans ((fun j _ => rfl) j a9)) j a9)) j a9))⟩, fun j j1 => by rw [f3w _ (by omega)]; rw [hfvy31 _ (by omega)]; rw [hfvy25 _ (by omega)]⟩
        · refine z_iconst (z := -1) C dX10_weakestName_85 rfl ?_
          refine z_goto (tgt := 97) C dX10_weakestName_86 (by decide) ?_
          have hMy56 : okMr cs ad g1 i (x) F r8 st op ai fa mu tb tp := okMr.upd hM hgy38 hM.2.1 (fun f _ => rfl) f2 (hA8.mono (by omega)) (fun j a b => by
              exact Or.inl (by rw [f3w _ (by omega)]; rw [hfvy31 _ (by omega)]; rw [hfvy25 _ (by omega)]))
          exact z_iret C hr hlk dX10_weakestName_97 (by decide) (by decide) ⟨-1, rfl, rfl, rfl, by omega, ⟨_, _, hMy56, fun f  => rfl, (fun j a9 => (fA j a9).trans ((fun j a9 => (hfry35 j (by omega)).trans ((fun j a9 => (hyvy25 j a9).trans ((fun j _ => rfl) j a9)) j a9)) j a9))⟩, fun j j1 => by rw [f3w _ (by omega)]; rw [hfvy31 _ (by omega)]; rw [hfvy25 _ (by omega)]⟩
      · refine z_aload_n C 0 dX10_weakestName_35 rfl ?_
        have hgy57 := (hfvy31 (i) (ne_o (i := i) (c := 0) (d := 1) rfl)).trans hgy27
        have hgy58 := (f3w (i) (ne_o (i := i) (c := 0) (d := 1) rfl)).trans hgy57
        refine z_get (v := .ref (ad (i + 1))) C (lt_A0 hN rfl) hay1 hgy58 rfl inA_X10 0 (by decide) q_1459 rfl rfl dX10_weakestName_36 ?_
        refine z_sipush (z := 356) C dX10_weakestName_39 (by decide) ?_
        refine z_bipush (z := 86) C dX10_weakestName_42 (by decide) ?_
        refine z_iload_n C 2 dX10_weakestName_44 rfl ?_
        refine z_imul C dX10_weakestName_45 ?_
        refine z_iadd C dX10_weakestName_46 ?_
        refine z_iconst (z := 2) C dX10_weakestName_47 rfl ?_
        refine z_iadd C dX10_weakestName_48 ?_
        refine z_iload_n C 3 dX10_weakestName_49 rfl ?_
        refine z_iadd C dX10_weakestName_50 ?_
        refine z_aload_n C 0 dX10_weakestName_51 rfl ?_
        refine z_get (v := .ref (ad (i + 12))) C (lt_A0 hN rfl) hay1 hgy58 rfl inA_X10 11 (by decide) q_1470 rfl rfl dX10_weakestName_52 ?_
        refine z_bipush (z := 90) C dX10_weakestName_55 (by decide) ?_
        refine z_iload_n C 1 dX10_weakestName_57 rfl ?_
        refine z_imul C dX10_weakestName_58 ?_
        refine z_iconst (z := 3) C dX10_weakestName_59 rfl ?_
        refine z_iadd C dX10_weakestName_60 ?_
        refine z_iload_n C 3 dX10_weakestName_61 rfl ?_
        refine z_iadd C dX10_weakestName_62 ?_
        have hgy59 := (hfvy31 (i + 12) (ne_o (i := i) (c := 12) (d := 1) rfl)).trans hgy28
        have hgy60 := (f3w (i + 12) (ne_o (i := i) (c := 12) (d := 1) rfl)).trans hgy59
        refine z_iald C (lt_A (c := 12) hN rfl) hay13 hgy60 (np) (by omega) (by omega) (by decide) dX10_weakestName_63 ?_
        refine z_iast C (lt_A (c := 1) hN rfl) hay2 f2 (nj) (by omega) (by omega) (by decide) dX10_weakestName_64 (fun gy61 egy62 => ?_)
        have hgy63 := up_s egy62
        obtain ⟨ry64, hvy65⟩ : ∃ rZ9 : Nat → Int, rZ9 = uZ r8 (nj) (pi (np)) := ⟨_, rfl⟩
        rw [← hvy65] at hgy63
        refine z_iinc (z := kk + 1) (lv' := [(3, .int (zI (kk + 1))), (0, .ref (ad i)), (1, .int (zI ((n0 : Int)))), (2, .int (zI ((ny24 : Int))))]) (j := 3) C dX10_weakestName_65 rfl rfl (by decide) rfl ?_
        refine z_goto (tgt := 29) C dX10_weakestName_68 (by decide) ?_
        have hfry66 : ∀ j, j ≠ nj → ry64 j = r8 j := fun j n0 => (congrFun hvy65 _).trans ((uZ_n _ _ n0).trans (rfl))
        have hwy67 : ry64 (nj) = pi (np) := (congrFun hvy65 _).trans (uZ_s _ _ _)
        refine z_lv (lv' := [(0, .ref (ad i)), (1, .int (zI ((n0 : Int)))), (2, .int (zI ((ny24 : Int)))), (3, .int (zI (kk + 1)))]) [1, 2, 3, 0] rfl ?_
        exact ih _ (by omega) (kk + 1) ry64 gy61 rfl hgy63 (fun j j1 => by rw [egy62, va_up_ne _ _ (by omega)]; exact f3w j j1) (fun j a => (hfry66 j (by omega)).trans (fA j a)) ((hfry66 py30 (by omega)).trans fp) (fun k a => by
            by_cases e : k = nk
            · subst e; rw [show py30 + 2 + k = nj by omega, show 90 * n0 + 3 + k = np by omega]; omega
            · rw [hfry66 (py30 + 2 + k) (by omega)]; exact fk k (by omega)) (by omega)
  refine z_lv (lv' := [(0, .ref (ad i)), (1, .int (zI ((n0 : Int)))), (2, .int (zI ((ny24 : Int)))), (3, .int (zI (0)))]) [2, 3, 1, 0] rfl ?_
  exact lp _ 0 ry32 gvy31 rfl hcvy31 (fun j _ => rfl) (fun j _ => rfl) (by omega) (fun k a => absurd a (by omega)) (by omega)

set_option maxRecDepth 100000 in
set_option maxHeartbeats 4000000 in
theorem c_X10_compare_aa (l : Launch) (D : va_G) (A : Nat → Prop) (cs : Nat → ClassId) (tt : Nat) (N : Nat) (ad : Nat → Nat) (g : Nat → va_E) (i : Nat) (hN : i + 30 ≤ N) (x : Int) (hx : 0 ≤ x ∧ x ≤ 512) (F r : Nat → Int) {st op ai fa mu tb tp : Nat → Int} (hM : okMr cs ad g i x F r st op ai fa mu tb tp) (hPl : F 25 = 0 ∧ F 26 = -1 ∧ F 27 = -1 ∧ F 29 = 0) (n0 : Nat) (hn0 : n0 < 6) (n1 : Nat) (hn1 : n1 < 6) (z2 : Int) (hz2 : -2147483648 ≤ z2 ∧ z2 ≤ 2147483647) : zM l yX10_compare cX10_compare 4 (some .int) ({ frames := 10, cells := 0, slots := 0, locals := 600 } : Room) D A cs tt N ad g [.ref (ad i), .int (zI ((n0 : Int))), .int (zI ((n1 : Int))), .int (zI (z2))] (rI0 N ad fun q g' => (-2147483648 ≤ q ∧ q ≤ 2147483647) ∧ (∃ F' r' : Nat → Int, okMr cs ad g' i (x + 1) F' r' st op ai fa mu tb tp ∧ (F' 13 = F 13 ∧ F' 14 = F 14 ∧ F' 15 = F 15 ∧ F' 16 = F 16 ∧ F' 17 = F 17 ∧ F' 18 = F 18 ∧ F' 19 = F 19 ∧ F' 20 = F 20 ∧ F' 21 = F 21 ∧ F' 23 = F 23 ∧ F' 24 = F 24) ∧ (F' 25 = 0 ∧ F' 26 = -1 ∧ F' 27 = -1 ∧ F' 29 = 0) ∧ (∀ j, j < 350 ∨ 700 ≤ j → r' j = r j)) ∧ ∀ j, j < i ∨ i + 30 ≤ j ∨ (i + 8 ≤ j ∧ j ≤ i + 12) → g' j = g j) := by
  obtain ⟨hg, ⟨⟨e13, e14, e25, e27, e29⟩, k15, k16, k17, k18, k19, k20, k23, k21⟩, hRD, hTx, hA, ns, nh, nd, rf, pi, te, ki, li, ok1, ok2, fo, dd, dps, ⟨ha1, ha2, ha3, ha4, ha5, ha6, ha7, ha8, ha9, ha10, ha11, ha12, ha13, ha14, ha15, ha24, ha25, ha26, ha27, ha28, ha29⟩, hEv, hPt, hns, htp⟩ := id hM
  obtain ⟨-, hop, hai, hfa, hT, hT1⟩ := id hEv
  have hay1 : zAt ad (i) (ad i) := rfl
  have hay2 : zAt ad (i + 1) (ad (i + 1)) := rfl
  have hay3 : zAt ad (i + 2) (ad (i + 2)) := rfl
  have hay4 : zAt ad (i + 3) (ad (i + 3)) := rfl
  have hay5 : zAt ad (i + 4) (ad (i + 4)) := rfl
  have hay6 : zAt ad (i + 5) (ad (i + 5)) := rfl
  have hay7 : zAt ad (i + 6) (ad (i + 6)) := rfl
  have hay8 : zAt ad (i + 7) (ad (i + 7)) := rfl
  have hay9 : zAt ad (i + 8) (ad (i + 8)) := rfl
  have hay10 : zAt ad (i + 9) (ad (i + 9)) := rfl
  have hay11 : zAt ad (i + 10) (ad (i + 10)) := rfl
  have hay12 : zAt ad (i + 11) (ad (i + 11)) := rfl
  have hay13 : zAt ad (i + 12) (ad (i + 12)) := rfl
  have hay14 : zAt ad (i + 13) (ad (i + 13)) := rfl
  have hay15 : zAt ad (i + 14) (ad (i + 14)) := rfl
  have hay16 : zAt ad (i + 15) (ad (i + 15)) := rfl
  have hay17 : zAt ad (i + 24) (ad (i + 24)) := rfl
  have hay18 : zAt ad (i + 25) (ad (i + 25)) := rfl
  have hay19 : zAt ad (i + 26) (ad (i + 26)) := rfl
  have hay20 : zAt ad (i + 27) (ad (i + 27)) := rfl
  have hay21 : zAt ad (i + 28) (ad (i + 28)) := rfl
  have hay22 : zAt ad (i + 29) (ad (i + 29)) := rfl
  obtain ⟨⟨hsyy23, htyy23, hnyy23, hpyy23⟩, hlyy23⟩ := okA.at0 hA
  simp only [Nat.zero_add] at hsyy23 hnyy23 hpyy23
  have hmn : ∀ s, s < 4 → 0 ≤ r (6 + 86 * s) ∧ r (6 + 86 * s) ≤ 12 := fun s hs => (hsyy23 s hs).1
  have h5 : 0 ≤ r 5 ∧ r 5 ≤ 6 := hpyy23
  obtain ⟨hp25, hp26, hp27, hp29⟩ := id hPl
  refine z_of (by decide) (Nat.le_of_ble_eq_true rfl) ?_
  intro pZ eZ sZ mZ below meth cZ C hr hlk hnm
  refine z_lv (lv' := [(0, .ref (ad i)), (1, .int (zI ((n0 : Int)))), (2, .int (zI ((n1 : Int)))), (3, .int (zI (z2)))]) [0, 1, 2, 3] rfl ?_
  refine z_aload_n C 0 dX10_compare_0 rfl ?_
  refine z_iconst (z := 0) C dX10_compare_1 rfl ?_
  refine z_put (fs' := mF ad (i) (uZ F 12 (0))) C (lt_A0 hN rfl) hay1 hg tyX10 tyX10_ok nmX10 rfl inA_X10 12 (by decide) q_1471 rfl rfl rfl rfl (Nat.le_of_ble_eq_true rfl) rfl dX10_compare_2 (fun gy24 egy25 => ?_)
  have hgy26 := up_s egy25
  refine z_aload_n C 0 dX10_compare_5 rfl ?_
  refine z_iload_n C 1 dX10_compare_6 rfl ?_
  have hgy27 := up_n egy25 ha1 (ne_o (i := i) (c := 1) (d := 0) rfl)
  have hey29 : (uZ F 12 (0)) 12 = 0 := (uZ_s _ _ _)
  refine z_cV (As := [.int (zI ((n0 : Int)))]) (rest := []) (ci := 12) C (c_X10_isPit l D A cs tt N ad _ i hN _ hgy26 _ hgy27 (by omega) h5 ((n0 : Int)) (by omega)) (lt_A0 hN rfl) hay1 hgy26 rfl rfl mv_yX10_isPit q_2027 hd_yX10_isPit (by decide) (Nat.le_of_ble_eq_true rfl) (by decide) dX10_compare_7 rfl (kI0 fun vy28 gvy28 hvy28 => ?_)
  obtain ⟨hrvy28, ⟨Fvy28, hcvy28, htvy28, hFvy28⟩, hfvy28⟩ := hvy28
  rcases (show vy28 = 1 ∨ vy28 = 0 by omega) with rfl | rfl
  · have hxvy28 := hrvy28.2 rfl
    refine z_if_eq (tgt := 35) C dX10_compare_10 (by decide) (by omega) (fun h => absurd h (by omega)) (fun _ => ?_)
    refine z_aload_n C 0 dX10_compare_13 rfl ?_
    refine z_iload_n C 2 dX10_compare_14 rfl ?_
    have hgy30 := (hfvy28 (i + 1) (ne_o (i := i) (c := 1) (d := 0) rfl)).trans hgy27
    have hey32 : Fvy28 12 = Fvy28 12 := rfl
    refine z_cV (As := [.int (zI ((n1 : Int)))]) (rest := []) (ci := 12) C (c_X10_isPit l D A cs tt N ad _ i hN _ hcvy28 _ hgy30 (by omega) h5 ((n1 : Int)) (by omega)) (lt_A0 hN rfl) hay1 hcvy28 rfl rfl mv_yX10_isPit q_2027 hd_yX10_isPit (by decide) (Nat.le_of_ble_eq_true rfl) (by decide) dX10_compare_15 rfl (kI0 fun vy31 gvy31 hvy31 => ?_)
    obtain ⟨hrvy31, ⟨Fvy31, hcvy31, htvy31, hFvy31⟩, hfvy31⟩ := hvy31
    rcases (show vy31 = 1 ∨ vy31 = 0 by omega) with rfl | rfl
    · have hxvy31 := hrvy31.2 rfl
      refine z_if_eq (tgt := 35) C dX10_compare_18 (by decide) (by omega) (fun h => absurd h (by omega)) (fun _ => ?_)
      refine z_aload_n C 0 dX10_compare_21 rfl ?_
      refine z_iload_n C 3 dX10_compare_22 rfl ?_
      refine z_iconst (z := 0) C dX10_compare_23 rfl ?_
      refine z_iconst (z := 3) C dX10_compare_24 rfl ?_
      refine z_cS (As := [.int (zI (z2)), .int (zI (0)), .int (zI (3))]) (rest := [.ref (ad i)]) C (c_X10_within l D A cs tt N ad _ (z2) (by omega) (0) (by omega) (3) (by omega)) ms_yX10_within q_1686 hd_yX10_within (by decide) (Nat.le_of_ble_eq_true rfl) (by decide) dX10_compare_25 rfl (kI0 fun vy33 gvy33 hvy33 => ?_)
      obtain ⟨hvy33, rfl⟩ := hvy33
      rcases hvy33 with ⟨rfl, hxvy33⟩ | ⟨rfl, hxvy33⟩
      · refine z_iconst (z := 1) C dX10_compare_28 rfl ?_
        have hey35 : Fvy31 12 = Fvy31 12 := rfl
        refine z_cV (As := [.int (zI (1)), .int (zI (1))]) (rest := []) (ci := 12) C (c_X10_right l D A cs tt N ad _ i hN _ hcvy31 (by omega) (1) (by omega) (1) (by omega)) (lt_A0 hN rfl) hay1 hcvy31 rfl rfl mv_yX10_right q_1648 hd_yX10_right (by decide) (Nat.le_of_ble_eq_true rfl) (by decide) dX10_compare_29 rfl (kI0 fun vy34 gvy34 hvy34 => ?_)
        obtain ⟨hrvy34, ⟨Fvy34, hcvy34, htvy34, hFvy34⟩, hfvy34⟩ := hvy34
        rcases (show vy34 = 1 ∨ vy34 = 0 by omega) with rfl | rfl
        · refine z_if_ne (tgt := 37) C dX10_compare_32 (by decide) (by omega) (fun _ => ?_) (fun h => absurd h (by omega))
          refine z_iload_n C 3 dX10_compare_37 rfl ?_
          refine z_if_ne (tgt := 48) C dX10_compare_38 (by decide) (by omega) (fun hby36 => ?_) (fun hby36 => ?_)
          · refine z_iload_n C 3 dX10_compare_48 rfl ?_
            refine z_iconst (z := 3) C dX10_compare_49 rfl ?_
            refine z_icmp_ne (tgt := 81) C dX10_compare_50 (by decide) (by omega) (by omega) (fun hby37 => ?_) (fun hby37 => ?_)
            · refine z_aload_n C 0 dX10_compare_81 rfl ?_
              refine z_aload_n C 0 dX10_compare_82 rfl ?_
              refine z_iload_n C 1 dX10_compare_83 rfl ?_
              have hgy38 := up_n egy25 ha12 (ne_o (i := i) (c := 12) (d := 0) rfl)
              have hgy39 := (hfvy28 (i + 12) (ne_o (i := i) (c := 12) (d := 0) rfl)).trans hgy38
              have hgy40 := (hfvy31 (i + 12) (ne_o (i := i) (c := 12) (d := 0) rfl)).trans hgy39
              have hgy41 := (hfvy34 (i + 12) (ne_o (i := i) (c := 12) (d := 0) rfl)).trans hgy40
              have hpkn0 := okPt.at hPt (k := n0) (by omega)
              refine z_cV (As := [.int (zI ((n0 : Int)))]) (rest := [.ref (ad i)]) (ci := 12) C (c_X10_pitMany l D A cs tt N ad _ i hN _ hcvy34 _ hgy41 hPt n0 (by omega)) (lt_A0 hN rfl) hay1 hcvy34 rfl rfl mv_yX10_pitMany q_2031 hd_yX10_pitMany (by decide) (Nat.le_of_ble_eq_true rfl) (by decide) dX10_compare_84 rfl (kI0 fun vy42 gvy42 hvy42 => ?_)
              obtain ⟨rfl, rfl⟩ := hvy42
              refine z_put (fs' := mF ad (i) (uZ Fvy34 55 (pi (90 * n0 + 2)))) C (lt_A0 hN rfl) hay1 hcvy34 tyX10 tyX10_ok nmX10 rfl inA_X10 55 (by decide) q_1514 rfl rfl rfl rfl (Nat.le_of_ble_eq_true rfl) rfl dX10_compare_87 (fun gy43 egy44 => ?_)
              have hgy45 := up_s egy44
              refine z_aload_n C 0 dX10_compare_90 rfl ?_
              refine z_aload_n C 0 dX10_compare_91 rfl ?_
              refine z_iload_n C 2 dX10_compare_92 rfl ?_
              have hgy46 := up_n egy44 hgy41 (ne_o (i := i) (c := 12) (d := 0) rfl)
              have hpkn1 := okPt.at hPt (k := n1) (by omega)
              refine z_cV (As := [.int (zI ((n1 : Int)))]) (rest := [.ref (ad i)]) (ci := 12) C (c_X10_pitMany l D A cs tt N ad _ i hN _ hgy45 _ hgy46 hPt n1 (by omega)) (lt_A0 hN rfl) hay1 hgy45 rfl rfl mv_yX10_pitMany q_2031 hd_yX10_pitMany (by decide) (Nat.le_of_ble_eq_true rfl) (by decide) dX10_compare_93 rfl (kI0 fun vy47 gvy47 hvy47 => ?_)
              obtain ⟨rfl, rfl⟩ := hvy47
              refine z_put (fs' := mF ad (i) (uZ (uZ Fvy34 55 (pi (90 * n0 + 2))) 56 (pi (90 * n1 + 2)))) C (lt_A0 hN rfl) hay1 hgy45 tyX10 tyX10_ok nmX10 rfl inA_X10 56 (by decide) q_1515 rfl rfl rfl rfl (Nat.le_of_ble_eq_true rfl) rfl dX10_compare_96 (fun gy48 egy49 => ?_)
              have hgy50 := up_s egy49
              refine z_aload_n C 0 dX10_compare_99 rfl ?_
              refine z_iload_n C 1 dX10_compare_100 rfl ?_
              refine z_aload_n C 0 dX10_compare_101 rfl ?_
              refine z_get (v := .ref (ad (i + 25))) C (lt_A0 hN rfl) hay1 hgy50 rfl inA_X10 52 (by decide) q_1511 rfl rfl dX10_compare_102 ?_
              have hgy51 := up_n egy49 hgy46 (ne_o (i := i) (c := 12) (d := 0) rfl)
              have hgy52 := up_n egy25 ha25 (ne_o (i := i) (c := 25) (d := 0) rfl)
              have hgy53 := (hfvy28 (i + 25) (ne_o (i := i) (c := 25) (d := 0) rfl)).trans hgy52
              have hgy54 := (hfvy31 (i + 25) (ne_o (i := i) (c := 25) (d := 0) rfl)).trans hgy53
              have hgy55 := (hfvy34 (i + 25) (ne_o (i := i) (c := 25) (d := 0) rfl)).trans hgy54
              have hgy56 := up_n egy44 hgy55 (ne_o (i := i) (c := 25) (d := 0) rfl)
              have hgy57 := up_n egy49 hgy56 (ne_o (i := i) (c := 25) (d := 0) rfl)
              refine z_cV (As := [.int (zI ((n0 : Int))), .ref (ad (i + 25))]) (rest := []) (ci := 12) C (c_X10_laysPit25 l D A cs tt N ad _ i hN _ hgy50 _ hgy51 hPt _ hgy57 n0 (by omega)) (lt_A0 hN rfl) hay1 hgy50 rfl rfl mv_yX10_laysPit q_2051 hd_yX10_laysPit (by decide) (Nat.le_of_ble_eq_true rfl) (by decide) dX10_compare_105 rfl (kV0 fun gvy58 hvy58 => ?_)
              obtain ⟨⟨tvy58, hdvy58⟩, hfvy58⟩ := hvy58
              refine z_aload_n C 0 dX10_compare_108 rfl ?_
              refine z_iload_n C 2 dX10_compare_109 rfl ?_
              refine z_aload_n C 0 dX10_compare_110 rfl ?_
              have hgy59 := (hfvy58 (i) (ne_o (i := i) (c := 0) (d := 25) rfl)).trans hgy50
              refine z_get (v := .ref (ad (i + 26))) C (lt_A0 hN rfl) hay1 hgy59 rfl inA_X10 53 (by decide) q_1512 rfl rfl dX10_compare_111 ?_
              have hgy60 := (hfvy58 (i + 12) (ne_o (i := i) (c := 12) (d := 25) rfl)).trans hgy51
              have hgy61 := up_n egy25 ha26 (ne_o (i := i) (c := 26) (d := 0) rfl)
              have hgy62 := (hfvy28 (i + 26) (ne_o (i := i) (c := 26) (d := 0) rfl)).trans hgy61
              have hgy63 := (hfvy31 (i + 26) (ne_o (i := i) (c := 26) (d := 0) rfl)).trans hgy62
              have hgy64 := (hfvy34 (i + 26) (ne_o (i := i) (c := 26) (d := 0) rfl)).trans hgy63
              have hgy65 := up_n egy44 hgy64 (ne_o (i := i) (c := 26) (d := 0) rfl)
              have hgy66 := up_n egy49 hgy65 (ne_o (i := i) (c := 26) (d := 0) rfl)
              have hgy67 := (hfvy58 (i + 26) (ne_o (i := i) (c := 26) (d := 25) rfl)).trans hgy66
              refine z_cV (As := [.int (zI ((n1 : Int))), .ref (ad (i + 26))]) (rest := []) (ci := 12) C (c_X10_laysPit26 l D A cs tt N ad _ i hN _ hgy59 _ hgy60 hPt _ hgy67 n1 (by omega)) (lt_A0 hN rfl) hay1 hgy59 rfl rfl mv_yX10_laysPit q_2051 hd_yX10_laysPit (by decide) (Nat.le_of_ble_eq_true rfl) (by decide) dX10_compare_114 rfl (kV0 fun gvy68 hvy68 => ?_)
              obtain ⟨⟨tvy68, hdvy68⟩, hfvy68⟩ := hvy68
              refine z_aload_n C 0 dX10_compare_117 rfl ?_
              refine z_iload_n C 3 dX10_compare_118 rfl ?_
              refine z_iconst (z := 1) C dX10_compare_119 rfl ?_
              refine z_icmp_ne (tgt := 127) C dX10_compare_120 (by decide) (by omega) (by omega) (fun hby69 => ?_) (fun hby69 => ?_)
              · refine z_iconst (z := 0) C dX10_compare_127 rfl ?_
                have hgy70 := (hfvy68 (i) (ne_o (i := i) (c := 0) (d := 26) rfl)).trans hgy59
                have hey72 : (uZ (uZ Fvy34 55 (pi (90 * n0 + 2))) 56 (pi (90 * n1 + 2))) 55 = pi (90 * n0 + 2) := (fn (uZ_s _ _ _) (by decide))
                have hey73 : (uZ (uZ Fvy34 55 (pi (90 * n0 + 2))) 56 (pi (90 * n1 + 2))) 56 = pi (90 * n1 + 2) := (uZ_s _ _ _)
                have hgy74 := (hfvy68 (i + 25) (ne_o (i := i) (c := 25) (d := 26) rfl)).trans hdvy58
                have hgy75 := up_n egy25 ha27 (ne_o (i := i) (c := 27) (d := 0) rfl)
                have hgy76 := (hfvy28 (i + 27) (ne_o (i := i) (c := 27) (d := 0) rfl)).trans hgy75
                have hgy77 := (hfvy31 (i + 27) (ne_o (i := i) (c := 27) (d := 0) rfl)).trans hgy76
                have hgy78 := (hfvy34 (i + 27) (ne_o (i := i) (c := 27) (d := 0) rfl)).trans hgy77
                have hgy79 := up_n egy44 hgy78 (ne_o (i := i) (c := 27) (d := 0) rfl)
                have hgy80 := up_n egy49 hgy79 (ne_o (i := i) (c := 27) (d := 0) rfl)
                have hgy81 := (hfvy58 (i + 27) (ne_o (i := i) (c := 27) (d := 25) rfl)).trans hgy80
                have hgy82 := (hfvy68 (i + 27) (ne_o (i := i) (c := 27) (d := 26) rfl)).trans hgy81
                refine z_cV (As := [.int (zI (0))]) (rest := []) (ci := 12) C (c_X10_folds l D A cs tt N ad _ i hN _ hgy70 _ hgy74 _ hdvy68 _ hgy82 (by omega) (by omega) (0) (by omega)) (lt_A0 hN rfl) hay1 hgy70 rfl rfl mv_yX10_folds q_2055 hd_yX10_folds (by decide) (Nat.le_of_ble_eq_true rfl) (by decide) dX10_compare_128 rfl (kI0 fun vy71 gvy71 hvy71 => ?_)
                obtain ⟨hrvy71, ⟨tvy71, hdvy71⟩, hfvy71⟩ := hvy71
                have hgy83 := (hfvy71 (i) (ne_o (i := i) (c := 0) (d := 27) rfl)).trans hgy70
                have hgy84 := (hfvy31 (i + 1) (ne_o (i := i) (c := 1) (d := 0) rfl)).trans hgy30
                have hgy85 := (hfvy34 (i + 1) (ne_o (i := i) (c := 1) (d := 0) rfl)).trans hgy84
                have hgy86 := up_n egy44 hgy85 (ne_o (i := i) (c := 1) (d := 0) rfl)
                have hgy87 := up_n egy49 hgy86 (ne_o (i := i) (c := 1) (d := 0) rfl)
                have hgy88 := (hfvy58 (i + 1) (ne_o (i := i) (c := 1) (d := 25) rfl)).trans hgy87
                have hgy89 := (hfvy68 (i + 1) (ne_o (i := i) (c := 1) (d := 26) rfl)).trans hgy88
                have hgy90 := (hfvy71 (i + 1) (ne_o (i := i) (c := 1) (d := 27) rfl)).trans hgy89
                have hFy91 : ∀ f, f ≠ 12 → f ≠ 55 → f ≠ 56 → (uZ (uZ Fvy34 55 (pi (90 * n0 + 2))) 56 (pi (90 * n1 + 2))) f = F f := fun f n12 n55 n56 => ((uZ_n _ _ n56).trans ((uZ_n _ _ n55).trans ((hFvy34 f n12).trans ((hFvy31 f n12).trans ((hFvy28 f n12).trans ((uZ_n _ _ n12).trans rfl))))))
                have hey92 : (uZ (uZ Fvy34 55 (pi (90 * n0 + 2))) 56 (pi (90 * n1 + 2))) 13 = F 13 := (fn (fn ((hFvy34 13 (by decide)).trans ((hFvy31 13 (by decide)).trans ((hFvy28 13 (by decide)).trans (fn rfl (by decide))))) (by decide)) (by decide))
                have hey93 : (uZ (uZ Fvy34 55 (pi (90 * n0 + 2))) 56 (pi (90 * n1 + 2))) 14 = F 14 := (fn (fn ((hFvy34 14 (by decide)).trans ((hFvy31 14 (by decide)).trans ((hFvy28 14 (by decide)).trans (fn rfl (by decide))))) (by decide)) (by decide))
                have hey94 : (uZ (uZ Fvy34 55 (pi (90 * n0 + 2))) 56 (pi (90 * n1 + 2))) 15 = F 15 := (fn (fn ((hFvy34 15 (by decide)).trans ((hFvy31 15 (by decide)).trans ((hFvy28 15 (by decide)).trans (fn rfl (by decide))))) (by decide)) (by decide))
                have hey95 : (uZ (uZ Fvy34 55 (pi (90 * n0 + 2))) 56 (pi (90 * n1 + 2))) 16 = F 16 := (fn (fn ((hFvy34 16 (by decide)).trans ((hFvy31 16 (by decide)).trans ((hFvy28 16 (by decide)).trans (fn rfl (by decide))))) (by decide)) (by decide))
                have hey96 : (uZ (uZ Fvy34 55 (pi (90 * n0 + 2))) 56 (pi (90 * n1 + 2))) 17 = F 17 := (fn (fn ((hFvy34 17 (by decide)).trans ((hFvy31 17 (by decide)).trans ((hFvy28 17 (by decide)).trans (fn rfl (by decide))))) (by decide)) (by decide))
                have hey97 : (uZ (uZ Fvy34 55 (pi (90 * n0 + 2))) 56 (pi (90 * n1 + 2))) 18 = F 18 := (fn (fn ((hFvy34 18 (by decide)).trans ((hFvy31 18 (by decide)).trans ((hFvy28 18 (by decide)).trans (fn rfl (by decide))))) (by decide)) (by decide))
                have hey98 : (uZ (uZ Fvy34 55 (pi (90 * n0 + 2))) 56 (pi (90 * n1 + 2))) 19 = F 19 := (fn (fn ((hFvy34 19 (by decide)).trans ((hFvy31 19 (by decide)).trans ((hFvy28 19 (by decide)).trans (fn rfl (by decide))))) (by decide)) (by decide))
                have hey99 : (uZ (uZ Fvy34 55 (pi (90 * n0 + 2))) 56 (pi (90 * n1 + 2))) 20 = F 20 := (fn (fn ((hFvy34 20 (by decide)).trans ((hFvy31 20 (by decide)).trans ((hFvy28 20 (by decide)).trans (fn rfl (by decide))))) (by decide)) (by decide))
                have hey100 : (uZ (uZ Fvy34 55 (pi (90 * n0 + 2))) 56 (pi (90 * n1 + 2))) 21 = F 21 := (fn (fn ((hFvy34 21 (by decide)).trans ((hFvy31 21 (by decide)).trans ((hFvy28 21 (by decide)).trans (fn rfl (by decide))))) (by decide)) (by decide))
                have hey101 : (uZ (uZ Fvy34 55 (pi (90 * n0 + 2))) 56 (pi (90 * n1 + 2))) 23 = F 23 := (fn (fn ((hFvy34 23 (by decide)).trans ((hFvy31 23 (by decide)).trans ((hFvy28 23 (by decide)).trans (fn rfl (by decide))))) (by decide)) (by decide))
                have hey102 : (uZ (uZ Fvy34 55 (pi (90 * n0 + 2))) 56 (pi (90 * n1 + 2))) 25 = F 25 := (fn (fn ((hFvy34 25 (by decide)).trans ((hFvy31 25 (by decide)).trans ((hFvy28 25 (by decide)).trans (fn rfl (by decide))))) (by decide)) (by decide))
                have hey103 : (uZ (uZ Fvy34 55 (pi (90 * n0 + 2))) 56 (pi (90 * n1 + 2))) 27 = F 27 := (fn (fn ((hFvy34 27 (by decide)).trans ((hFvy31 27 (by decide)).trans ((hFvy28 27 (by decide)).trans (fn rfl (by decide))))) (by decide)) (by decide))
                have hey104 : (uZ (uZ Fvy34 55 (pi (90 * n0 + 2))) 56 (pi (90 * n1 + 2))) 28 = F 28 := (fn (fn ((hFvy34 28 (by decide)).trans ((hFvy31 28 (by decide)).trans ((hFvy28 28 (by decide)).trans (fn rfl (by decide))))) (by decide)) (by decide))
                have hey105 : (uZ (uZ Fvy34 55 (pi (90 * n0 + 2))) 56 (pi (90 * n1 + 2))) 29 = F 29 := (fn (fn ((hFvy34 29 (by decide)).trans ((hFvy31 29 (by decide)).trans ((hFvy28 29 (by decide)).trans (fn rfl (by decide))))) (by decide)) (by decide))
                have hKy106 : okF (uZ (uZ Fvy34 55 (pi (90 * n0 + 2))) 56 (pi (90 * n1 + 2))) := okF.mv hM.2.1 hey92 hey93 hey94 hey95 hey96 hey97 hey98 hey99 hey100 hey101 hey102 hey103 hey104 hey105
                have hgy108 := (hfvy71 (i + 25) (ne_o (i := i) (c := 25) (d := 27) rfl)).trans hgy74
                have hgy109 := (hfvy71 (i + 26) (ne_o (i := i) (c := 26) (d := 27) rfl)).trans hdvy68
                have hMy107 : okMr cs ad gvy71 i (x + 1) (uZ (uZ Fvy34 55 (pi (90 * n0 + 2))) 56 (pi (90 * n1 + 2))) r st op ai fa mu tb tp := okMr.upd hM hgy83 hKy106 (fun f a => hFy91 f (by omega) (by omega) (by omega)) hgy90 (hA.mono (by omega)) (fun j a b => by
                    by_cases e0 : j = i + 25
                    · exact Or.inr ⟨25, _, e0, lsP.l (by decide), by rw [e0]; exact hgy108⟩
                    by_cases e1 : j = i + 26
                    · exact Or.inr ⟨26, _, e1, lsP.l (by decide), by rw [e1]; exact hgy109⟩
                    by_cases e2 : j = i + 27
                    · exact Or.inr ⟨27, _, e2, lsP.l (by decide), by rw [e2]; exact hdvy71⟩
                    exact Or.inl (by rw [hfvy71 _ (by omega)]; rw [hfvy68 _ (by omega)]; rw [hfvy58 _ (by omega)]; rw [egy49, va_up_ne _ _ (by omega)]; rw [egy44, va_up_ne _ _ (by omega)]; rw [hfvy34 _ (by omega)]; rw [hfvy31 _ (by omega)]; rw [hfvy28 _ (by omega)]; rw [egy25, va_up_ne _ _ (by omega)]))
                have hkpy110 : (uZ (uZ Fvy34 55 (pi (90 * n0 + 2))) 56 (pi (90 * n1 + 2))) 13 = F 13 := (fn (fn ((hFvy34 13 (by decide)).trans ((hFvy31 13 (by decide)).trans ((hFvy28 13 (by decide)).trans (fn rfl (by decide))))) (by decide)) (by decide))
                have hkpy111 : (uZ (uZ Fvy34 55 (pi (90 * n0 + 2))) 56 (pi (90 * n1 + 2))) 14 = F 14 := (fn (fn ((hFvy34 14 (by decide)).trans ((hFvy31 14 (by decide)).trans ((hFvy28 14 (by decide)).trans (fn rfl (by decide))))) (by decide)) (by decide))
                have hkpy112 : (uZ (uZ Fvy34 55 (pi (90 * n0 + 2))) 56 (pi (90 * n1 + 2))) 15 = F 15 := (fn (fn ((hFvy34 15 (by decide)).trans ((hFvy31 15 (by decide)).trans ((hFvy28 15 (by decide)).trans (fn rfl (by decide))))) (by decide)) (by decide))
                have hkpy113 : (uZ (uZ Fvy34 55 (pi (90 * n0 + 2))) 56 (pi (90 * n1 + 2))) 16 = F 16 := (fn (fn ((hFvy34 16 (by decide)).trans ((hFvy31 16 (by decide)).trans ((hFvy28 16 (by decide)).trans (fn rfl (by decide))))) (by decide)) (by decide))
                have hkpy114 : (uZ (uZ Fvy34 55 (pi (90 * n0 + 2))) 56 (pi (90 * n1 + 2))) 17 = F 17 := (fn (fn ((hFvy34 17 (by decide)).trans ((hFvy31 17 (by decide)).trans ((hFvy28 17 (by decide)).trans (fn rfl (by decide))))) (by decide)) (by decide))
                have hkpy115 : (uZ (uZ Fvy34 55 (pi (90 * n0 + 2))) 56 (pi (90 * n1 + 2))) 18 = F 18 := (fn (fn ((hFvy34 18 (by decide)).trans ((hFvy31 18 (by decide)).trans ((hFvy28 18 (by decide)).trans (fn rfl (by decide))))) (by decide)) (by decide))
                have hkpy116 : (uZ (uZ Fvy34 55 (pi (90 * n0 + 2))) 56 (pi (90 * n1 + 2))) 19 = F 19 := (fn (fn ((hFvy34 19 (by decide)).trans ((hFvy31 19 (by decide)).trans ((hFvy28 19 (by decide)).trans (fn rfl (by decide))))) (by decide)) (by decide))
                have hkpy117 : (uZ (uZ Fvy34 55 (pi (90 * n0 + 2))) 56 (pi (90 * n1 + 2))) 20 = F 20 := (fn (fn ((hFvy34 20 (by decide)).trans ((hFvy31 20 (by decide)).trans ((hFvy28 20 (by decide)).trans (fn rfl (by decide))))) (by decide)) (by decide))
                have hkpy118 : (uZ (uZ Fvy34 55 (pi (90 * n0 + 2))) 56 (pi (90 * n1 + 2))) 21 = F 21 := (fn (fn ((hFvy34 21 (by decide)).trans ((hFvy31 21 (by decide)).trans ((hFvy28 21 (by decide)).trans (fn rfl (by decide))))) (by decide)) (by decide))
                have hkpy119 : (uZ (uZ Fvy34 55 (pi (90 * n0 + 2))) 56 (pi (90 * n1 + 2))) 23 = F 23 := (fn (fn ((hFvy34 23 (by decide)).trans ((hFvy31 23 (by decide)).trans ((hFvy28 23 (by decide)).trans (fn rfl (by decide))))) (by decide)) (by decide))
                have hkpy120 : (uZ (uZ Fvy34 55 (pi (90 * n0 + 2))) 56 (pi (90 * n1 + 2))) 24 = F 24 := (fn (fn ((hFvy34 24 (by decide)).trans ((hFvy31 24 (by decide)).trans ((hFvy28 24 (by decide)).trans (fn rfl (by decide))))) (by decide)) (by decide))
                have hkpy121 : (uZ (uZ Fvy34 55 (pi (90 * n0 + 2))) 56 (pi (90 * n1 + 2))) 25 = F 25 := (fn (fn ((hFvy34 25 (by decide)).trans ((hFvy31 25 (by decide)).trans ((hFvy28 25 (by decide)).trans (fn rfl (by decide))))) (by decide)) (by decide))
                have hkpy122 : (uZ (uZ Fvy34 55 (pi (90 * n0 + 2))) 56 (pi (90 * n1 + 2))) 26 = F 26 := (fn (fn ((hFvy34 26 (by decide)).trans ((hFvy31 26 (by decide)).trans ((hFvy28 26 (by decide)).trans (fn rfl (by decide))))) (by decide)) (by decide))
                have hkpy123 : (uZ (uZ Fvy34 55 (pi (90 * n0 + 2))) 56 (pi (90 * n1 + 2))) 27 = F 27 := (fn (fn ((hFvy34 27 (by decide)).trans ((hFvy31 27 (by decide)).trans ((hFvy28 27 (by decide)).trans (fn rfl (by decide))))) (by decide)) (by decide))
                have hkpy124 : (uZ (uZ Fvy34 55 (pi (90 * n0 + 2))) 56 (pi (90 * n1 + 2))) 29 = F 29 := (fn (fn ((hFvy34 29 (by decide)).trans ((hFvy31 29 (by decide)).trans ((hFvy28 29 (by decide)).trans (fn rfl (by decide))))) (by decide)) (by decide))
                exact z_iret C hr hlk dX10_compare_131 (by decide) (by decide) ⟨vy71, rfl, rfl, rfl, by omega, ⟨_, _, hMy107, ⟨hkpy110, hkpy111, hkpy112, hkpy113, hkpy114, hkpy115, hkpy116, hkpy117, hkpy118, hkpy119, hkpy120⟩, ⟨(hkpy121.trans hp25), (hkpy122.trans hp26), (hkpy123.trans hp27), (hkpy124.trans hp29)⟩, (fun j _ => rfl)⟩, fun j j1 => by rw [hfvy71 _ (by omega)]; rw [hfvy68 _ (by omega)]; rw [hfvy58 _ (by omega)]; rw [egy49, va_up_ne _ _ (by omega)]; rw [egy44, va_up_ne _ _ (by omega)]; rw [hfvy34 _ (by omega)]; rw [hfvy31 _ (by omega)]; rw [hfvy28 _ (by omega)]; rw [egy25, va_up_ne _ _ (by omega)]⟩
              · refine z_iconst (z := 1) C dX10_compare_123 rfl ?_
                refine z_goto (tgt := 128) C dX10_compare_124 (by decide) ?_
                have hgy125 := (hfvy68 (i) (ne_o (i := i) (c := 0) (d := 26) rfl)).trans hgy59
                have hey127 : (uZ (uZ Fvy34 55 (pi (90 * n0 + 2))) 56 (pi (90 * n1 + 2))) 55 = pi (90 * n0 + 2) := (fn (uZ_s _ _ _) (by decide))
                have hey128 : (uZ (uZ Fvy34 55 (pi (90 * n0 + 2))) 56 (pi (90 * n1 + 2))) 56 = pi (90 * n1 + 2) := (uZ_s _ _ _)
                have hgy129 := (hfvy68 (i + 25) (ne_o (i := i) (c := 25) (d := 26) rfl)).trans hdvy58
                have hgy130 := up_n egy25 ha27 (ne_o (i := i) (c := 27) (d := 0) rfl)
                have hgy131 := (hfvy28 (i + 27) (ne_o (i := i) (c := 27) (d := 0) rfl)).trans hgy130
                have hgy132 := (hfvy31 (i + 27) (ne_o (i := i) (c := 27) (d := 0) rfl)).trans hgy131
                have hgy133 := (hfvy34 (i + 27) (ne_o (i := i) (c := 27) (d := 0) rfl)).trans hgy132
                have hgy134 := up_n egy44 hgy133 (ne_o (i := i) (c := 27) (d := 0) rfl)
                have hgy135 := up_n egy49 hgy134 (ne_o (i := i) (c := 27) (d := 0) rfl)
                have hgy136 := (hfvy58 (i + 27) (ne_o (i := i) (c := 27) (d := 25) rfl)).trans hgy135
                have hgy137 := (hfvy68 (i + 27) (ne_o (i := i) (c := 27) (d := 26) rfl)).trans hgy136
                refine z_cV (As := [.int (zI (1))]) (rest := []) (ci := 12) C (c_X10_folds l D A cs tt N ad _ i hN _ hgy125 _ hgy129 _ hdvy68 _ hgy137 (by omega) (by omega) (1) (by omega)) (lt_A0 hN rfl) hay1 hgy125 rfl rfl mv_yX10_folds q_2055 hd_yX10_folds (by decide) (Nat.le_of_ble_eq_true rfl) (by decide) dX10_compare_128 rfl (kI0 fun vy126 gvy126 hvy126 => ?_)
                obtain ⟨hrvy126, ⟨tvy126, hdvy126⟩, hfvy126⟩ := hvy126
                have hgy138 := (hfvy126 (i) (ne_o (i := i) (c := 0) (d := 27) rfl)).trans hgy125
                have hgy139 := (hfvy31 (i + 1) (ne_o (i := i) (c := 1) (d := 0) rfl)).trans hgy30
                have hgy140 := (hfvy34 (i + 1) (ne_o (i := i) (c := 1) (d := 0) rfl)).trans hgy139
                have hgy141 := up_n egy44 hgy140 (ne_o (i := i) (c := 1) (d := 0) rfl)
                have hgy142 := up_n egy49 hgy141 (ne_o (i := i) (c := 1) (d := 0) rfl)
                have hgy143 := (hfvy58 (i + 1) (ne_o (i := i) (c := 1) (d := 25) rfl)).trans hgy142
                have hgy144 := (hfvy68 (i + 1) (ne_o (i := i) (c := 1) (d := 26) rfl)).trans hgy143
                have hgy145 := (hfvy126 (i + 1) (ne_o (i := i) (c := 1) (d := 27) rfl)).trans hgy144
                have hFy146 : ∀ f, f ≠ 12 → f ≠ 55 → f ≠ 56 → (uZ (uZ Fvy34 55 (pi (90 * n0 + 2))) 56 (pi (90 * n1 + 2))) f = F f := fun f n12 n55 n56 => ((uZ_n _ _ n56).trans ((uZ_n _ _ n55).trans ((hFvy34 f n12).trans ((hFvy31 f n12).trans ((hFvy28 f n12).trans ((uZ_n _ _ n12).trans rfl))))))
                have hey147 : (uZ (uZ Fvy34 55 (pi (90 * n0 + 2))) 56 (pi (90 * n1 + 2))) 13 = F 13 := (fn (fn ((hFvy34 13 (by decide)).trans ((hFvy31 13 (by decide)).trans ((hFvy28 13 (by decide)).trans (fn rfl (by decide))))) (by decide)) (by decide))
                have hey148 : (uZ (uZ Fvy34 55 (pi (90 * n0 + 2))) 56 (pi (90 * n1 + 2))) 14 = F 14 := (fn (fn ((hFvy34 14 (by decide)).trans ((hFvy31 14 (by decide)).trans ((hFvy28 14 (by decide)).trans (fn rfl (by decide))))) (by decide)) (by decide))
                have hey149 : (uZ (uZ Fvy34 55 (pi (90 * n0 + 2))) 56 (pi (90 * n1 + 2))) 15 = F 15 := (fn (fn ((hFvy34 15 (by decide)).trans ((hFvy31 15 (by decide)).trans ((hFvy28 15 (by decide)).trans (fn rfl (by decide))))) (by decide)) (by decide))
                have hey150 : (uZ (uZ Fvy34 55 (pi (90 * n0 + 2))) 56 (pi (90 * n1 + 2))) 16 = F 16 := (fn (fn ((hFvy34 16 (by decide)).trans ((hFvy31 16 (by decide)).trans ((hFvy28 16 (by decide)).trans (fn rfl (by decide))))) (by decide)) (by decide))
                have hey151 : (uZ (uZ Fvy34 55 (pi (90 * n0 + 2))) 56 (pi (90 * n1 + 2))) 17 = F 17 := (fn (fn ((hFvy34 17 (by decide)).trans ((hFvy31 17 (by decide)).trans ((hFvy28 17 (by decide)).trans (fn rfl (by decide))))) (by decide)) (by decide))
                have hey152 : (uZ (uZ Fvy34 55 (pi (90 * n0 + 2))) 56 (pi (90 * n1 + 2))) 18 = F 18 := (fn (fn ((hFvy34 18 (by decide)).trans ((hFvy31 18 (by decide)).trans ((hFvy28 18 (by decide)).trans (fn rfl (by decide))))) (by decide)) (by decide))
                have hey153 : (uZ (uZ Fvy34 55 (pi (90 * n0 + 2))) 56 (pi (90 * n1 + 2))) 19 = F 19 := (fn (fn ((hFvy34 19 (by decide)).trans ((hFvy31 19 (by decide)).trans ((hFvy28 19 (by decide)).trans (fn rfl (by decide))))) (by decide)) (by decide))
                have hey154 : (uZ (uZ Fvy34 55 (pi (90 * n0 + 2))) 56 (pi (90 * n1 + 2))) 20 = F 20 := (fn (fn ((hFvy34 20 (by decide)).trans ((hFvy31 20 (by decide)).trans ((hFvy28 20 (by decide)).trans (fn rfl (by decide))))) (by decide)) (by decide))
                have hey155 : (uZ (uZ Fvy34 55 (pi (90 * n0 + 2))) 56 (pi (90 * n1 + 2))) 21 = F 21 := (fn (fn ((hFvy34 21 (by decide)).trans ((hFvy31 21 (by decide)).trans ((hFvy28 21 (by decide)).trans (fn rfl (by decide))))) (by decide)) (by decide))
                have hey156 : (uZ (uZ Fvy34 55 (pi (90 * n0 + 2))) 56 (pi (90 * n1 + 2))) 23 = F 23 := (fn (fn ((hFvy34 23 (by decide)).trans ((hFvy31 23 (by decide)).trans ((hFvy28 23 (by decide)).trans (fn rfl (by decide))))) (by decide)) (by decide))
                have hey157 : (uZ (uZ Fvy34 55 (pi (90 * n0 + 2))) 56 (pi (90 * n1 + 2))) 25 = F 25 := (fn (fn ((hFvy34 25 (by decide)).trans ((hFvy31 25 (by decide)).trans ((hFvy28 25 (by decide)).trans (fn rfl (by decide))))) (by decide)) (by decide))
                have hey158 : (uZ (uZ Fvy34 55 (pi (90 * n0 + 2))) 56 (pi (90 * n1 + 2))) 27 = F 27 := (fn (fn ((hFvy34 27 (by decide)).trans ((hFvy31 27 (by decide)).trans ((hFvy28 27 (by decide)).trans (fn rfl (by decide))))) (by decide)) (by decide))
                have hey159 : (uZ (uZ Fvy34 55 (pi (90 * n0 + 2))) 56 (pi (90 * n1 + 2))) 28 = F 28 := (fn (fn ((hFvy34 28 (by decide)).trans ((hFvy31 28 (by decide)).trans ((hFvy28 28 (by decide)).trans (fn rfl (by decide))))) (by decide)) (by decide))
                have hey160 : (uZ (uZ Fvy34 55 (pi (90 * n0 + 2))) 56 (pi (90 * n1 + 2))) 29 = F 29 := (fn (fn ((hFvy34 29 (by decide)).trans ((hFvy31 29 (by decide)).trans ((hFvy28 29 (by decide)).trans (fn rfl (by decide))))) (by decide)) (by decide))
                have hKy161 : okF (uZ (uZ Fvy34 55 (pi (90 * n0 + 2))) 56 (pi (90 * n1 + 2))) := okF.mv hM.2.1 hey147 hey148 hey149 hey150 hey151 hey152 hey153 hey154 hey155 hey156 hey157 hey158 hey159 hey160
                have hgy163 := (hfvy126 (i + 25) (ne_o (i := i) (c := 25) (d := 27) rfl)).trans hgy129
                have hgy164 := (hfvy126 (i + 26) (ne_o (i := i) (c := 26) (d := 27) rfl)).trans hdvy68
                have hMy162 : okMr cs ad gvy126 i (x + 1) (uZ (uZ Fvy34 55 (pi (90 * n0 + 2))) 56 (pi (90 * n1 + 2))) r st op ai fa mu tb tp := okMr.upd hM hgy138 hKy161 (fun f a => hFy146 f (by omega) (by omega) (by omega)) hgy145 (hA.mono (by omega)) (fun j a b => by
                    by_cases e0 : j = i + 25
                    · exact Or.inr ⟨25, _, e0, lsP.l (by decide), by rw [e0]; exact hgy163⟩
                    by_cases e1 : j = i + 26
                    · exact Or.inr ⟨26, _, e1, lsP.l (by decide), by rw [e1]; exact hgy164⟩
                    by_cases e2 : j = i + 27
                    · exact Or.inr ⟨27, _, e2, lsP.l (by decide), by rw [e2]; exact hdvy126⟩
                    exact Or.inl (by rw [hfvy126 _ (by omega)]; rw [hfvy68 _ (by omega)]; rw [hfvy58 _ (by omega)]; rw [egy49, va_up_ne _ _ (by omega)]; rw [egy44, va_up_ne _ _ (by omega)]; rw [hfvy34 _ (by omega)]; rw [hfvy31 _ (by omega)]; rw [hfvy28 _ (by omega)]; rw [egy25, va_up_ne _ _ (by omega)]))
                have hkpy165 : (uZ (uZ Fvy34 55 (pi (90 * n0 + 2))) 56 (pi (90 * n1 + 2))) 13 = F 13 := (fn (fn ((hFvy34 13 (by decide)).trans ((hFvy31 13 (by decide)).trans ((hFvy28 13 (by decide)).trans (fn rfl (by decide))))) (by decide)) (by decide))
                have hkpy166 : (uZ (uZ Fvy34 55 (pi (90 * n0 + 2))) 56 (pi (90 * n1 + 2))) 14 = F 14 := (fn (fn ((hFvy34 14 (by decide)).trans ((hFvy31 14 (by decide)).trans ((hFvy28 14 (by decide)).trans (fn rfl (by decide))))) (by decide)) (by decide))
                have hkpy167 : (uZ (uZ Fvy34 55 (pi (90 * n0 + 2))) 56 (pi (90 * n1 + 2))) 15 = F 15 := (fn (fn ((hFvy34 15 (by decide)).trans ((hFvy31 15 (by decide)).trans ((hFvy28 15 (by decide)).trans (fn rfl (by decide))))) (by decide)) (by decide))
                have hkpy168 : (uZ (uZ Fvy34 55 (pi (90 * n0 + 2))) 56 (pi (90 * n1 + 2))) 16 = F 16 := (fn (fn ((hFvy34 16 (by decide)).trans ((hFvy31 16 (by decide)).trans ((hFvy28 16 (by decide)).trans (fn rfl (by decide))))) (by decide)) (by decide))
                have hkpy169 : (uZ (uZ Fvy34 55 (pi (90 * n0 + 2))) 56 (pi (90 * n1 + 2))) 17 = F 17 := (fn (fn ((hFvy34 17 (by decide)).trans ((hFvy31 17 (by decide)).trans ((hFvy28 17 (by decide)).trans (fn rfl (by decide))))) (by decide)) (by decide))
                have hkpy170 : (uZ (uZ Fvy34 55 (pi (90 * n0 + 2))) 56 (pi (90 * n1 + 2))) 18 = F 18 := (fn (fn ((hFvy34 18 (by decide)).trans ((hFvy31 18 (by decide)).trans ((hFvy28 18 (by decide)).trans (fn rfl (by decide))))) (by decide)) (by decide))
                have hkpy171 : (uZ (uZ Fvy34 55 (pi (90 * n0 + 2))) 56 (pi (90 * n1 + 2))) 19 = F 19 := (fn (fn ((hFvy34 19 (by decide)).trans ((hFvy31 19 (by decide)).trans ((hFvy28 19 (by decide)).trans (fn rfl (by decide))))) (by decide)) (by decide))
                have hkpy172 : (uZ (uZ Fvy34 55 (pi (90 * n0 + 2))) 56 (pi (90 * n1 + 2))) 20 = F 20 := (fn (fn ((hFvy34 20 (by decide)).trans ((hFvy31 20 (by decide)).trans ((hFvy28 20 (by decide)).trans (fn rfl (by decide))))) (by decide)) (by decide))
                have hkpy173 : (uZ (uZ Fvy34 55 (pi (90 * n0 + 2))) 56 (pi (90 * n1 + 2))) 21 = F 21 := (fn (fn ((hFvy34 21 (by decide)).trans ((hFvy31 21 (by decide)).trans ((hFvy28 21 (by decide)).trans (fn rfl (by decide))))) (by decide)) (by decide))
                have hkpy174 : (uZ (uZ Fvy34 55 (pi (90 * n0 + 2))) 56 (pi (90 * n1 + 2))) 23 = F 23 := (fn (fn ((hFvy34 23 (by decide)).trans ((hFvy31 23 (by decide)).trans ((hFvy28 23 (by decide)).trans (fn rfl (by decide))))) (by decide)) (by decide))
                have hkpy175 : (uZ (uZ Fvy34 55 (pi (90 * n0 + 2))) 56 (pi (90 * n1 + 2))) 24 = F 24 := (fn (fn ((hFvy34 24 (by decide)).trans ((hFvy31 24 (by decide)).trans ((hFvy28 24 (by decide)).trans (fn rfl (by decide))))) (by decide)) (by decide))
                have hkpy176 : (uZ (uZ Fvy34 55 (pi (90 * n0 + 2))) 56 (pi (90 * n1 + 2))) 25 = F 25 := (fn (fn ((hFvy34 25 (by decide)).trans ((hFvy31 25 (by decide)).trans ((hFvy28 25 (by decide)).trans (fn rfl (by decide))))) (by decide)) (by decide))
                have hkpy177 : (uZ (uZ Fvy34 55 (pi (90 * n0 + 2))) 56 (pi (90 * n1 + 2))) 26 = F 26 := (fn (fn ((hFvy34 26 (by decide)).trans ((hFvy31 26 (by decide)).trans ((hFvy28 26 (by decide)).trans (fn rfl (by decide))))) (by decide)) (by decide))
                have hkpy178 : (uZ (uZ Fvy34 55 (pi (90 * n0 + 2))) 56 (pi (90 * n1 + 2))) 27 = F 27 := (fn (fn ((hFvy34 27 (by decide)).trans ((hFvy31 27 (by decide)).trans ((hFvy28 27 (by decide)).trans (fn rfl (by decide))))) (by decide)) (by decide))
                have hkpy179 : (uZ (uZ Fvy34 55 (pi (90 * n0 + 2))) 56 (pi (90 * n1 + 2))) 29 = F 29 := (fn (fn ((hFvy34 29 (by decide)).trans ((hFvy31 29 (by decide)).trans ((hFvy28 29 (by decide)).trans (fn rfl (by decide))))) (by decide)) (by decide))
                exact z_iret C hr hlk dX10_compare_131 (by decide) (by decide) ⟨vy126, rfl, rfl, rfl, by omega, ⟨_, _, hMy162, ⟨hkpy165, hkpy166, hkpy167, hkpy168, hkpy169, hkpy170, hkpy171, hkpy172, hkpy173, hkpy174, hkpy175⟩, ⟨(hkpy176.trans hp25), (hkpy177.trans hp26), (hkpy178.trans hp27), (hkpy179.trans hp29)⟩, (fun j _ => rfl)⟩, fun j j1 => by rw [hfvy126 _ (by omega)]; rw [hfvy68 _ (by omega)]; rw [hfvy58 _ (by omega)]; rw [egy49, va_up_ne _ _ (by omega)]; rw [egy44, va_up_ne _ _ (by omega)]; rw [hfvy34 _ (by omega)]; rw [hfvy31 _ (by omega)]; rw [hfvy28 _ (by omega)]; rw [egy25, va_up_ne _ _ (by omega)]⟩
            · refine z_aload_n C 0 dX10_compare_53 rfl ?_
              refine z_iload_n C 1 dX10_compare_54 rfl ?_
              have hgy180 := (hfvy31 (i + 1) (ne_o (i := i) (c := 1) (d := 0) rfl)).trans hgy30
              have hgy181 := (hfvy34 (i + 1) (ne_o (i := i) (c := 1) (d := 0) rfl)).trans hgy180
              have hFy182 : ∀ f, f ≠ 12 → Fvy34 f = F f := fun f n12 => ((hFvy34 f n12).trans ((hFvy31 f n12).trans ((hFvy28 f n12).trans ((uZ_n _ _ n12).trans rfl))))
              have hey183 : Fvy34 13 = F 13 := ((hFvy34 13 (by decide)).trans ((hFvy31 13 (by decide)).trans ((hFvy28 13 (by decide)).trans (fn rfl (by decide)))))
              have hey184 : Fvy34 14 = F 14 := ((hFvy34 14 (by decide)).trans ((hFvy31 14 (by decide)).trans ((hFvy28 14 (by decide)).trans (fn rfl (by decide)))))
              have hey185 : Fvy34 15 = F 15 := ((hFvy34 15 (by decide)).trans ((hFvy31 15 (by decide)).trans ((hFvy28 15 (by decide)).trans (fn rfl (by decide)))))
              have hey186 : Fvy34 16 = F 16 := ((hFvy34 16 (by decide)).trans ((hFvy31 16 (by decide)).trans ((hFvy28 16 (by decide)).trans (fn rfl (by decide)))))
              have hey187 : Fvy34 17 = F 17 := ((hFvy34 17 (by decide)).trans ((hFvy31 17 (by decide)).trans ((hFvy28 17 (by decide)).trans (fn rfl (by decide)))))
              have hey188 : Fvy34 18 = F 18 := ((hFvy34 18 (by decide)).trans ((hFvy31 18 (by decide)).trans ((hFvy28 18 (by decide)).trans (fn rfl (by decide)))))
              have hey189 : Fvy34 19 = F 19 := ((hFvy34 19 (by decide)).trans ((hFvy31 19 (by decide)).trans ((hFvy28 19 (by decide)).trans (fn rfl (by decide)))))
              have hey190 : Fvy34 20 = F 20 := ((hFvy34 20 (by decide)).trans ((hFvy31 20 (by decide)).trans ((hFvy28 20 (by decide)).trans (fn rfl (by decide)))))
              have hey191 : Fvy34 21 = F 21 := ((hFvy34 21 (by decide)).trans ((hFvy31 21 (by decide)).trans ((hFvy28 21 (by decide)).trans (fn rfl (by decide)))))
              have hey192 : Fvy34 23 = F 23 := ((hFvy34 23 (by decide)).trans ((hFvy31 23 (by decide)).trans ((hFvy28 23 (by decide)).trans (fn rfl (by decide)))))
              have hey193 : Fvy34 25 = F 25 := ((hFvy34 25 (by decide)).trans ((hFvy31 25 (by decide)).trans ((hFvy28 25 (by decide)).trans (fn rfl (by decide)))))
              have hey194 : Fvy34 27 = F 27 := ((hFvy34 27 (by decide)).trans ((hFvy31 27 (by decide)).trans ((hFvy28 27 (by decide)).trans (fn rfl (by decide)))))
              have hey195 : Fvy34 28 = F 28 := ((hFvy34 28 (by decide)).trans ((hFvy31 28 (by decide)).trans ((hFvy28 28 (by decide)).trans (fn rfl (by decide)))))
              have hey196 : Fvy34 29 = F 29 := ((hFvy34 29 (by decide)).trans ((hFvy31 29 (by decide)).trans ((hFvy28 29 (by decide)).trans (fn rfl (by decide)))))
              have hKy197 : okF Fvy34 := okF.mv hM.2.1 hey183 hey184 hey185 hey186 hey187 hey188 hey189 hey190 hey191 hey192 hey193 hey194 hey195 hey196
              have hMy198 : okMr cs ad gvy34 i (x) Fvy34 r st op ai fa mu tb tp := okMr.upd hM hcvy34 hKy197 (fun f a => hFy182 f (by omega)) hgy181 (hA.mono (by omega)) (fun j a b => by
                  exact Or.inl (by rw [hfvy34 _ (by omega)]; rw [hfvy31 _ (by omega)]; rw [hfvy28 _ (by omega)]; rw [egy25, va_up_ne _ _ (by omega)]))
              refine z_cV (As := [.int (zI ((n0 : Int)))]) (rest := []) (ci := 12) C (c_X10_weakestName l D A cs tt N ad _ i hN x hx _ _ hMy198 n0 (by omega)) (lt_A0 hN rfl) hay1 hcvy34 rfl rfl mv_yX10_weakestName q_2047 hd_yX10_weakestName (by decide) (Nat.le_of_ble_eq_true rfl) (by decide) dX10_compare_55 rfl (kI0 fun vy199 gvy199 hvy199 => ?_)
              obtain ⟨hrvy199, ⟨Fvy199, rvy199, hMvy199, hFvy199, hRvy199⟩, hfvy199⟩ := hvy199
              have hFy200 : ∀ f, f ≠ 12 → Fvy34 f = F f := fun f n12 => ((hFvy34 f n12).trans ((hFvy31 f n12).trans ((hFvy28 f n12).trans ((uZ_n _ _ n12).trans rfl))))
              have hBvy199 : (∀ f, f ≠ 12 → Fvy199 f = F f) := fun f n12 => (hFvy199 f ).trans (hFy200 f n12)
              have hCvy199 := hBvy199
              have hq13vy199 : Fvy199 13 = F 13 := (hFvy199 13).trans ((hFvy34 13 (by decide)).trans ((hFvy31 13 (by decide)).trans ((hFvy28 13 (by decide)).trans (fn rfl (by decide)))))
              have hq14vy199 : Fvy199 14 = F 14 := (hFvy199 14).trans ((hFvy34 14 (by decide)).trans ((hFvy31 14 (by decide)).trans ((hFvy28 14 (by decide)).trans (fn rfl (by decide)))))
              have hq15vy199 : Fvy199 15 = F 15 := (hFvy199 15).trans ((hFvy34 15 (by decide)).trans ((hFvy31 15 (by decide)).trans ((hFvy28 15 (by decide)).trans (fn rfl (by decide)))))
              have hq17vy199 : Fvy199 17 = F 17 := (hFvy199 17).trans ((hFvy34 17 (by decide)).trans ((hFvy31 17 (by decide)).trans ((hFvy28 17 (by decide)).trans (fn rfl (by decide)))))
              have hq20vy199 : Fvy199 20 = F 20 := (hFvy199 20).trans ((hFvy34 20 (by decide)).trans ((hFvy31 20 (by decide)).trans ((hFvy28 20 (by decide)).trans (fn rfl (by decide)))))
              have hq21vy199 : Fvy199 21 = F 21 := (hFvy199 21).trans ((hFvy34 21 (by decide)).trans ((hFvy31 21 (by decide)).trans ((hFvy28 21 (by decide)).trans (fn rfl (by decide)))))
              have hq23vy199 : Fvy199 23 = F 23 := (hFvy199 23).trans ((hFvy34 23 (by decide)).trans ((hFvy31 23 (by decide)).trans ((hFvy28 23 (by decide)).trans (fn rfl (by decide)))))
              have hq24vy199 : Fvy199 24 = F 24 := (hFvy199 24).trans ((hFvy34 24 (by decide)).trans ((hFvy31 24 (by decide)).trans ((hFvy28 24 (by decide)).trans (fn rfl (by decide)))))
              have hq16vy199 : Fvy199 16 = F 16 := (hFvy199 16).trans ((hFvy34 16 (by decide)).trans ((hFvy31 16 (by decide)).trans ((hFvy28 16 (by decide)).trans (fn rfl (by decide)))))
              have hq18vy199 : Fvy199 18 = F 18 := (hFvy199 18).trans ((hFvy34 18 (by decide)).trans ((hFvy31 18 (by decide)).trans ((hFvy28 18 (by decide)).trans (fn rfl (by decide)))))
              have hq19vy199 : Fvy199 19 = F 19 := (hFvy199 19).trans ((hFvy34 19 (by decide)).trans ((hFvy31 19 (by decide)).trans ((hFvy28 19 (by decide)).trans (fn rfl (by decide)))))
              have hq25vy199 : Fvy199 25 = F 25 := (hFvy199 25).trans ((hFvy34 25 (by decide)).trans ((hFvy31 25 (by decide)).trans ((hFvy28 25 (by decide)).trans (fn rfl (by decide)))))
              have hq26vy199 : Fvy199 26 = F 26 := (hFvy199 26).trans ((hFvy34 26 (by decide)).trans ((hFvy31 26 (by decide)).trans ((hFvy28 26 (by decide)).trans (fn rfl (by decide)))))
              have hq27vy199 : Fvy199 27 = F 27 := (hFvy199 27).trans ((hFvy34 27 (by decide)).trans ((hFvy31 27 (by decide)).trans ((hFvy28 27 (by decide)).trans (fn rfl (by decide)))))
              have hq29vy199 : Fvy199 29 = F 29 := (hFvy199 29).trans ((hFvy34 29 (by decide)).trans ((hFvy31 29 (by decide)).trans ((hFvy28 29 (by decide)).trans (fn rfl (by decide)))))
              obtain ⟨hg_y201, ⟨⟨e13_y201, e14_y201, e25_y201, e27_y201, e29_y201⟩, k15_y201, k16_y201, k17_y201, k18_y201, k19_y201, k20_y201, k23_y201, k21_y201⟩, hRD_y201, hTx_y201, hA_y201, ns_y201, nh_y201, nd_y201, rf_y201, pi_y201, te_y201, ki_y201, li_y201, ok1_y201, ok2_y201, fo_y201, dd_y201, dps_y201, ⟨ha1_y201, ha2_y201, ha3_y201, ha4_y201, ha5_y201, ha6_y201, ha7_y201, ha8_y201, ha9_y201, ha10_y201, ha11_y201, ha12_y201, ha13_y201, ha14_y201, ha15_y201, ha24_y201, ha25_y201, ha26_y201, ha27_y201, ha28_y201, ha29_y201⟩, hEv_y201, hPt_y201, hns_y201, htp_y201⟩ := id hMvy199
              obtain ⟨-, hop_y201, hai_y201, hfa_y201, hT_y201, hT1_y201⟩ := id hEv_y201
              have e14 := e14_y201
              have e25 := e25_y201
              have e27 := e27_y201
              have e29 := e29_y201
              have hop := hop_y201
              have hai := hai_y201
              have hfa := hfa_y201
              have hT := hT_y201
              have hT1 := hT1_y201
              have hEv := hEv_y201
              have htp := htp_y201
              have hns := hns_y201
              have hPt := hPt_y201
              obtain ⟨⟨hsyy202, htyy202, hnyy202, hpyy202⟩, hlyy202⟩ := okA.at0 hA_y201
              simp only [Nat.zero_add] at hsyy202 hnyy202 hpyy202
              have hmn : ∀ s, s < 4 → 0 ≤ rvy199 (6 + 86 * s) ∧ rvy199 (6 + 86 * s) ≤ 12 := fun s hs => (hsyy202 s hs).1
              have h5 : 0 ≤ rvy199 5 ∧ rvy199 5 ≤ 6 := hpyy202
              refine z_iconst (z := -1) C dX10_compare_58 rfl ?_
              refine z_icmp_eq (tgt := 79) C dX10_compare_59 (by decide) (by omega) (by omega) (fun hby203 => ?_) (fun hby203 => ?_)
              · refine z_iconst (z := 0) C dX10_compare_79 rfl ?_
                have hMy204 : okMr cs ad gvy199 i (x + 1) Fvy199 rvy199 st op ai fa mu tb tp := okMr.upd hMvy199 hg_y201 hMvy199.2.1 (fun f _ => rfl) ha1_y201 (hA_y201.mono (by omega)) (fun j a b => by
                    exact Or.inl (by rfl))
                have hkpy205 : Fvy199 13 = F 13 := hq13vy199
                have hkpy206 : Fvy199 14 = F 14 := hq14vy199
                have hkpy207 : Fvy199 15 = F 15 := hq15vy199
                have hkpy208 : Fvy199 16 = F 16 := hq16vy199
                have hkpy209 : Fvy199 17 = F 17 := hq17vy199
                have hkpy210 : Fvy199 18 = F 18 := hq18vy199
                have hkpy211 : Fvy199 19 = F 19 := hq19vy199
                have hkpy212 : Fvy199 20 = F 20 := hq20vy199
                have hkpy213 : Fvy199 21 = F 21 := hq21vy199
                have hkpy214 : Fvy199 23 = F 23 := hq23vy199
                have hkpy215 : Fvy199 24 = F 24 := hq24vy199
                have hkpy216 : Fvy199 25 = F 25 := hq25vy199
                have hkpy217 : Fvy199 26 = F 26 := hq26vy199
                have hkpy218 : Fvy199 27 = F 27 := hq27vy199
                have hkpy219 : Fvy199 29 = F 29 := hq29vy199
                exact z_iret C hr hlk dX10_compare_80 (by decide) (by decide) ⟨0, rfl, rfl, rfl, by omega, ⟨_, _, hMy204, ⟨hkpy205, hkpy206, hkpy207, hkpy208, hkpy209, hkpy210, hkpy211, hkpy212, hkpy213, hkpy214, hkpy215⟩, ⟨(hkpy216.trans hp25), (hkpy217.trans hp26), (hkpy218.trans hp27), (hkpy219.trans hp29)⟩, (fun j a9 => (hRvy199 j a9).trans ((fun j _ => rfl) j a9))⟩, fun j j1 => by rw [hfvy199 _ (by omega)]; rw [hfvy34 _ (by omega)]; rw [hfvy31 _ (by omega)]; rw [hfvy28 _ (by omega)]; rw [egy25, va_up_ne _ _ (by omega)]⟩
              · refine z_aload_n C 0 dX10_compare_62 rfl ?_
                refine z_iload_n C 1 dX10_compare_63 rfl ?_
                have hMy220 : okMr cs ad gvy199 i (x) Fvy199 rvy199 st op ai fa mu tb tp := okMr.upd hMvy199 hg_y201 hMvy199.2.1 (fun f _ => rfl) ha1_y201 (hA_y201.mono (by omega)) (fun j a b => by
                    exact Or.inl (by rfl))
                refine z_cV (As := [.int (zI ((n0 : Int)))]) (rest := []) (ci := 12) C (c_X10_weakestName l D A cs tt N ad _ i hN x hx _ _ hMy220 n0 (by omega)) (lt_A0 hN rfl) hay1 hg_y201 rfl rfl mv_yX10_weakestName q_2047 hd_yX10_weakestName (by decide) (Nat.le_of_ble_eq_true rfl) (by decide) dX10_compare_64 rfl (kI0 fun vy221 gvy221 hvy221 => ?_)
                obtain ⟨hrvy221, ⟨Fvy221, rvy221, hMvy221, hFvy221, hRvy221⟩, hfvy221⟩ := hvy221
                have hBvy221 : (∀ f, Fvy221 f = Fvy199 f) := fun f  => (hFvy221 f )
                have hCvy221 : (∀ f, f ≠ 12 → Fvy221 f = F f) := fun f n12 => (hBvy221 f ).trans (hCvy199 f n12)
                have hq13vy221 : Fvy221 13 = F 13 := (hFvy221 13).trans hq13vy199
                have hq14vy221 : Fvy221 14 = F 14 := (hFvy221 14).trans hq14vy199
                have hq15vy221 : Fvy221 15 = F 15 := (hFvy221 15).trans hq15vy199
                have hq17vy221 : Fvy221 17 = F 17 := (hFvy221 17).trans hq17vy199
                have hq20vy221 : Fvy221 20 = F 20 := (hFvy221 20).trans hq20vy199
                have hq21vy221 : Fvy221 21 = F 21 := (hFvy221 21).trans hq21vy199
                have hq23vy221 : Fvy221 23 = F 23 := (hFvy221 23).trans hq23vy199
                have hq24vy221 : Fvy221 24 = F 24 := (hFvy221 24).trans hq24vy199
                have hq16vy221 : Fvy221 16 = F 16 := (hFvy221 16).trans hq16vy199
                have hq18vy221 : Fvy221 18 = F 18 := (hFvy221 18).trans hq18vy199
                have hq19vy221 : Fvy221 19 = F 19 := (hFvy221 19).trans hq19vy199
                have hq25vy221 : Fvy221 25 = F 25 := (hFvy221 25).trans hq25vy199
                have hq26vy221 : Fvy221 26 = F 26 := (hFvy221 26).trans hq26vy199
                have hq27vy221 : Fvy221 27 = F 27 := (hFvy221 27).trans hq27vy199
                have hq29vy221 : Fvy221 29 = F 29 := (hFvy221 29).trans hq29vy199
                obtain ⟨hg_y222, ⟨⟨e13_y222, e14_y222, e25_y222, e27_y222, e29_y222⟩, k15_y222, k16_y222, k17_y222, k18_y222, k19_y222, k20_y222, k23_y222, k21_y222⟩, hRD_y222, hTx_y222, hA_y222, ns_y222, nh_y222, nd_y222, rf_y222, pi_y222, te_y222, ki_y222, li_y222, ok1_y222, ok2_y222, fo_y222, dd_y222, dps_y222, ⟨ha1_y222, ha2_y222, ha3_y222, ha4_y222, ha5_y222, ha6_y222, ha7_y222, ha8_y222, ha9_y222, ha10_y222, ha11_y222, ha12_y222, ha13_y222, ha14_y222, ha15_y222, ha24_y222, ha25_y222, ha26_y222, ha27_y222, ha28_y222, ha29_y222⟩, hEv_y222, hPt_y222, hns_y222, htp_y222⟩ := id hMvy221
                obtain ⟨-, hop_y222, hai_y222, hfa_y222, hT_y222, hT1_y222⟩ := id hEv_y222
                have e14 := e14_y222
                have e25 := e25_y222
                have e27 := e27_y222
                have e29 := e29_y222
                have hop := hop_y222
                have hai := hai_y222
                have hfa := hfa_y222
                have hT := hT_y222
                have hT1 := hT1_y222
                have hEv := hEv_y222
                have htp := htp_y222
                have hns := hns_y222
                have hPt := hPt_y222
                obtain ⟨⟨hsyy223, htyy223, hnyy223, hpyy223⟩, hlyy223⟩ := okA.at0 hA_y222
                simp only [Nat.zero_add] at hsyy223 hnyy223 hpyy223
                have hmn : ∀ s, s < 4 → 0 ≤ rvy221 (6 + 86 * s) ∧ rvy221 (6 + 86 * s) ≤ 12 := fun s hs => (hsyy223 s hs).1
                have h5 : 0 ≤ rvy221 5 ∧ rvy221 5 ≤ 6 := hpyy223
                refine z_aload_n C 0 dX10_compare_67 rfl ?_
                refine z_iload_n C 2 dX10_compare_68 rfl ?_
                have hMy224 : okMr cs ad gvy221 i (x) Fvy221 rvy221 st op ai fa mu tb tp := okMr.upd hMvy221 hg_y222 hMvy221.2.1 (fun f _ => rfl) ha1_y222 (hA_y222.mono (by omega)) (fun j a b => by
                    exact Or.inl (by rfl))
                refine z_cV (As := [.int (zI ((n1 : Int)))]) (rest := [.int (zI (vy221))]) (ci := 12) C (c_X10_weakestName l D A cs tt N ad _ i hN x hx _ _ hMy224 n1 (by omega)) (lt_A0 hN rfl) hay1 hg_y222 rfl rfl mv_yX10_weakestName q_2047 hd_yX10_weakestName (by decide) (Nat.le_of_ble_eq_true rfl) (by decide) dX10_compare_69 rfl (kI0 fun vy225 gvy225 hvy225 => ?_)
                obtain ⟨hrvy225, ⟨Fvy225, rvy225, hMvy225, hFvy225, hRvy225⟩, hfvy225⟩ := hvy225
                have hBvy225 : (∀ f, Fvy225 f = Fvy221 f) := fun f  => (hFvy225 f )
                have hCvy225 : (∀ f, f ≠ 12 → Fvy225 f = F f) := fun f n12 => (hBvy225 f ).trans (hCvy221 f n12)
                have hq13vy225 : Fvy225 13 = F 13 := (hFvy225 13).trans hq13vy221
                have hq14vy225 : Fvy225 14 = F 14 := (hFvy225 14).trans hq14vy221
                have hq15vy225 : Fvy225 15 = F 15 := (hFvy225 15).trans hq15vy221
                have hq17vy225 : Fvy225 17 = F 17 := (hFvy225 17).trans hq17vy221
                have hq20vy225 : Fvy225 20 = F 20 := (hFvy225 20).trans hq20vy221
                have hq21vy225 : Fvy225 21 = F 21 := (hFvy225 21).trans hq21vy221
                have hq23vy225 : Fvy225 23 = F 23 := (hFvy225 23).trans hq23vy221
                have hq24vy225 : Fvy225 24 = F 24 := (hFvy225 24).trans hq24vy221
                have hq16vy225 : Fvy225 16 = F 16 := (hFvy225 16).trans hq16vy221
                have hq18vy225 : Fvy225 18 = F 18 := (hFvy225 18).trans hq18vy221
                have hq19vy225 : Fvy225 19 = F 19 := (hFvy225 19).trans hq19vy221
                have hq25vy225 : Fvy225 25 = F 25 := (hFvy225 25).trans hq25vy221
                have hq26vy225 : Fvy225 26 = F 26 := (hFvy225 26).trans hq26vy221
                have hq27vy225 : Fvy225 27 = F 27 := (hFvy225 27).trans hq27vy221
                have hq29vy225 : Fvy225 29 = F 29 := (hFvy225 29).trans hq29vy221
                obtain ⟨hg_y226, ⟨⟨e13_y226, e14_y226, e25_y226, e27_y226, e29_y226⟩, k15_y226, k16_y226, k17_y226, k18_y226, k19_y226, k20_y226, k23_y226, k21_y226⟩, hRD_y226, hTx_y226, hA_y226, ns_y226, nh_y226, nd_y226, rf_y226, pi_y226, te_y226, ki_y226, li_y226, ok1_y226, ok2_y226, fo_y226, dd_y226, dps_y226, ⟨ha1_y226, ha2_y226, ha3_y226, ha4_y226, ha5_y226, ha6_y226, ha7_y226, ha8_y226, ha9_y226, ha10_y226, ha11_y226, ha12_y226, ha13_y226, ha14_y226, ha15_y226, ha24_y226, ha25_y226, ha26_y226, ha27_y226, ha28_y226, ha29_y226⟩, hEv_y226, hPt_y226, hns_y226, htp_y226⟩ := id hMvy225
                obtain ⟨-, hop_y226, hai_y226, hfa_y226, hT_y226, hT1_y226⟩ := id hEv_y226
                have e14 := e14_y226
                have e25 := e25_y226
                have e27 := e27_y226
                have e29 := e29_y226
                have hop := hop_y226
                have hai := hai_y226
                have hfa := hfa_y226
                have hT := hT_y226
                have hT1 := hT1_y226
                have hEv := hEv_y226
                have htp := htp_y226
                have hns := hns_y226
                have hPt := hPt_y226
                obtain ⟨⟨hsyy227, htyy227, hnyy227, hpyy227⟩, hlyy227⟩ := okA.at0 hA_y226
                simp only [Nat.zero_add] at hsyy227 hnyy227 hpyy227
                have hmn : ∀ s, s < 4 → 0 ≤ rvy225 (6 + 86 * s) ∧ rvy225 (6 + 86 * s) ≤ 12 := fun s hs => (hsyy227 s hs).1
                have h5 : 0 ≤ rvy225 5 ∧ rvy225 5 ≤ 6 := hpyy227
                refine z_icmp_ne (tgt := 79) C dX10_compare_72 (by decide) (by omega) (by omega) (fun hby228 => ?_) (fun hby228 => ?_)
                · refine z_iconst (z := 0) C dX10_compare_79 rfl ?_
                  have hMy229 : okMr cs ad gvy225 i (x + 1) Fvy225 rvy225 st op ai fa mu tb tp := okMr.upd hMvy225 hg_y226 hMvy225.2.1 (fun f _ => rfl) ha1_y226 (hA_y226.mono (by omega)) (fun j a b => by
                      exact Or.inl (by rfl))
                  have hkpy230 : Fvy225 13 = F 13 := hq13vy225
                  have hkpy231 : Fvy225 14 = F 14 := hq14vy225
                  have hkpy232 : Fvy225 15 = F 15 := hq15vy225
                  have hkpy233 : Fvy225 16 = F 16 := hq16vy225
                  have hkpy234 : Fvy225 17 = F 17 := hq17vy225
                  have hkpy235 : Fvy225 18 = F 18 := hq18vy225
                  have hkpy236 : Fvy225 19 = F 19 := hq19vy225
                  have hkpy237 : Fvy225 20 = F 20 := hq20vy225
                  have hkpy238 : Fvy225 21 = F 21 := hq21vy225
                  have hkpy239 : Fvy225 23 = F 23 := hq23vy225
                  have hkpy240 : Fvy225 24 = F 24 := hq24vy225
                  have hkpy241 : Fvy225 25 = F 25 := hq25vy225
                  have hkpy242 : Fvy225 26 = F 26 := hq26vy225
                  have hkpy243 : Fvy225 27 = F 27 := hq27vy225
                  have hkpy244 : Fvy225 29 = F 29 := hq29vy225
                  exact z_iret C hr hlk dX10_compare_80 (by decide) (by decide) ⟨0, rfl, rfl, rfl, by omega, ⟨_, _, hMy229, ⟨hkpy230, hkpy231, hkpy232, hkpy233, hkpy234, hkpy235, hkpy236, hkpy237, hkpy238, hkpy239, hkpy240⟩, ⟨(hkpy241.trans hp25), (hkpy242.trans hp26), (hkpy243.trans hp27), (hkpy244.trans hp29)⟩, (fun j a9 => (hRvy225 j a9).trans ((fun j a9 => (hRvy221 j a9).trans ((fun j a9 => (hRvy199 j a9).trans ((fun j _ => rfl) j a9)) j a9)) j a9))⟩, fun j j1 => by rw [hfvy225 _ (by omega)]; rw [hfvy221 _ (by omega)]; rw [hfvy199 _ (by omega)]; rw [hfvy34 _ (by omega)]; rw [hfvy31 _ (by omega)]; rw [hfvy28 _ (by omega)]; rw [egy25, va_up_ne _ _ (by omega)]⟩
                · refine z_iconst (z := 1) C dX10_compare_75 rfl ?_
                  refine z_goto (tgt := 80) C dX10_compare_76 (by decide) ?_
                  have hMy245 : okMr cs ad gvy225 i (x + 1) Fvy225 rvy225 st op ai fa mu tb tp := okMr.upd hMvy225 hg_y226 hMvy225.2.1 (fun f _ => rfl) ha1_y226 (hA_y226.mono (by omega)) (fun j a b => by
                      exact Or.inl (by rfl))
                  have hkpy246 : Fvy225 13 = F 13 := hq13vy225
                  have hkpy247 : Fvy225 14 = F 14 := hq14vy225
                  have hkpy248 : Fvy225 15 = F 15 := hq15vy225
                  have hkpy249 : Fvy225 16 = F 16 := hq16vy225
                  have hkpy250 : Fvy225 17 = F 17 := hq17vy225
                  have hkpy251 : Fvy225 18 = F 18 := hq18vy225
                  have hkpy252 : Fvy225 19 = F 19 := hq19vy225
                  have hkpy253 : Fvy225 20 = F 20 := hq20vy225
                  have hkpy254 : Fvy225 21 = F 21 := hq21vy225
                  have hkpy255 : Fvy225 23 = F 23 := hq23vy225
                  have hkpy256 : Fvy225 24 = F 24 := hq24vy225
                  have hkpy257 : Fvy225 25 = F 25 := hq25vy225
                  have hkpy258 : Fvy225 26 = F 26 := hq26vy225
                  have hkpy259 : Fvy225 27 = F 27 := hq27vy225
                  have hkpy260 : Fvy225 29 = F 29 := hq29vy225
                  exact z_iret C hr hlk dX10_compare_80 (by decide) (by decide) ⟨1, rfl, rfl, rfl, by omega, ⟨_, _, hMy245, ⟨hkpy246, hkpy247, hkpy248, hkpy249, hkpy250, hkpy251, hkpy252, hkpy253, hkpy254, hkpy255, hkpy256⟩, ⟨(hkpy257.trans hp25), (hkpy258.trans hp26), (hkpy259.trans hp27), (hkpy260.trans hp29)⟩, (fun j a9 => (hRvy225 j a9).trans ((fun j a9 => (hRvy221 j a9).trans ((fun j a9 => (hRvy199 j a9).trans ((fun j _ => rfl) j a9)) j a9)) j a9))⟩, fun j j1 => by rw [hfvy225 _ (by omega)]; rw [hfvy221 _ (by omega)]; rw [hfvy199 _ (by omega)]; rw [hfvy34 _ (by omega)]; rw [hfvy31 _ (by omega)]; rw [hfvy28 _ (by omega)]; rw [egy25, va_up_ne _ _ (by omega)]⟩
          · refine z_aload_n C 0 dX10_compare_41 rfl ?_
            refine z_iload_n C 1 dX10_compare_42 rfl ?_
            refine z_iload_n C 2 dX10_compare_43 rfl ?_
            have hgy261 := up_n egy25 ha12 (ne_o (i := i) (c := 12) (d := 0) rfl)
            have hgy262 := (hfvy28 (i + 12) (ne_o (i := i) (c := 12) (d := 0) rfl)).trans hgy261
            have hgy263 := (hfvy31 (i + 12) (ne_o (i := i) (c := 12) (d := 0) rfl)).trans hgy262
            have hgy264 := (hfvy34 (i + 12) (ne_o (i := i) (c := 12) (d := 0) rfl)).trans hgy263
            refine z_cV (As := [.int (zI ((n0 : Int))), .int (zI ((n1 : Int)))]) (rest := []) (ci := 12) C (c_X10_namesInBoth l D A cs tt N ad _ i hN _ hcvy34 _ hgy264 hPt n0 n1 (by omega) (by omega)) (lt_A0 hN rfl) hay1 hcvy34 rfl rfl mv_yX10_namesInBoth q_2039 hd_yX10_namesInBoth (by decide) (Nat.le_of_ble_eq_true rfl) (by decide) dX10_compare_44 rfl (kI0 fun vy265 gvy265 hvy265 => ?_)
            obtain ⟨hvy265, rfl⟩ := hvy265
            have hgy266 := (hfvy31 (i + 1) (ne_o (i := i) (c := 1) (d := 0) rfl)).trans hgy30
            have hgy267 := (hfvy34 (i + 1) (ne_o (i := i) (c := 1) (d := 0) rfl)).trans hgy266
            have hFy268 : ∀ f, f ≠ 12 → Fvy34 f = F f := fun f n12 => ((hFvy34 f n12).trans ((hFvy31 f n12).trans ((hFvy28 f n12).trans ((uZ_n _ _ n12).trans rfl))))
            have hey269 : Fvy34 13 = F 13 := ((hFvy34 13 (by decide)).trans ((hFvy31 13 (by decide)).trans ((hFvy28 13 (by decide)).trans (fn rfl (by decide)))))
            have hey270 : Fvy34 14 = F 14 := ((hFvy34 14 (by decide)).trans ((hFvy31 14 (by decide)).trans ((hFvy28 14 (by decide)).trans (fn rfl (by decide)))))
            have hey271 : Fvy34 15 = F 15 := ((hFvy34 15 (by decide)).trans ((hFvy31 15 (by decide)).trans ((hFvy28 15 (by decide)).trans (fn rfl (by decide)))))
            have hey272 : Fvy34 16 = F 16 := ((hFvy34 16 (by decide)).trans ((hFvy31 16 (by decide)).trans ((hFvy28 16 (by decide)).trans (fn rfl (by decide)))))
            have hey273 : Fvy34 17 = F 17 := ((hFvy34 17 (by decide)).trans ((hFvy31 17 (by decide)).trans ((hFvy28 17 (by decide)).trans (fn rfl (by decide)))))
            have hey274 : Fvy34 18 = F 18 := ((hFvy34 18 (by decide)).trans ((hFvy31 18 (by decide)).trans ((hFvy28 18 (by decide)).trans (fn rfl (by decide)))))
            have hey275 : Fvy34 19 = F 19 := ((hFvy34 19 (by decide)).trans ((hFvy31 19 (by decide)).trans ((hFvy28 19 (by decide)).trans (fn rfl (by decide)))))
            have hey276 : Fvy34 20 = F 20 := ((hFvy34 20 (by decide)).trans ((hFvy31 20 (by decide)).trans ((hFvy28 20 (by decide)).trans (fn rfl (by decide)))))
            have hey277 : Fvy34 21 = F 21 := ((hFvy34 21 (by decide)).trans ((hFvy31 21 (by decide)).trans ((hFvy28 21 (by decide)).trans (fn rfl (by decide)))))
            have hey278 : Fvy34 23 = F 23 := ((hFvy34 23 (by decide)).trans ((hFvy31 23 (by decide)).trans ((hFvy28 23 (by decide)).trans (fn rfl (by decide)))))
            have hey279 : Fvy34 25 = F 25 := ((hFvy34 25 (by decide)).trans ((hFvy31 25 (by decide)).trans ((hFvy28 25 (by decide)).trans (fn rfl (by decide)))))
            have hey280 : Fvy34 27 = F 27 := ((hFvy34 27 (by decide)).trans ((hFvy31 27 (by decide)).trans ((hFvy28 27 (by decide)).trans (fn rfl (by decide)))))
            have hey281 : Fvy34 28 = F 28 := ((hFvy34 28 (by decide)).trans ((hFvy31 28 (by decide)).trans ((hFvy28 28 (by decide)).trans (fn rfl (by decide)))))
            have hey282 : Fvy34 29 = F 29 := ((hFvy34 29 (by decide)).trans ((hFvy31 29 (by decide)).trans ((hFvy28 29 (by decide)).trans (fn rfl (by decide)))))
            have hKy283 : okF Fvy34 := okF.mv hM.2.1 hey269 hey270 hey271 hey272 hey273 hey274 hey275 hey276 hey277 hey278 hey279 hey280 hey281 hey282
            have hMy284 : okMr cs ad gvy34 i (x + 1) Fvy34 r st op ai fa mu tb tp := okMr.upd hM hcvy34 hKy283 (fun f a => hFy268 f (by omega)) hgy267 (hA.mono (by omega)) (fun j a b => by
                exact Or.inl (by rw [hfvy34 _ (by omega)]; rw [hfvy31 _ (by omega)]; rw [hfvy28 _ (by omega)]; rw [egy25, va_up_ne _ _ (by omega)]))
            have hkpy285 : Fvy34 13 = F 13 := ((hFvy34 13 (by decide)).trans ((hFvy31 13 (by decide)).trans ((hFvy28 13 (by decide)).trans (fn rfl (by decide)))))
            have hkpy286 : Fvy34 14 = F 14 := ((hFvy34 14 (by decide)).trans ((hFvy31 14 (by decide)).trans ((hFvy28 14 (by decide)).trans (fn rfl (by decide)))))
            have hkpy287 : Fvy34 15 = F 15 := ((hFvy34 15 (by decide)).trans ((hFvy31 15 (by decide)).trans ((hFvy28 15 (by decide)).trans (fn rfl (by decide)))))
            have hkpy288 : Fvy34 16 = F 16 := ((hFvy34 16 (by decide)).trans ((hFvy31 16 (by decide)).trans ((hFvy28 16 (by decide)).trans (fn rfl (by decide)))))
            have hkpy289 : Fvy34 17 = F 17 := ((hFvy34 17 (by decide)).trans ((hFvy31 17 (by decide)).trans ((hFvy28 17 (by decide)).trans (fn rfl (by decide)))))
            have hkpy290 : Fvy34 18 = F 18 := ((hFvy34 18 (by decide)).trans ((hFvy31 18 (by decide)).trans ((hFvy28 18 (by decide)).trans (fn rfl (by decide)))))
            have hkpy291 : Fvy34 19 = F 19 := ((hFvy34 19 (by decide)).trans ((hFvy31 19 (by decide)).trans ((hFvy28 19 (by decide)).trans (fn rfl (by decide)))))
            have hkpy292 : Fvy34 20 = F 20 := ((hFvy34 20 (by decide)).trans ((hFvy31 20 (by decide)).trans ((hFvy28 20 (by decide)).trans (fn rfl (by decide)))))
            have hkpy293 : Fvy34 21 = F 21 := ((hFvy34 21 (by decide)).trans ((hFvy31 21 (by decide)).trans ((hFvy28 21 (by decide)).trans (fn rfl (by decide)))))
            have hkpy294 : Fvy34 23 = F 23 := ((hFvy34 23 (by decide)).trans ((hFvy31 23 (by decide)).trans ((hFvy28 23 (by decide)).trans (fn rfl (by decide)))))
            have hkpy295 : Fvy34 24 = F 24 := ((hFvy34 24 (by decide)).trans ((hFvy31 24 (by decide)).trans ((hFvy28 24 (by decide)).trans (fn rfl (by decide)))))
            have hkpy296 : Fvy34 25 = F 25 := ((hFvy34 25 (by decide)).trans ((hFvy31 25 (by decide)).trans ((hFvy28 25 (by decide)).trans (fn rfl (by decide)))))
            have hkpy297 : Fvy34 26 = F 26 := ((hFvy34 26 (by decide)).trans ((hFvy31 26 (by decide)).trans ((hFvy28 26 (by decide)).trans (fn rfl (by decide)))))
            have hkpy298 : Fvy34 27 = F 27 := ((hFvy34 27 (by decide)).trans ((hFvy31 27 (by decide)).trans ((hFvy28 27 (by decide)).trans (fn rfl (by decide)))))
            have hkpy299 : Fvy34 29 = F 29 := ((hFvy34 29 (by decide)).trans ((hFvy31 29 (by decide)).trans ((hFvy28 29 (by decide)).trans (fn rfl (by decide)))))
            exact z_iret C hr hlk dX10_compare_47 (by decide) (by decide) ⟨vy265, rfl, rfl, rfl, by omega, ⟨_, _, hMy284, ⟨hkpy285, hkpy286, hkpy287, hkpy288, hkpy289, hkpy290, hkpy291, hkpy292, hkpy293, hkpy294, hkpy295⟩, ⟨(hkpy296.trans hp25), (hkpy297.trans hp26), (hkpy298.trans hp27), (hkpy299.trans hp29)⟩, (fun j _ => rfl)⟩, fun j j1 => by rw [hfvy34 _ (by omega)]; rw [hfvy31 _ (by omega)]; rw [hfvy28 _ (by omega)]; rw [egy25, va_up_ne _ _ (by omega)]⟩
        · refine z_if_ne (tgt := 37) C dX10_compare_32 (by decide) (by omega) (fun h => absurd h (by omega)) (fun _ => ?_)
          refine z_iconst (z := 0) C dX10_compare_35 rfl ?_
          have hgy300 := (hfvy31 (i + 1) (ne_o (i := i) (c := 1) (d := 0) rfl)).trans hgy30
          have hgy301 := (hfvy34 (i + 1) (ne_o (i := i) (c := 1) (d := 0) rfl)).trans hgy300
          have hFy302 : ∀ f, f ≠ 12 → Fvy34 f = F f := fun f n12 => ((hFvy34 f n12).trans ((hFvy31 f n12).trans ((hFvy28 f n12).trans ((uZ_n _ _ n12).trans rfl))))
          have hey303 : Fvy34 13 = F 13 := ((hFvy34 13 (by decide)).trans ((hFvy31 13 (by decide)).trans ((hFvy28 13 (by decide)).trans (fn rfl (by decide)))))
          have hey304 : Fvy34 14 = F 14 := ((hFvy34 14 (by decide)).trans ((hFvy31 14 (by decide)).trans ((hFvy28 14 (by decide)).trans (fn rfl (by decide)))))
          have hey305 : Fvy34 15 = F 15 := ((hFvy34 15 (by decide)).trans ((hFvy31 15 (by decide)).trans ((hFvy28 15 (by decide)).trans (fn rfl (by decide)))))
          have hey306 : Fvy34 16 = F 16 := ((hFvy34 16 (by decide)).trans ((hFvy31 16 (by decide)).trans ((hFvy28 16 (by decide)).trans (fn rfl (by decide)))))
          have hey307 : Fvy34 17 = F 17 := ((hFvy34 17 (by decide)).trans ((hFvy31 17 (by decide)).trans ((hFvy28 17 (by decide)).trans (fn rfl (by decide)))))
          have hey308 : Fvy34 18 = F 18 := ((hFvy34 18 (by decide)).trans ((hFvy31 18 (by decide)).trans ((hFvy28 18 (by decide)).trans (fn rfl (by decide)))))
          have hey309 : Fvy34 19 = F 19 := ((hFvy34 19 (by decide)).trans ((hFvy31 19 (by decide)).trans ((hFvy28 19 (by decide)).trans (fn rfl (by decide)))))
          have hey310 : Fvy34 20 = F 20 := ((hFvy34 20 (by decide)).trans ((hFvy31 20 (by decide)).trans ((hFvy28 20 (by decide)).trans (fn rfl (by decide)))))
          have hey311 : Fvy34 21 = F 21 := ((hFvy34 21 (by decide)).trans ((hFvy31 21 (by decide)).trans ((hFvy28 21 (by decide)).trans (fn rfl (by decide)))))
          have hey312 : Fvy34 23 = F 23 := ((hFvy34 23 (by decide)).trans ((hFvy31 23 (by decide)).trans ((hFvy28 23 (by decide)).trans (fn rfl (by decide)))))
          have hey313 : Fvy34 25 = F 25 := ((hFvy34 25 (by decide)).trans ((hFvy31 25 (by decide)).trans ((hFvy28 25 (by decide)).trans (fn rfl (by decide)))))
          have hey314 : Fvy34 27 = F 27 := ((hFvy34 27 (by decide)).trans ((hFvy31 27 (by decide)).trans ((hFvy28 27 (by decide)).trans (fn rfl (by decide)))))
          have hey315 : Fvy34 28 = F 28 := ((hFvy34 28 (by decide)).trans ((hFvy31 28 (by decide)).trans ((hFvy28 28 (by decide)).trans (fn rfl (by decide)))))
          have hey316 : Fvy34 29 = F 29 := ((hFvy34 29 (by decide)).trans ((hFvy31 29 (by decide)).trans ((hFvy28 29 (by decide)).trans (fn rfl (by decide)))))
          have hKy317 : okF Fvy34 := okF.mv hM.2.1 hey303 hey304 hey305 hey306 hey307 hey308 hey309 hey310 hey311 hey312 hey313 hey314 hey315 hey316
          have hMy318 : okMr cs ad gvy34 i (x + 1) Fvy34 r st op ai fa mu tb tp := okMr.upd hM hcvy34 hKy317 (fun f a => hFy302 f (by omega)) hgy301 (hA.mono (by omega)) (fun j a b => by
              exact Or.inl (by rw [hfvy34 _ (by omega)]; rw [hfvy31 _ (by omega)]; rw [hfvy28 _ (by omega)]; rw [egy25, va_up_ne _ _ (by omega)]))
          have hkpy319 : Fvy34 13 = F 13 := ((hFvy34 13 (by decide)).trans ((hFvy31 13 (by decide)).trans ((hFvy28 13 (by decide)).trans (fn rfl (by decide)))))
          have hkpy320 : Fvy34 14 = F 14 := ((hFvy34 14 (by decide)).trans ((hFvy31 14 (by decide)).trans ((hFvy28 14 (by decide)).trans (fn rfl (by decide)))))
          have hkpy321 : Fvy34 15 = F 15 := ((hFvy34 15 (by decide)).trans ((hFvy31 15 (by decide)).trans ((hFvy28 15 (by decide)).trans (fn rfl (by decide)))))
          have hkpy322 : Fvy34 16 = F 16 := ((hFvy34 16 (by decide)).trans ((hFvy31 16 (by decide)).trans ((hFvy28 16 (by decide)).trans (fn rfl (by decide)))))
          have hkpy323 : Fvy34 17 = F 17 := ((hFvy34 17 (by decide)).trans ((hFvy31 17 (by decide)).trans ((hFvy28 17 (by decide)).trans (fn rfl (by decide)))))
          have hkpy324 : Fvy34 18 = F 18 := ((hFvy34 18 (by decide)).trans ((hFvy31 18 (by decide)).trans ((hFvy28 18 (by decide)).trans (fn rfl (by decide)))))
          have hkpy325 : Fvy34 19 = F 19 := ((hFvy34 19 (by decide)).trans ((hFvy31 19 (by decide)).trans ((hFvy28 19 (by decide)).trans (fn rfl (by decide)))))
          have hkpy326 : Fvy34 20 = F 20 := ((hFvy34 20 (by decide)).trans ((hFvy31 20 (by decide)).trans ((hFvy28 20 (by decide)).trans (fn rfl (by decide)))))
          have hkpy327 : Fvy34 21 = F 21 := ((hFvy34 21 (by decide)).trans ((hFvy31 21 (by decide)).trans ((hFvy28 21 (by decide)).trans (fn rfl (by decide)))))
          have hkpy328 : Fvy34 23 = F 23 := ((hFvy34 23 (by decide)).trans ((hFvy31 23 (by decide)).trans ((hFvy28 23 (by decide)).trans (fn rfl (by decide)))))
          have hkpy329 : Fvy34 24 = F 24 := ((hFvy34 24 (by decide)).trans ((hFvy31 24 (by decide)).trans ((hFvy28 24 (by decide)).trans (fn rfl (by decide)))))
          have hkpy330 : Fvy34 25 = F 25 := ((hFvy34 25 (by decide)).trans ((hFvy31 25 (by decide)).trans ((hFvy28 25 (by decide)).trans (fn rfl (by decide)))))
          have hkpy331 : Fvy34 26 = F 26 := ((hFvy34 26 (by decide)).trans ((hFvy31 26 (by decide)).trans ((hFvy28 26 (by decide)).trans (fn rfl (by decide)))))
          have hkpy332 : Fvy34 27 = F 27 := ((hFvy34 27 (by decide)).trans ((hFvy31 27 (by decide)).trans ((hFvy28 27 (by decide)).trans (fn rfl (by decide)))))
          have hkpy333 : Fvy34 29 = F 29 := ((hFvy34 29 (by decide)).trans ((hFvy31 29 (by decide)).trans ((hFvy28 29 (by decide)).trans (fn rfl (by decide)))))
          exact z_iret C hr hlk dX10_compare_36 (by decide) (by decide) ⟨0, rfl, rfl, rfl, by omega, ⟨_, _, hMy318, ⟨hkpy319, hkpy320, hkpy321, hkpy322, hkpy323, hkpy324, hkpy325, hkpy326, hkpy327, hkpy328, hkpy329⟩, ⟨(hkpy330.trans hp25), (hkpy331.trans hp26), (hkpy332.trans hp27), (hkpy333.trans hp29)⟩, (fun j _ => rfl)⟩, fun j j1 => by rw [hfvy34 _ (by omega)]; rw [hfvy31 _ (by omega)]; rw [hfvy28 _ (by omega)]; rw [egy25, va_up_ne _ _ (by omega)]⟩
      · refine z_iconst (z := 1) C dX10_compare_28 rfl ?_
        have hey335 : Fvy31 12 = Fvy31 12 := rfl
        refine z_cV (As := [.int (zI (0)), .int (zI (1))]) (rest := []) (ci := 12) C (c_X10_right l D A cs tt N ad _ i hN _ hcvy31 (by omega) (0) (by omega) (1) (by omega)) (lt_A0 hN rfl) hay1 hcvy31 rfl rfl mv_yX10_right q_1648 hd_yX10_right (by decide) (Nat.le_of_ble_eq_true rfl) (by decide) dX10_compare_29 rfl (kI0 fun vy334 gvy334 hvy334 => ?_)
        obtain ⟨hrvy334, ⟨Fvy334, hcvy334, htvy334, hFvy334⟩, hfvy334⟩ := hvy334
        obtain rfl : vy334 = 0 := by omega
        refine z_if_ne (tgt := 37) C dX10_compare_32 (by decide) (by omega) (fun h => absurd h (by omega)) (fun _ => ?_)
        refine z_iconst (z := 0) C dX10_compare_35 rfl ?_
        have hgy336 := (hfvy31 (i + 1) (ne_o (i := i) (c := 1) (d := 0) rfl)).trans hgy30
        have hgy337 := (hfvy334 (i + 1) (ne_o (i := i) (c := 1) (d := 0) rfl)).trans hgy336
        have hFy338 : ∀ f, f ≠ 12 → Fvy334 f = F f := fun f n12 => ((hFvy334 f n12).trans ((hFvy31 f n12).trans ((hFvy28 f n12).trans ((uZ_n _ _ n12).trans rfl))))
        have hey339 : Fvy334 13 = F 13 := ((hFvy334 13 (by decide)).trans ((hFvy31 13 (by decide)).trans ((hFvy28 13 (by decide)).trans (fn rfl (by decide)))))
        have hey340 : Fvy334 14 = F 14 := ((hFvy334 14 (by decide)).trans ((hFvy31 14 (by decide)).trans ((hFvy28 14 (by decide)).trans (fn rfl (by decide)))))
        have hey341 : Fvy334 15 = F 15 := ((hFvy334 15 (by decide)).trans ((hFvy31 15 (by decide)).trans ((hFvy28 15 (by decide)).trans (fn rfl (by decide)))))
        have hey342 : Fvy334 16 = F 16 := ((hFvy334 16 (by decide)).trans ((hFvy31 16 (by decide)).trans ((hFvy28 16 (by decide)).trans (fn rfl (by decide)))))
        have hey343 : Fvy334 17 = F 17 := ((hFvy334 17 (by decide)).trans ((hFvy31 17 (by decide)).trans ((hFvy28 17 (by decide)).trans (fn rfl (by decide)))))
        have hey344 : Fvy334 18 = F 18 := ((hFvy334 18 (by decide)).trans ((hFvy31 18 (by decide)).trans ((hFvy28 18 (by decide)).trans (fn rfl (by decide)))))
        have hey345 : Fvy334 19 = F 19 := ((hFvy334 19 (by decide)).trans ((hFvy31 19 (by decide)).trans ((hFvy28 19 (by decide)).trans (fn rfl (by decide)))))
        have hey346 : Fvy334 20 = F 20 := ((hFvy334 20 (by decide)).trans ((hFvy31 20 (by decide)).trans ((hFvy28 20 (by decide)).trans (fn rfl (by decide)))))
        have hey347 : Fvy334 21 = F 21 := ((hFvy334 21 (by decide)).trans ((hFvy31 21 (by decide)).trans ((hFvy28 21 (by decide)).trans (fn rfl (by decide)))))
        have hey348 : Fvy334 23 = F 23 := ((hFvy334 23 (by decide)).trans ((hFvy31 23 (by decide)).trans ((hFvy28 23 (by decide)).trans (fn rfl (by decide)))))
        have hey349 : Fvy334 25 = F 25 := ((hFvy334 25 (by decide)).trans ((hFvy31 25 (by decide)).trans ((hFvy28 25 (by decide)).trans (fn rfl (by decide)))))
        have hey350 : Fvy334 27 = F 27 := ((hFvy334 27 (by decide)).trans ((hFvy31 27 (by decide)).trans ((hFvy28 27 (by decide)).trans (fn rfl (by decide)))))
        have hey351 : Fvy334 28 = F 28 := ((hFvy334 28 (by decide)).trans ((hFvy31 28 (by decide)).trans ((hFvy28 28 (by decide)).trans (fn rfl (by decide)))))
        have hey352 : Fvy334 29 = F 29 := ((hFvy334 29 (by decide)).trans ((hFvy31 29 (by decide)).trans ((hFvy28 29 (by decide)).trans (fn rfl (by decide)))))
        have hKy353 : okF Fvy334 := okF.mv hM.2.1 hey339 hey340 hey341 hey342 hey343 hey344 hey345 hey346 hey347 hey348 hey349 hey350 hey351 hey352
        have hMy354 : okMr cs ad gvy334 i (x + 1) Fvy334 r st op ai fa mu tb tp := okMr.upd hM hcvy334 hKy353 (fun f a => hFy338 f (by omega)) hgy337 (hA.mono (by omega)) (fun j a b => by
            exact Or.inl (by rw [hfvy334 _ (by omega)]; rw [hfvy31 _ (by omega)]; rw [hfvy28 _ (by omega)]; rw [egy25, va_up_ne _ _ (by omega)]))
        have hkpy355 : Fvy334 13 = F 13 := ((hFvy334 13 (by decide)).trans ((hFvy31 13 (by decide)).trans ((hFvy28 13 (by decide)).trans (fn rfl (by decide)))))
        have hkpy356 : Fvy334 14 = F 14 := ((hFvy334 14 (by decide)).trans ((hFvy31 14 (by decide)).trans ((hFvy28 14 (by decide)).trans (fn rfl (by decide)))))
        have hkpy357 : Fvy334 15 = F 15 := ((hFvy334 15 (by decide)).trans ((hFvy31 15 (by decide)).trans ((hFvy28 15 (by decide)).trans (fn rfl (by decide)))))
        have hkpy358 : Fvy334 16 = F 16 := ((hFvy334 16 (by decide)).trans ((hFvy31 16 (by decide)).trans ((hFvy28 16 (by decide)).trans (fn rfl (by decide)))))
        have hkpy359 : Fvy334 17 = F 17 := ((hFvy334 17 (by decide)).trans ((hFvy31 17 (by decide)).trans ((hFvy28 17 (by decide)).trans (fn rfl (by decide)))))
        have hkpy360 : Fvy334 18 = F 18 := ((hFvy334 18 (by decide)).trans ((hFvy31 18 (by decide)).trans ((hFvy28 18 (by decide)).trans (fn rfl (by decide)))))
        have hkpy361 : Fvy334 19 = F 19 := ((hFvy334 19 (by decide)).trans ((hFvy31 19 (by decide)).trans ((hFvy28 19 (by decide)).trans (fn rfl (by decide)))))
        have hkpy362 : Fvy334 20 = F 20 := ((hFvy334 20 (by decide)).trans ((hFvy31 20 (by decide)).trans ((hFvy28 20 (by decide)).trans (fn rfl (by decide)))))
        have hkpy363 : Fvy334 21 = F 21 := ((hFvy334 21 (by decide)).trans ((hFvy31 21 (by decide)).trans ((hFvy28 21 (by decide)).trans (fn rfl (by decide)))))
        have hkpy364 : Fvy334 23 = F 23 := ((hFvy334 23 (by decide)).trans ((hFvy31 23 (by decide)).trans ((hFvy28 23 (by decide)).trans (fn rfl (by decide)))))
        have hkpy365 : Fvy334 24 = F 24 := ((hFvy334 24 (by decide)).trans ((hFvy31 24 (by decide)).trans ((hFvy28 24 (by decide)).trans (fn rfl (by decide)))))
        have hkpy366 : Fvy334 25 = F 25 := ((hFvy334 25 (by decide)).trans ((hFvy31 25 (by decide)).trans ((hFvy28 25 (by decide)).trans (fn rfl (by decide)))))
        have hkpy367 : Fvy334 26 = F 26 := ((hFvy334 26 (by decide)).trans ((hFvy31 26 (by decide)).trans ((hFvy28 26 (by decide)).trans (fn rfl (by decide)))))
        have hkpy368 : Fvy334 27 = F 27 := ((hFvy334 27 (by decide)).trans ((hFvy31 27 (by decide)).trans ((hFvy28 27 (by decide)).trans (fn rfl (by decide)))))
        have hkpy369 : Fvy334 29 = F 29 := ((hFvy334 29 (by decide)).trans ((hFvy31 29 (by decide)).trans ((hFvy28 29 (by decide)).trans (fn rfl (by decide)))))
        exact z_iret C hr hlk dX10_compare_36 (by decide) (by decide) ⟨0, rfl, rfl, rfl, by omega, ⟨_, _, hMy354, ⟨hkpy355, hkpy356, hkpy357, hkpy358, hkpy359, hkpy360, hkpy361, hkpy362, hkpy363, hkpy364, hkpy365⟩, ⟨(hkpy366.trans hp25), (hkpy367.trans hp26), (hkpy368.trans hp27), (hkpy369.trans hp29)⟩, (fun j _ => rfl)⟩, fun j j1 => by rw [hfvy334 _ (by omega)]; rw [hfvy31 _ (by omega)]; rw [hfvy28 _ (by omega)]; rw [egy25, va_up_ne _ _ (by omega)]⟩
    · refine z_if_eq (tgt := 35) C dX10_compare_18 (by decide) (by omega) (fun _ => ?_) (fun h => absurd h (by omega))
      refine z_iconst (z := 0) C dX10_compare_35 rfl ?_
      have hgy370 := (hfvy31 (i + 1) (ne_o (i := i) (c := 1) (d := 0) rfl)).trans hgy30
      have hFy371 : ∀ f, f ≠ 12 → Fvy31 f = F f := fun f n12 => ((hFvy31 f n12).trans ((hFvy28 f n12).trans ((uZ_n _ _ n12).trans rfl)))
      have hey372 : Fvy31 13 = F 13 := ((hFvy31 13 (by decide)).trans ((hFvy28 13 (by decide)).trans (fn rfl (by decide))))
      have hey373 : Fvy31 14 = F 14 := ((hFvy31 14 (by decide)).trans ((hFvy28 14 (by decide)).trans (fn rfl (by decide))))
      have hey374 : Fvy31 15 = F 15 := ((hFvy31 15 (by decide)).trans ((hFvy28 15 (by decide)).trans (fn rfl (by decide))))
      have hey375 : Fvy31 16 = F 16 := ((hFvy31 16 (by decide)).trans ((hFvy28 16 (by decide)).trans (fn rfl (by decide))))
      have hey376 : Fvy31 17 = F 17 := ((hFvy31 17 (by decide)).trans ((hFvy28 17 (by decide)).trans (fn rfl (by decide))))
      have hey377 : Fvy31 18 = F 18 := ((hFvy31 18 (by decide)).trans ((hFvy28 18 (by decide)).trans (fn rfl (by decide))))
      have hey378 : Fvy31 19 = F 19 := ((hFvy31 19 (by decide)).trans ((hFvy28 19 (by decide)).trans (fn rfl (by decide))))
      have hey379 : Fvy31 20 = F 20 := ((hFvy31 20 (by decide)).trans ((hFvy28 20 (by decide)).trans (fn rfl (by decide))))
      have hey380 : Fvy31 21 = F 21 := ((hFvy31 21 (by decide)).trans ((hFvy28 21 (by decide)).trans (fn rfl (by decide))))
      have hey381 : Fvy31 23 = F 23 := ((hFvy31 23 (by decide)).trans ((hFvy28 23 (by decide)).trans (fn rfl (by decide))))
      have hey382 : Fvy31 25 = F 25 := ((hFvy31 25 (by decide)).trans ((hFvy28 25 (by decide)).trans (fn rfl (by decide))))
      have hey383 : Fvy31 27 = F 27 := ((hFvy31 27 (by decide)).trans ((hFvy28 27 (by decide)).trans (fn rfl (by decide))))
      have hey384 : Fvy31 28 = F 28 := ((hFvy31 28 (by decide)).trans ((hFvy28 28 (by decide)).trans (fn rfl (by decide))))
      have hey385 : Fvy31 29 = F 29 := ((hFvy31 29 (by decide)).trans ((hFvy28 29 (by decide)).trans (fn rfl (by decide))))
      have hKy386 : okF Fvy31 := okF.mv hM.2.1 hey372 hey373 hey374 hey375 hey376 hey377 hey378 hey379 hey380 hey381 hey382 hey383 hey384 hey385
      have hMy387 : okMr cs ad gvy31 i (x + 1) Fvy31 r st op ai fa mu tb tp := okMr.upd hM hcvy31 hKy386 (fun f a => hFy371 f (by omega)) hgy370 (hA.mono (by omega)) (fun j a b => by
          exact Or.inl (by rw [hfvy31 _ (by omega)]; rw [hfvy28 _ (by omega)]; rw [egy25, va_up_ne _ _ (by omega)]))
      have hkpy388 : Fvy31 13 = F 13 := ((hFvy31 13 (by decide)).trans ((hFvy28 13 (by decide)).trans (fn rfl (by decide))))
      have hkpy389 : Fvy31 14 = F 14 := ((hFvy31 14 (by decide)).trans ((hFvy28 14 (by decide)).trans (fn rfl (by decide))))
      have hkpy390 : Fvy31 15 = F 15 := ((hFvy31 15 (by decide)).trans ((hFvy28 15 (by decide)).trans (fn rfl (by decide))))
      have hkpy391 : Fvy31 16 = F 16 := ((hFvy31 16 (by decide)).trans ((hFvy28 16 (by decide)).trans (fn rfl (by decide))))
      have hkpy392 : Fvy31 17 = F 17 := ((hFvy31 17 (by decide)).trans ((hFvy28 17 (by decide)).trans (fn rfl (by decide))))
      have hkpy393 : Fvy31 18 = F 18 := ((hFvy31 18 (by decide)).trans ((hFvy28 18 (by decide)).trans (fn rfl (by decide))))
      have hkpy394 : Fvy31 19 = F 19 := ((hFvy31 19 (by decide)).trans ((hFvy28 19 (by decide)).trans (fn rfl (by decide))))
      have hkpy395 : Fvy31 20 = F 20 := ((hFvy31 20 (by decide)).trans ((hFvy28 20 (by decide)).trans (fn rfl (by decide))))
      have hkpy396 : Fvy31 21 = F 21 := ((hFvy31 21 (by decide)).trans ((hFvy28 21 (by decide)).trans (fn rfl (by decide))))
      have hkpy397 : Fvy31 23 = F 23 := ((hFvy31 23 (by decide)).trans ((hFvy28 23 (by decide)).trans (fn rfl (by decide))))
      have hkpy398 : Fvy31 24 = F 24 := ((hFvy31 24 (by decide)).trans ((hFvy28 24 (by decide)).trans (fn rfl (by decide))))
      have hkpy399 : Fvy31 25 = F 25 := ((hFvy31 25 (by decide)).trans ((hFvy28 25 (by decide)).trans (fn rfl (by decide))))
      have hkpy400 : Fvy31 26 = F 26 := ((hFvy31 26 (by decide)).trans ((hFvy28 26 (by decide)).trans (fn rfl (by decide))))
      have hkpy401 : Fvy31 27 = F 27 := ((hFvy31 27 (by decide)).trans ((hFvy28 27 (by decide)).trans (fn rfl (by decide))))
      have hkpy402 : Fvy31 29 = F 29 := ((hFvy31 29 (by decide)).trans ((hFvy28 29 (by decide)).trans (fn rfl (by decide))))
      exact z_iret C hr hlk dX10_compare_36 (by decide) (by decide) ⟨0, rfl, rfl, rfl, by omega, ⟨_, _, hMy387, ⟨hkpy388, hkpy389, hkpy390, hkpy391, hkpy392, hkpy393, hkpy394, hkpy395, hkpy396, hkpy397, hkpy398⟩, ⟨(hkpy399.trans hp25), (hkpy400.trans hp26), (hkpy401.trans hp27), (hkpy402.trans hp29)⟩, (fun j _ => rfl)⟩, fun j j1 => by rw [hfvy31 _ (by omega)]; rw [hfvy28 _ (by omega)]; rw [egy25, va_up_ne _ _ (by omega)]⟩
  · refine z_if_eq (tgt := 35) C dX10_compare_10 (by decide) (by omega) (fun _ => ?_) (fun h => absurd h (by omega))
    refine z_iconst (z := 0) C dX10_compare_35 rfl ?_
    have hgy403 := (hfvy28 (i + 1) (ne_o (i := i) (c := 1) (d := 0) rfl)).trans hgy27
    have hFy404 : ∀ f, f ≠ 12 → Fvy28 f = F f := fun f n12 => ((hFvy28 f n12).trans ((uZ_n _ _ n12).trans rfl))
    have hey405 : Fvy28 13 = F 13 := ((hFvy28 13 (by decide)).trans (fn rfl (by decide)))
    have hey406 : Fvy28 14 = F 14 := ((hFvy28 14 (by decide)).trans (fn rfl (by decide)))
    have hey407 : Fvy28 15 = F 15 := ((hFvy28 15 (by decide)).trans (fn rfl (by decide)))
    have hey408 : Fvy28 16 = F 16 := ((hFvy28 16 (by decide)).trans (fn rfl (by decide)))
    have hey409 : Fvy28 17 = F 17 := ((hFvy28 17 (by decide)).trans (fn rfl (by decide)))
    have hey410 : Fvy28 18 = F 18 := ((hFvy28 18 (by decide)).trans (fn rfl (by decide)))
    have hey411 : Fvy28 19 = F 19 := ((hFvy28 19 (by decide)).trans (fn rfl (by decide)))
    have hey412 : Fvy28 20 = F 20 := ((hFvy28 20 (by decide)).trans (fn rfl (by decide)))
    have hey413 : Fvy28 21 = F 21 := ((hFvy28 21 (by decide)).trans (fn rfl (by decide)))
    have hey414 : Fvy28 23 = F 23 := ((hFvy28 23 (by decide)).trans (fn rfl (by decide)))
    have hey415 : Fvy28 25 = F 25 := ((hFvy28 25 (by decide)).trans (fn rfl (by decide)))
    have hey416 : Fvy28 27 = F 27 := ((hFvy28 27 (by decide)).trans (fn rfl (by decide)))
    have hey417 : Fvy28 28 = F 28 := ((hFvy28 28 (by decide)).trans (fn rfl (by decide)))
    have hey418 : Fvy28 29 = F 29 := ((hFvy28 29 (by decide)).trans (fn rfl (by decide)))
    have hKy419 : okF Fvy28 := okF.mv hM.2.1 hey405 hey406 hey407 hey408 hey409 hey410 hey411 hey412 hey413 hey414 hey415 hey416 hey417 hey418
    have hMy420 : okMr cs ad gvy28 i (x + 1) Fvy28 r st op ai fa mu tb tp := okMr.upd hM hcvy28 hKy419 (fun f a => hFy404 f (by omega)) hgy403 (hA.mono (by omega)) (fun j a b => by
        exact Or.inl (by rw [hfvy28 _ (by omega)]; rw [egy25, va_up_ne _ _ (by omega)]))
    have hkpy421 : Fvy28 13 = F 13 := ((hFvy28 13 (by decide)).trans (fn rfl (by decide)))
    have hkpy422 : Fvy28 14 = F 14 := ((hFvy28 14 (by decide)).trans (fn rfl (by decide)))
    have hkpy423 : Fvy28 15 = F 15 := ((hFvy28 15 (by decide)).trans (fn rfl (by decide)))
    have hkpy424 : Fvy28 16 = F 16 := ((hFvy28 16 (by decide)).trans (fn rfl (by decide)))
    have hkpy425 : Fvy28 17 = F 17 := ((hFvy28 17 (by decide)).trans (fn rfl (by decide)))
    have hkpy426 : Fvy28 18 = F 18 := ((hFvy28 18 (by decide)).trans (fn rfl (by decide)))
    have hkpy427 : Fvy28 19 = F 19 := ((hFvy28 19 (by decide)).trans (fn rfl (by decide)))
    have hkpy428 : Fvy28 20 = F 20 := ((hFvy28 20 (by decide)).trans (fn rfl (by decide)))
    have hkpy429 : Fvy28 21 = F 21 := ((hFvy28 21 (by decide)).trans (fn rfl (by decide)))
    have hkpy430 : Fvy28 23 = F 23 := ((hFvy28 23 (by decide)).trans (fn rfl (by decide)))
    have hkpy431 : Fvy28 24 = F 24 := ((hFvy28 24 (by decide)).trans (fn rfl (by decide)))
    have hkpy432 : Fvy28 25 = F 25 := ((hFvy28 25 (by decide)).trans (fn rfl (by decide)))
    have hkpy433 : Fvy28 26 = F 26 := ((hFvy28 26 (by decide)).trans (fn rfl (by decide)))
    have hkpy434 : Fvy28 27 = F 27 := ((hFvy28 27 (by decide)).trans (fn rfl (by decide)))
    have hkpy435 : Fvy28 29 = F 29 := ((hFvy28 29 (by decide)).trans (fn rfl (by decide)))
    exact z_iret C hr hlk dX10_compare_36 (by decide) (by decide) ⟨0, rfl, rfl, rfl, by omega, ⟨_, _, hMy420, ⟨hkpy421, hkpy422, hkpy423, hkpy424, hkpy425, hkpy426, hkpy427, hkpy428, hkpy429, hkpy430, hkpy431⟩, ⟨(hkpy432.trans hp25), (hkpy433.trans hp26), (hkpy434.trans hp27), (hkpy435.trans hp29)⟩, (fun j _ => rfl)⟩, fun j j1 => by rw [hfvy28 _ (by omega)]; rw [egy25, va_up_ne _ _ (by omega)]⟩

set_option maxRecDepth 100000 in
set_option maxHeartbeats 4000000 in
theorem c_X10_compare_ab (l : Launch) (D : va_G) (A : Nat → Prop) (cs : Nat → ClassId) (tt : Nat) (N : Nat) (ad : Nat → Nat) (g : Nat → va_E) (i : Nat) (hN : i + 30 ≤ N) (x : Int) (hx : 0 ≤ x ∧ x ≤ 512) (F r : Nat → Int) {st op ai fa mu tb tp : Nat → Int} (hM : okMr cs ad g i x F r st op ai fa mu tb tp) (hPl : F 25 = 0 ∧ F 26 = -1 ∧ F 27 = -1 ∧ F 29 = 0) (n0 : Nat) (hn0 : n0 < 6) (z1 : Int) (hz1 : -2147483648 ≤ z1 ∧ z1 ≤ 2147483647) (ho1 : z1 < 0 ∨ 5 < z1) (z2 : Int) (hz2 : -2147483648 ≤ z2 ∧ z2 ≤ 2147483647) : zM l yX10_compare cX10_compare 4 (some .int) ({ frames := 10, cells := 0, slots := 0, locals := 600 } : Room) D A cs tt N ad g [.ref (ad i), .int (zI ((n0 : Int))), .int (zI (z1)), .int (zI (z2))] (rI0 N ad fun q g' => (-2147483648 ≤ q ∧ q ≤ 2147483647) ∧ (∃ F' r' : Nat → Int, okMr cs ad g' i (x + 1) F' r' st op ai fa mu tb tp ∧ (F' 13 = F 13 ∧ F' 14 = F 14 ∧ F' 15 = F 15 ∧ F' 16 = F 16 ∧ F' 17 = F 17 ∧ F' 18 = F 18 ∧ F' 19 = F 19 ∧ F' 20 = F 20 ∧ F' 21 = F 21 ∧ F' 23 = F 23 ∧ F' 24 = F 24) ∧ (F' 25 = 0 ∧ F' 26 = -1 ∧ F' 27 = -1 ∧ F' 29 = 0) ∧ (∀ j, j < 350 ∨ 700 ≤ j → r' j = r j)) ∧ ∀ j, j < i ∨ i + 30 ≤ j ∨ (i + 8 ≤ j ∧ j ≤ i + 12) → g' j = g j) := by
  obtain ⟨hg, ⟨⟨e13, e14, e25, e27, e29⟩, k15, k16, k17, k18, k19, k20, k23, k21⟩, hRD, hTx, hA, ns, nh, nd, rf, pi, te, ki, li, ok1, ok2, fo, dd, dps, ⟨ha1, ha2, ha3, ha4, ha5, ha6, ha7, ha8, ha9, ha10, ha11, ha12, ha13, ha14, ha15, ha24, ha25, ha26, ha27, ha28, ha29⟩, hEv, hPt, hns, htp⟩ := id hM
  obtain ⟨-, hop, hai, hfa, hT, hT1⟩ := id hEv
  have hay1 : zAt ad (i) (ad i) := rfl
  have hay2 : zAt ad (i + 1) (ad (i + 1)) := rfl
  have hay3 : zAt ad (i + 2) (ad (i + 2)) := rfl
  have hay4 : zAt ad (i + 3) (ad (i + 3)) := rfl
  have hay5 : zAt ad (i + 4) (ad (i + 4)) := rfl
  have hay6 : zAt ad (i + 5) (ad (i + 5)) := rfl
  have hay7 : zAt ad (i + 6) (ad (i + 6)) := rfl
  have hay8 : zAt ad (i + 7) (ad (i + 7)) := rfl
  have hay9 : zAt ad (i + 8) (ad (i + 8)) := rfl
  have hay10 : zAt ad (i + 9) (ad (i + 9)) := rfl
  have hay11 : zAt ad (i + 10) (ad (i + 10)) := rfl
  have hay12 : zAt ad (i + 11) (ad (i + 11)) := rfl
  have hay13 : zAt ad (i + 12) (ad (i + 12)) := rfl
  have hay14 : zAt ad (i + 13) (ad (i + 13)) := rfl
  have hay15 : zAt ad (i + 14) (ad (i + 14)) := rfl
  have hay16 : zAt ad (i + 15) (ad (i + 15)) := rfl
  have hay17 : zAt ad (i + 24) (ad (i + 24)) := rfl
  have hay18 : zAt ad (i + 25) (ad (i + 25)) := rfl
  have hay19 : zAt ad (i + 26) (ad (i + 26)) := rfl
  have hay20 : zAt ad (i + 27) (ad (i + 27)) := rfl
  have hay21 : zAt ad (i + 28) (ad (i + 28)) := rfl
  have hay22 : zAt ad (i + 29) (ad (i + 29)) := rfl
  obtain ⟨⟨hsyy23, htyy23, hnyy23, hpyy23⟩, hlyy23⟩ := okA.at0 hA
  simp only [Nat.zero_add] at hsyy23 hnyy23 hpyy23
  have hmn : ∀ s, s < 4 → 0 ≤ r (6 + 86 * s) ∧ r (6 + 86 * s) ≤ 12 := fun s hs => (hsyy23 s hs).1
  have h5 : 0 ≤ r 5 ∧ r 5 ≤ 6 := hpyy23
  obtain ⟨hp25, hp26, hp27, hp29⟩ := id hPl
  refine z_of (by decide) (Nat.le_of_ble_eq_true rfl) ?_
  intro pZ eZ sZ mZ below meth cZ C hr hlk hnm
  refine z_lv (lv' := [(0, .ref (ad i)), (1, .int (zI ((n0 : Int)))), (2, .int (zI (z1))), (3, .int (zI (z2)))]) [0, 1, 2, 3] rfl ?_
  refine z_aload_n C 0 dX10_compare_0 rfl ?_
  refine z_iconst (z := 0) C dX10_compare_1 rfl ?_
  refine z_put (fs' := mF ad (i) (uZ F 12 (0))) C (lt_A0 hN rfl) hay1 hg tyX10 tyX10_ok nmX10 rfl inA_X10 12 (by decide) q_1471 rfl rfl rfl rfl (Nat.le_of_ble_eq_true rfl) rfl dX10_compare_2 (fun gy24 egy25 => ?_)
  have hgy26 := up_s egy25
  refine z_aload_n C 0 dX10_compare_5 rfl ?_
  refine z_iload_n C 1 dX10_compare_6 rfl ?_
  have hgy27 := up_n egy25 ha1 (ne_o (i := i) (c := 1) (d := 0) rfl)
  have hey29 : (uZ F 12 (0)) 12 = 0 := (uZ_s _ _ _)
  refine z_cV (As := [.int (zI ((n0 : Int)))]) (rest := []) (ci := 12) C (c_X10_isPit l D A cs tt N ad _ i hN _ hgy26 _ hgy27 (by omega) h5 ((n0 : Int)) (by omega)) (lt_A0 hN rfl) hay1 hgy26 rfl rfl mv_yX10_isPit q_2027 hd_yX10_isPit (by decide) (Nat.le_of_ble_eq_true rfl) (by decide) dX10_compare_7 rfl (kI0 fun vy28 gvy28 hvy28 => ?_)
  obtain ⟨hrvy28, ⟨Fvy28, hcvy28, htvy28, hFvy28⟩, hfvy28⟩ := hvy28
  rcases (show vy28 = 1 ∨ vy28 = 0 by omega) with rfl | rfl
  · have hxvy28 := hrvy28.2 rfl
    refine z_if_eq (tgt := 35) C dX10_compare_10 (by decide) (by omega) (fun h => absurd h (by omega)) (fun _ => ?_)
    refine z_aload_n C 0 dX10_compare_13 rfl ?_
    refine z_iload_n C 2 dX10_compare_14 rfl ?_
    have hgy30 := (hfvy28 (i + 1) (ne_o (i := i) (c := 1) (d := 0) rfl)).trans hgy27
    have hey32 : Fvy28 12 = Fvy28 12 := rfl
    refine z_cV (As := [.int (zI (z1))]) (rest := []) (ci := 12) C (c_X10_isPit l D A cs tt N ad _ i hN _ hcvy28 _ hgy30 (by omega) h5 (z1) (by omega)) (lt_A0 hN rfl) hay1 hcvy28 rfl rfl mv_yX10_isPit q_2027 hd_yX10_isPit (by decide) (Nat.le_of_ble_eq_true rfl) (by decide) dX10_compare_15 rfl (kI0 fun vy31 gvy31 hvy31 => ?_)
    obtain ⟨hrvy31, ⟨Fvy31, hcvy31, htvy31, hFvy31⟩, hfvy31⟩ := hvy31
    obtain rfl : vy31 = 0 := by omega
    refine z_if_eq (tgt := 35) C dX10_compare_18 (by decide) (by omega) (fun _ => ?_) (fun h => absurd h (by omega))
    refine z_iconst (z := 0) C dX10_compare_35 rfl ?_
    have hgy33 := (hfvy31 (i + 1) (ne_o (i := i) (c := 1) (d := 0) rfl)).trans hgy30
    have hFy34 : ∀ f, f ≠ 12 → Fvy31 f = F f := fun f n12 => ((hFvy31 f n12).trans ((hFvy28 f n12).trans ((uZ_n _ _ n12).trans rfl)))
    have hey35 : Fvy31 13 = F 13 := ((hFvy31 13 (by decide)).trans ((hFvy28 13 (by decide)).trans (fn rfl (by decide))))
    have hey36 : Fvy31 14 = F 14 := ((hFvy31 14 (by decide)).trans ((hFvy28 14 (by decide)).trans (fn rfl (by decide))))
    have hey37 : Fvy31 15 = F 15 := ((hFvy31 15 (by decide)).trans ((hFvy28 15 (by decide)).trans (fn rfl (by decide))))
    have hey38 : Fvy31 16 = F 16 := ((hFvy31 16 (by decide)).trans ((hFvy28 16 (by decide)).trans (fn rfl (by decide))))
    have hey39 : Fvy31 17 = F 17 := ((hFvy31 17 (by decide)).trans ((hFvy28 17 (by decide)).trans (fn rfl (by decide))))
    have hey40 : Fvy31 18 = F 18 := ((hFvy31 18 (by decide)).trans ((hFvy28 18 (by decide)).trans (fn rfl (by decide))))
    have hey41 : Fvy31 19 = F 19 := ((hFvy31 19 (by decide)).trans ((hFvy28 19 (by decide)).trans (fn rfl (by decide))))
    have hey42 : Fvy31 20 = F 20 := ((hFvy31 20 (by decide)).trans ((hFvy28 20 (by decide)).trans (fn rfl (by decide))))
    have hey43 : Fvy31 21 = F 21 := ((hFvy31 21 (by decide)).trans ((hFvy28 21 (by decide)).trans (fn rfl (by decide))))
    have hey44 : Fvy31 23 = F 23 := ((hFvy31 23 (by decide)).trans ((hFvy28 23 (by decide)).trans (fn rfl (by decide))))
    have hey45 : Fvy31 25 = F 25 := ((hFvy31 25 (by decide)).trans ((hFvy28 25 (by decide)).trans (fn rfl (by decide))))
    have hey46 : Fvy31 27 = F 27 := ((hFvy31 27 (by decide)).trans ((hFvy28 27 (by decide)).trans (fn rfl (by decide))))
    have hey47 : Fvy31 28 = F 28 := ((hFvy31 28 (by decide)).trans ((hFvy28 28 (by decide)).trans (fn rfl (by decide))))
    have hey48 : Fvy31 29 = F 29 := ((hFvy31 29 (by decide)).trans ((hFvy28 29 (by decide)).trans (fn rfl (by decide))))
    have hKy49 : okF Fvy31 := okF.mv hM.2.1 hey35 hey36 hey37 hey38 hey39 hey40 hey41 hey42 hey43 hey44 hey45 hey46 hey47 hey48
    have hMy50 : okMr cs ad gvy31 i (x + 1) Fvy31 r st op ai fa mu tb tp := okMr.upd hM hcvy31 hKy49 (fun f a => hFy34 f (by omega)) hgy33 (hA.mono (by omega)) (fun j a b => by
        exact Or.inl (by rw [hfvy31 _ (by omega)]; rw [hfvy28 _ (by omega)]; rw [egy25, va_up_ne _ _ (by omega)]))
    have hkpy51 : Fvy31 13 = F 13 := ((hFvy31 13 (by decide)).trans ((hFvy28 13 (by decide)).trans (fn rfl (by decide))))
    have hkpy52 : Fvy31 14 = F 14 := ((hFvy31 14 (by decide)).trans ((hFvy28 14 (by decide)).trans (fn rfl (by decide))))
    have hkpy53 : Fvy31 15 = F 15 := ((hFvy31 15 (by decide)).trans ((hFvy28 15 (by decide)).trans (fn rfl (by decide))))
    have hkpy54 : Fvy31 16 = F 16 := ((hFvy31 16 (by decide)).trans ((hFvy28 16 (by decide)).trans (fn rfl (by decide))))
    have hkpy55 : Fvy31 17 = F 17 := ((hFvy31 17 (by decide)).trans ((hFvy28 17 (by decide)).trans (fn rfl (by decide))))
    have hkpy56 : Fvy31 18 = F 18 := ((hFvy31 18 (by decide)).trans ((hFvy28 18 (by decide)).trans (fn rfl (by decide))))
    have hkpy57 : Fvy31 19 = F 19 := ((hFvy31 19 (by decide)).trans ((hFvy28 19 (by decide)).trans (fn rfl (by decide))))
    have hkpy58 : Fvy31 20 = F 20 := ((hFvy31 20 (by decide)).trans ((hFvy28 20 (by decide)).trans (fn rfl (by decide))))
    have hkpy59 : Fvy31 21 = F 21 := ((hFvy31 21 (by decide)).trans ((hFvy28 21 (by decide)).trans (fn rfl (by decide))))
    have hkpy60 : Fvy31 23 = F 23 := ((hFvy31 23 (by decide)).trans ((hFvy28 23 (by decide)).trans (fn rfl (by decide))))
    have hkpy61 : Fvy31 24 = F 24 := ((hFvy31 24 (by decide)).trans ((hFvy28 24 (by decide)).trans (fn rfl (by decide))))
    have hkpy62 : Fvy31 25 = F 25 := ((hFvy31 25 (by decide)).trans ((hFvy28 25 (by decide)).trans (fn rfl (by decide))))
    have hkpy63 : Fvy31 26 = F 26 := ((hFvy31 26 (by decide)).trans ((hFvy28 26 (by decide)).trans (fn rfl (by decide))))
    have hkpy64 : Fvy31 27 = F 27 := ((hFvy31 27 (by decide)).trans ((hFvy28 27 (by decide)).trans (fn rfl (by decide))))
    have hkpy65 : Fvy31 29 = F 29 := ((hFvy31 29 (by decide)).trans ((hFvy28 29 (by decide)).trans (fn rfl (by decide))))
    exact z_iret C hr hlk dX10_compare_36 (by decide) (by decide) ⟨0, rfl, rfl, rfl, by omega, ⟨_, _, hMy50, ⟨hkpy51, hkpy52, hkpy53, hkpy54, hkpy55, hkpy56, hkpy57, hkpy58, hkpy59, hkpy60, hkpy61⟩, ⟨(hkpy62.trans hp25), (hkpy63.trans hp26), (hkpy64.trans hp27), (hkpy65.trans hp29)⟩, (fun j _ => rfl)⟩, fun j j1 => by rw [hfvy31 _ (by omega)]; rw [hfvy28 _ (by omega)]; rw [egy25, va_up_ne _ _ (by omega)]⟩
  · refine z_if_eq (tgt := 35) C dX10_compare_10 (by decide) (by omega) (fun _ => ?_) (fun h => absurd h (by omega))
    refine z_iconst (z := 0) C dX10_compare_35 rfl ?_
    have hgy66 := (hfvy28 (i + 1) (ne_o (i := i) (c := 1) (d := 0) rfl)).trans hgy27
    have hFy67 : ∀ f, f ≠ 12 → Fvy28 f = F f := fun f n12 => ((hFvy28 f n12).trans ((uZ_n _ _ n12).trans rfl))
    have hey68 : Fvy28 13 = F 13 := ((hFvy28 13 (by decide)).trans (fn rfl (by decide)))
    have hey69 : Fvy28 14 = F 14 := ((hFvy28 14 (by decide)).trans (fn rfl (by decide)))
    have hey70 : Fvy28 15 = F 15 := ((hFvy28 15 (by decide)).trans (fn rfl (by decide)))
    have hey71 : Fvy28 16 = F 16 := ((hFvy28 16 (by decide)).trans (fn rfl (by decide)))
    have hey72 : Fvy28 17 = F 17 := ((hFvy28 17 (by decide)).trans (fn rfl (by decide)))
    have hey73 : Fvy28 18 = F 18 := ((hFvy28 18 (by decide)).trans (fn rfl (by decide)))
    have hey74 : Fvy28 19 = F 19 := ((hFvy28 19 (by decide)).trans (fn rfl (by decide)))
    have hey75 : Fvy28 20 = F 20 := ((hFvy28 20 (by decide)).trans (fn rfl (by decide)))
    have hey76 : Fvy28 21 = F 21 := ((hFvy28 21 (by decide)).trans (fn rfl (by decide)))
    have hey77 : Fvy28 23 = F 23 := ((hFvy28 23 (by decide)).trans (fn rfl (by decide)))
    have hey78 : Fvy28 25 = F 25 := ((hFvy28 25 (by decide)).trans (fn rfl (by decide)))
    have hey79 : Fvy28 27 = F 27 := ((hFvy28 27 (by decide)).trans (fn rfl (by decide)))
    have hey80 : Fvy28 28 = F 28 := ((hFvy28 28 (by decide)).trans (fn rfl (by decide)))
    have hey81 : Fvy28 29 = F 29 := ((hFvy28 29 (by decide)).trans (fn rfl (by decide)))
    have hKy82 : okF Fvy28 := okF.mv hM.2.1 hey68 hey69 hey70 hey71 hey72 hey73 hey74 hey75 hey76 hey77 hey78 hey79 hey80 hey81
    have hMy83 : okMr cs ad gvy28 i (x + 1) Fvy28 r st op ai fa mu tb tp := okMr.upd hM hcvy28 hKy82 (fun f a => hFy67 f (by omega)) hgy66 (hA.mono (by omega)) (fun j a b => by
        exact Or.inl (by rw [hfvy28 _ (by omega)]; rw [egy25, va_up_ne _ _ (by omega)]))
    have hkpy84 : Fvy28 13 = F 13 := ((hFvy28 13 (by decide)).trans (fn rfl (by decide)))
    have hkpy85 : Fvy28 14 = F 14 := ((hFvy28 14 (by decide)).trans (fn rfl (by decide)))
    have hkpy86 : Fvy28 15 = F 15 := ((hFvy28 15 (by decide)).trans (fn rfl (by decide)))
    have hkpy87 : Fvy28 16 = F 16 := ((hFvy28 16 (by decide)).trans (fn rfl (by decide)))
    have hkpy88 : Fvy28 17 = F 17 := ((hFvy28 17 (by decide)).trans (fn rfl (by decide)))
    have hkpy89 : Fvy28 18 = F 18 := ((hFvy28 18 (by decide)).trans (fn rfl (by decide)))
    have hkpy90 : Fvy28 19 = F 19 := ((hFvy28 19 (by decide)).trans (fn rfl (by decide)))
    have hkpy91 : Fvy28 20 = F 20 := ((hFvy28 20 (by decide)).trans (fn rfl (by decide)))
    have hkpy92 : Fvy28 21 = F 21 := ((hFvy28 21 (by decide)).trans (fn rfl (by decide)))
    have hkpy93 : Fvy28 23 = F 23 := ((hFvy28 23 (by decide)).trans (fn rfl (by decide)))
    have hkpy94 : Fvy28 24 = F 24 := ((hFvy28 24 (by decide)).trans (fn rfl (by decide)))
    have hkpy95 : Fvy28 25 = F 25 := ((hFvy28 25 (by decide)).trans (fn rfl (by decide)))
    have hkpy96 : Fvy28 26 = F 26 := ((hFvy28 26 (by decide)).trans (fn rfl (by decide)))
    have hkpy97 : Fvy28 27 = F 27 := ((hFvy28 27 (by decide)).trans (fn rfl (by decide)))
    have hkpy98 : Fvy28 29 = F 29 := ((hFvy28 29 (by decide)).trans (fn rfl (by decide)))
    exact z_iret C hr hlk dX10_compare_36 (by decide) (by decide) ⟨0, rfl, rfl, rfl, by omega, ⟨_, _, hMy83, ⟨hkpy84, hkpy85, hkpy86, hkpy87, hkpy88, hkpy89, hkpy90, hkpy91, hkpy92, hkpy93, hkpy94⟩, ⟨(hkpy95.trans hp25), (hkpy96.trans hp26), (hkpy97.trans hp27), (hkpy98.trans hp29)⟩, (fun j _ => rfl)⟩, fun j j1 => by rw [hfvy28 _ (by omega)]; rw [egy25, va_up_ne _ _ (by omega)]⟩

set_option maxRecDepth 100000 in
set_option maxHeartbeats 4000000 in
theorem c_X10_compare_ba (l : Launch) (D : va_G) (A : Nat → Prop) (cs : Nat → ClassId) (tt : Nat) (N : Nat) (ad : Nat → Nat) (g : Nat → va_E) (i : Nat) (hN : i + 30 ≤ N) (x : Int) (hx : 0 ≤ x ∧ x ≤ 512) (F r : Nat → Int) {st op ai fa mu tb tp : Nat → Int} (hM : okMr cs ad g i x F r st op ai fa mu tb tp) (hPl : F 25 = 0 ∧ F 26 = -1 ∧ F 27 = -1 ∧ F 29 = 0) (z : Int) (hz : -2147483648 ≤ z ∧ z ≤ 2147483647) (ho0 : z < 0 ∨ 5 < z) (n1 : Nat) (hn1 : n1 < 6) (z2 : Int) (hz2 : -2147483648 ≤ z2 ∧ z2 ≤ 2147483647) : zM l yX10_compare cX10_compare 4 (some .int) ({ frames := 10, cells := 0, slots := 0, locals := 600 } : Room) D A cs tt N ad g [.ref (ad i), .int (zI (z)), .int (zI ((n1 : Int))), .int (zI (z2))] (rI0 N ad fun q g' => (-2147483648 ≤ q ∧ q ≤ 2147483647) ∧ (∃ F' r' : Nat → Int, okMr cs ad g' i (x + 1) F' r' st op ai fa mu tb tp ∧ (F' 13 = F 13 ∧ F' 14 = F 14 ∧ F' 15 = F 15 ∧ F' 16 = F 16 ∧ F' 17 = F 17 ∧ F' 18 = F 18 ∧ F' 19 = F 19 ∧ F' 20 = F 20 ∧ F' 21 = F 21 ∧ F' 23 = F 23 ∧ F' 24 = F 24) ∧ (F' 25 = 0 ∧ F' 26 = -1 ∧ F' 27 = -1 ∧ F' 29 = 0) ∧ (∀ j, j < 350 ∨ 700 ≤ j → r' j = r j)) ∧ ∀ j, j < i ∨ i + 30 ≤ j ∨ (i + 8 ≤ j ∧ j ≤ i + 12) → g' j = g j) := by
  obtain ⟨hg, ⟨⟨e13, e14, e25, e27, e29⟩, k15, k16, k17, k18, k19, k20, k23, k21⟩, hRD, hTx, hA, ns, nh, nd, rf, pi, te, ki, li, ok1, ok2, fo, dd, dps, ⟨ha1, ha2, ha3, ha4, ha5, ha6, ha7, ha8, ha9, ha10, ha11, ha12, ha13, ha14, ha15, ha24, ha25, ha26, ha27, ha28, ha29⟩, hEv, hPt, hns, htp⟩ := id hM
  obtain ⟨-, hop, hai, hfa, hT, hT1⟩ := id hEv
  have hay1 : zAt ad (i) (ad i) := rfl
  have hay2 : zAt ad (i + 1) (ad (i + 1)) := rfl
  have hay3 : zAt ad (i + 2) (ad (i + 2)) := rfl
  have hay4 : zAt ad (i + 3) (ad (i + 3)) := rfl
  have hay5 : zAt ad (i + 4) (ad (i + 4)) := rfl
  have hay6 : zAt ad (i + 5) (ad (i + 5)) := rfl
  have hay7 : zAt ad (i + 6) (ad (i + 6)) := rfl
  have hay8 : zAt ad (i + 7) (ad (i + 7)) := rfl
  have hay9 : zAt ad (i + 8) (ad (i + 8)) := rfl
  have hay10 : zAt ad (i + 9) (ad (i + 9)) := rfl
  have hay11 : zAt ad (i + 10) (ad (i + 10)) := rfl
  have hay12 : zAt ad (i + 11) (ad (i + 11)) := rfl
  have hay13 : zAt ad (i + 12) (ad (i + 12)) := rfl
  have hay14 : zAt ad (i + 13) (ad (i + 13)) := rfl
  have hay15 : zAt ad (i + 14) (ad (i + 14)) := rfl
  have hay16 : zAt ad (i + 15) (ad (i + 15)) := rfl
  have hay17 : zAt ad (i + 24) (ad (i + 24)) := rfl
  have hay18 : zAt ad (i + 25) (ad (i + 25)) := rfl
  have hay19 : zAt ad (i + 26) (ad (i + 26)) := rfl
  have hay20 : zAt ad (i + 27) (ad (i + 27)) := rfl
  have hay21 : zAt ad (i + 28) (ad (i + 28)) := rfl
  have hay22 : zAt ad (i + 29) (ad (i + 29)) := rfl
  obtain ⟨⟨hsyy23, htyy23, hnyy23, hpyy23⟩, hlyy23⟩ := okA.at0 hA
  simp only [Nat.zero_add] at hsyy23 hnyy23 hpyy23
  have hmn : ∀ s, s < 4 → 0 ≤ r (6 + 86 * s) ∧ r (6 + 86 * s) ≤ 12 := fun s hs => (hsyy23 s hs).1
  have h5 : 0 ≤ r 5 ∧ r 5 ≤ 6 := hpyy23
  obtain ⟨hp25, hp26, hp27, hp29⟩ := id hPl
  refine z_of (by decide) (Nat.le_of_ble_eq_true rfl) ?_
  intro pZ eZ sZ mZ below meth cZ C hr hlk hnm
  refine z_lv (lv' := [(0, .ref (ad i)), (1, .int (zI (z))), (2, .int (zI ((n1 : Int)))), (3, .int (zI (z2)))]) [0, 1, 2, 3] rfl ?_
  refine z_aload_n C 0 dX10_compare_0 rfl ?_
  refine z_iconst (z := 0) C dX10_compare_1 rfl ?_
  refine z_put (fs' := mF ad (i) (uZ F 12 (0))) C (lt_A0 hN rfl) hay1 hg tyX10 tyX10_ok nmX10 rfl inA_X10 12 (by decide) q_1471 rfl rfl rfl rfl (Nat.le_of_ble_eq_true rfl) rfl dX10_compare_2 (fun gy24 egy25 => ?_)
  have hgy26 := up_s egy25
  refine z_aload_n C 0 dX10_compare_5 rfl ?_
  refine z_iload_n C 1 dX10_compare_6 rfl ?_
  have hgy27 := up_n egy25 ha1 (ne_o (i := i) (c := 1) (d := 0) rfl)
  have hey29 : (uZ F 12 (0)) 12 = 0 := (uZ_s _ _ _)
  refine z_cV (As := [.int (zI (z))]) (rest := []) (ci := 12) C (c_X10_isPit l D A cs tt N ad _ i hN _ hgy26 _ hgy27 (by omega) h5 (z) (by omega)) (lt_A0 hN rfl) hay1 hgy26 rfl rfl mv_yX10_isPit q_2027 hd_yX10_isPit (by decide) (Nat.le_of_ble_eq_true rfl) (by decide) dX10_compare_7 rfl (kI0 fun vy28 gvy28 hvy28 => ?_)
  obtain ⟨hrvy28, ⟨Fvy28, hcvy28, htvy28, hFvy28⟩, hfvy28⟩ := hvy28
  obtain rfl : vy28 = 0 := by omega
  refine z_if_eq (tgt := 35) C dX10_compare_10 (by decide) (by omega) (fun _ => ?_) (fun h => absurd h (by omega))
  refine z_iconst (z := 0) C dX10_compare_35 rfl ?_
  have hgy30 := (hfvy28 (i + 1) (ne_o (i := i) (c := 1) (d := 0) rfl)).trans hgy27
  have hFy31 : ∀ f, f ≠ 12 → Fvy28 f = F f := fun f n12 => ((hFvy28 f n12).trans ((uZ_n _ _ n12).trans rfl))
  have hey32 : Fvy28 13 = F 13 := ((hFvy28 13 (by decide)).trans (fn rfl (by decide)))
  have hey33 : Fvy28 14 = F 14 := ((hFvy28 14 (by decide)).trans (fn rfl (by decide)))
  have hey34 : Fvy28 15 = F 15 := ((hFvy28 15 (by decide)).trans (fn rfl (by decide)))
  have hey35 : Fvy28 16 = F 16 := ((hFvy28 16 (by decide)).trans (fn rfl (by decide)))
  have hey36 : Fvy28 17 = F 17 := ((hFvy28 17 (by decide)).trans (fn rfl (by decide)))
  have hey37 : Fvy28 18 = F 18 := ((hFvy28 18 (by decide)).trans (fn rfl (by decide)))
  have hey38 : Fvy28 19 = F 19 := ((hFvy28 19 (by decide)).trans (fn rfl (by decide)))
  have hey39 : Fvy28 20 = F 20 := ((hFvy28 20 (by decide)).trans (fn rfl (by decide)))
  have hey40 : Fvy28 21 = F 21 := ((hFvy28 21 (by decide)).trans (fn rfl (by decide)))
  have hey41 : Fvy28 23 = F 23 := ((hFvy28 23 (by decide)).trans (fn rfl (by decide)))
  have hey42 : Fvy28 25 = F 25 := ((hFvy28 25 (by decide)).trans (fn rfl (by decide)))
  have hey43 : Fvy28 27 = F 27 := ((hFvy28 27 (by decide)).trans (fn rfl (by decide)))
  have hey44 : Fvy28 28 = F 28 := ((hFvy28 28 (by decide)).trans (fn rfl (by decide)))
  have hey45 : Fvy28 29 = F 29 := ((hFvy28 29 (by decide)).trans (fn rfl (by decide)))
  have hKy46 : okF Fvy28 := okF.mv hM.2.1 hey32 hey33 hey34 hey35 hey36 hey37 hey38 hey39 hey40 hey41 hey42 hey43 hey44 hey45
  have hMy47 : okMr cs ad gvy28 i (x + 1) Fvy28 r st op ai fa mu tb tp := okMr.upd hM hcvy28 hKy46 (fun f a => hFy31 f (by omega)) hgy30 (hA.mono (by omega)) (fun j a b => by
      exact Or.inl (by rw [hfvy28 _ (by omega)]; rw [egy25, va_up_ne _ _ (by omega)]))
  have hkpy48 : Fvy28 13 = F 13 := ((hFvy28 13 (by decide)).trans (fn rfl (by decide)))
  have hkpy49 : Fvy28 14 = F 14 := ((hFvy28 14 (by decide)).trans (fn rfl (by decide)))
  have hkpy50 : Fvy28 15 = F 15 := ((hFvy28 15 (by decide)).trans (fn rfl (by decide)))
  have hkpy51 : Fvy28 16 = F 16 := ((hFvy28 16 (by decide)).trans (fn rfl (by decide)))
  have hkpy52 : Fvy28 17 = F 17 := ((hFvy28 17 (by decide)).trans (fn rfl (by decide)))
  have hkpy53 : Fvy28 18 = F 18 := ((hFvy28 18 (by decide)).trans (fn rfl (by decide)))
  have hkpy54 : Fvy28 19 = F 19 := ((hFvy28 19 (by decide)).trans (fn rfl (by decide)))
  have hkpy55 : Fvy28 20 = F 20 := ((hFvy28 20 (by decide)).trans (fn rfl (by decide)))
  have hkpy56 : Fvy28 21 = F 21 := ((hFvy28 21 (by decide)).trans (fn rfl (by decide)))
  have hkpy57 : Fvy28 23 = F 23 := ((hFvy28 23 (by decide)).trans (fn rfl (by decide)))
  have hkpy58 : Fvy28 24 = F 24 := ((hFvy28 24 (by decide)).trans (fn rfl (by decide)))
  have hkpy59 : Fvy28 25 = F 25 := ((hFvy28 25 (by decide)).trans (fn rfl (by decide)))
  have hkpy60 : Fvy28 26 = F 26 := ((hFvy28 26 (by decide)).trans (fn rfl (by decide)))
  have hkpy61 : Fvy28 27 = F 27 := ((hFvy28 27 (by decide)).trans (fn rfl (by decide)))
  have hkpy62 : Fvy28 29 = F 29 := ((hFvy28 29 (by decide)).trans (fn rfl (by decide)))
  exact z_iret C hr hlk dX10_compare_36 (by decide) (by decide) ⟨0, rfl, rfl, rfl, by omega, ⟨_, _, hMy47, ⟨hkpy48, hkpy49, hkpy50, hkpy51, hkpy52, hkpy53, hkpy54, hkpy55, hkpy56, hkpy57, hkpy58⟩, ⟨(hkpy59.trans hp25), (hkpy60.trans hp26), (hkpy61.trans hp27), (hkpy62.trans hp29)⟩, (fun j _ => rfl)⟩, fun j j1 => by rw [hfvy28 _ (by omega)]; rw [egy25, va_up_ne _ _ (by omega)]⟩

set_option maxRecDepth 100000 in
set_option maxHeartbeats 4000000 in
theorem c_X10_compare_bb (l : Launch) (D : va_G) (A : Nat → Prop) (cs : Nat → ClassId) (tt : Nat) (N : Nat) (ad : Nat → Nat) (g : Nat → va_E) (i : Nat) (hN : i + 30 ≤ N) (x : Int) (hx : 0 ≤ x ∧ x ≤ 512) (F r : Nat → Int) {st op ai fa mu tb tp : Nat → Int} (hM : okMr cs ad g i x F r st op ai fa mu tb tp) (hPl : F 25 = 0 ∧ F 26 = -1 ∧ F 27 = -1 ∧ F 29 = 0) (z : Int) (hz : -2147483648 ≤ z ∧ z ≤ 2147483647) (ho0 : z < 0 ∨ 5 < z) (z1 : Int) (hz1 : -2147483648 ≤ z1 ∧ z1 ≤ 2147483647) (ho1 : z1 < 0 ∨ 5 < z1) (z2 : Int) (hz2 : -2147483648 ≤ z2 ∧ z2 ≤ 2147483647) : zM l yX10_compare cX10_compare 4 (some .int) ({ frames := 10, cells := 0, slots := 0, locals := 600 } : Room) D A cs tt N ad g [.ref (ad i), .int (zI (z)), .int (zI (z1)), .int (zI (z2))] (rI0 N ad fun q g' => (-2147483648 ≤ q ∧ q ≤ 2147483647) ∧ (∃ F' r' : Nat → Int, okMr cs ad g' i (x + 1) F' r' st op ai fa mu tb tp ∧ (F' 13 = F 13 ∧ F' 14 = F 14 ∧ F' 15 = F 15 ∧ F' 16 = F 16 ∧ F' 17 = F 17 ∧ F' 18 = F 18 ∧ F' 19 = F 19 ∧ F' 20 = F 20 ∧ F' 21 = F 21 ∧ F' 23 = F 23 ∧ F' 24 = F 24) ∧ (F' 25 = 0 ∧ F' 26 = -1 ∧ F' 27 = -1 ∧ F' 29 = 0) ∧ (∀ j, j < 350 ∨ 700 ≤ j → r' j = r j)) ∧ ∀ j, j < i ∨ i + 30 ≤ j ∨ (i + 8 ≤ j ∧ j ≤ i + 12) → g' j = g j) := by
  obtain ⟨hg, ⟨⟨e13, e14, e25, e27, e29⟩, k15, k16, k17, k18, k19, k20, k23, k21⟩, hRD, hTx, hA, ns, nh, nd, rf, pi, te, ki, li, ok1, ok2, fo, dd, dps, ⟨ha1, ha2, ha3, ha4, ha5, ha6, ha7, ha8, ha9, ha10, ha11, ha12, ha13, ha14, ha15, ha24, ha25, ha26, ha27, ha28, ha29⟩, hEv, hPt, hns, htp⟩ := id hM
  obtain ⟨-, hop, hai, hfa, hT, hT1⟩ := id hEv
  have hay1 : zAt ad (i) (ad i) := rfl
  have hay2 : zAt ad (i + 1) (ad (i + 1)) := rfl
  have hay3 : zAt ad (i + 2) (ad (i + 2)) := rfl
  have hay4 : zAt ad (i + 3) (ad (i + 3)) := rfl
  have hay5 : zAt ad (i + 4) (ad (i + 4)) := rfl
  have hay6 : zAt ad (i + 5) (ad (i + 5)) := rfl
  have hay7 : zAt ad (i + 6) (ad (i + 6)) := rfl
  have hay8 : zAt ad (i + 7) (ad (i + 7)) := rfl
  have hay9 : zAt ad (i + 8) (ad (i + 8)) := rfl
  have hay10 : zAt ad (i + 9) (ad (i + 9)) := rfl
  have hay11 : zAt ad (i + 10) (ad (i + 10)) := rfl
  have hay12 : zAt ad (i + 11) (ad (i + 11)) := rfl
  have hay13 : zAt ad (i + 12) (ad (i + 12)) := rfl
  have hay14 : zAt ad (i + 13) (ad (i + 13)) := rfl
  have hay15 : zAt ad (i + 14) (ad (i + 14)) := rfl
  have hay16 : zAt ad (i + 15) (ad (i + 15)) := rfl
  have hay17 : zAt ad (i + 24) (ad (i + 24)) := rfl
  have hay18 : zAt ad (i + 25) (ad (i + 25)) := rfl
  have hay19 : zAt ad (i + 26) (ad (i + 26)) := rfl
  have hay20 : zAt ad (i + 27) (ad (i + 27)) := rfl
  have hay21 : zAt ad (i + 28) (ad (i + 28)) := rfl
  have hay22 : zAt ad (i + 29) (ad (i + 29)) := rfl
  obtain ⟨⟨hsyy23, htyy23, hnyy23, hpyy23⟩, hlyy23⟩ := okA.at0 hA
  simp only [Nat.zero_add] at hsyy23 hnyy23 hpyy23
  have hmn : ∀ s, s < 4 → 0 ≤ r (6 + 86 * s) ∧ r (6 + 86 * s) ≤ 12 := fun s hs => (hsyy23 s hs).1
  have h5 : 0 ≤ r 5 ∧ r 5 ≤ 6 := hpyy23
  obtain ⟨hp25, hp26, hp27, hp29⟩ := id hPl
  refine z_of (by decide) (Nat.le_of_ble_eq_true rfl) ?_
  intro pZ eZ sZ mZ below meth cZ C hr hlk hnm
  refine z_lv (lv' := [(0, .ref (ad i)), (1, .int (zI (z))), (2, .int (zI (z1))), (3, .int (zI (z2)))]) [0, 1, 2, 3] rfl ?_
  refine z_aload_n C 0 dX10_compare_0 rfl ?_
  refine z_iconst (z := 0) C dX10_compare_1 rfl ?_
  refine z_put (fs' := mF ad (i) (uZ F 12 (0))) C (lt_A0 hN rfl) hay1 hg tyX10 tyX10_ok nmX10 rfl inA_X10 12 (by decide) q_1471 rfl rfl rfl rfl (Nat.le_of_ble_eq_true rfl) rfl dX10_compare_2 (fun gy24 egy25 => ?_)
  have hgy26 := up_s egy25
  refine z_aload_n C 0 dX10_compare_5 rfl ?_
  refine z_iload_n C 1 dX10_compare_6 rfl ?_
  have hgy27 := up_n egy25 ha1 (ne_o (i := i) (c := 1) (d := 0) rfl)
  have hey29 : (uZ F 12 (0)) 12 = 0 := (uZ_s _ _ _)
  refine z_cV (As := [.int (zI (z))]) (rest := []) (ci := 12) C (c_X10_isPit l D A cs tt N ad _ i hN _ hgy26 _ hgy27 (by omega) h5 (z) (by omega)) (lt_A0 hN rfl) hay1 hgy26 rfl rfl mv_yX10_isPit q_2027 hd_yX10_isPit (by decide) (Nat.le_of_ble_eq_true rfl) (by decide) dX10_compare_7 rfl (kI0 fun vy28 gvy28 hvy28 => ?_)
  obtain ⟨hrvy28, ⟨Fvy28, hcvy28, htvy28, hFvy28⟩, hfvy28⟩ := hvy28
  obtain rfl : vy28 = 0 := by omega
  refine z_if_eq (tgt := 35) C dX10_compare_10 (by decide) (by omega) (fun _ => ?_) (fun h => absurd h (by omega))
  refine z_iconst (z := 0) C dX10_compare_35 rfl ?_
  have hgy30 := (hfvy28 (i + 1) (ne_o (i := i) (c := 1) (d := 0) rfl)).trans hgy27
  have hFy31 : ∀ f, f ≠ 12 → Fvy28 f = F f := fun f n12 => ((hFvy28 f n12).trans ((uZ_n _ _ n12).trans rfl))
  have hey32 : Fvy28 13 = F 13 := ((hFvy28 13 (by decide)).trans (fn rfl (by decide)))
  have hey33 : Fvy28 14 = F 14 := ((hFvy28 14 (by decide)).trans (fn rfl (by decide)))
  have hey34 : Fvy28 15 = F 15 := ((hFvy28 15 (by decide)).trans (fn rfl (by decide)))
  have hey35 : Fvy28 16 = F 16 := ((hFvy28 16 (by decide)).trans (fn rfl (by decide)))
  have hey36 : Fvy28 17 = F 17 := ((hFvy28 17 (by decide)).trans (fn rfl (by decide)))
  have hey37 : Fvy28 18 = F 18 := ((hFvy28 18 (by decide)).trans (fn rfl (by decide)))
  have hey38 : Fvy28 19 = F 19 := ((hFvy28 19 (by decide)).trans (fn rfl (by decide)))
  have hey39 : Fvy28 20 = F 20 := ((hFvy28 20 (by decide)).trans (fn rfl (by decide)))
  have hey40 : Fvy28 21 = F 21 := ((hFvy28 21 (by decide)).trans (fn rfl (by decide)))
  have hey41 : Fvy28 23 = F 23 := ((hFvy28 23 (by decide)).trans (fn rfl (by decide)))
  have hey42 : Fvy28 25 = F 25 := ((hFvy28 25 (by decide)).trans (fn rfl (by decide)))
  have hey43 : Fvy28 27 = F 27 := ((hFvy28 27 (by decide)).trans (fn rfl (by decide)))
  have hey44 : Fvy28 28 = F 28 := ((hFvy28 28 (by decide)).trans (fn rfl (by decide)))
  have hey45 : Fvy28 29 = F 29 := ((hFvy28 29 (by decide)).trans (fn rfl (by decide)))
  have hKy46 : okF Fvy28 := okF.mv hM.2.1 hey32 hey33 hey34 hey35 hey36 hey37 hey38 hey39 hey40 hey41 hey42 hey43 hey44 hey45
  have hMy47 : okMr cs ad gvy28 i (x + 1) Fvy28 r st op ai fa mu tb tp := okMr.upd hM hcvy28 hKy46 (fun f a => hFy31 f (by omega)) hgy30 (hA.mono (by omega)) (fun j a b => by
      exact Or.inl (by rw [hfvy28 _ (by omega)]; rw [egy25, va_up_ne _ _ (by omega)]))
  have hkpy48 : Fvy28 13 = F 13 := ((hFvy28 13 (by decide)).trans (fn rfl (by decide)))
  have hkpy49 : Fvy28 14 = F 14 := ((hFvy28 14 (by decide)).trans (fn rfl (by decide)))
  have hkpy50 : Fvy28 15 = F 15 := ((hFvy28 15 (by decide)).trans (fn rfl (by decide)))
  have hkpy51 : Fvy28 16 = F 16 := ((hFvy28 16 (by decide)).trans (fn rfl (by decide)))
  have hkpy52 : Fvy28 17 = F 17 := ((hFvy28 17 (by decide)).trans (fn rfl (by decide)))
  have hkpy53 : Fvy28 18 = F 18 := ((hFvy28 18 (by decide)).trans (fn rfl (by decide)))
  have hkpy54 : Fvy28 19 = F 19 := ((hFvy28 19 (by decide)).trans (fn rfl (by decide)))
  have hkpy55 : Fvy28 20 = F 20 := ((hFvy28 20 (by decide)).trans (fn rfl (by decide)))
  have hkpy56 : Fvy28 21 = F 21 := ((hFvy28 21 (by decide)).trans (fn rfl (by decide)))
  have hkpy57 : Fvy28 23 = F 23 := ((hFvy28 23 (by decide)).trans (fn rfl (by decide)))
  have hkpy58 : Fvy28 24 = F 24 := ((hFvy28 24 (by decide)).trans (fn rfl (by decide)))
  have hkpy59 : Fvy28 25 = F 25 := ((hFvy28 25 (by decide)).trans (fn rfl (by decide)))
  have hkpy60 : Fvy28 26 = F 26 := ((hFvy28 26 (by decide)).trans (fn rfl (by decide)))
  have hkpy61 : Fvy28 27 = F 27 := ((hFvy28 27 (by decide)).trans (fn rfl (by decide)))
  have hkpy62 : Fvy28 29 = F 29 := ((hFvy28 29 (by decide)).trans (fn rfl (by decide)))
  exact z_iret C hr hlk dX10_compare_36 (by decide) (by decide) ⟨0, rfl, rfl, rfl, by omega, ⟨_, _, hMy47, ⟨hkpy48, hkpy49, hkpy50, hkpy51, hkpy52, hkpy53, hkpy54, hkpy55, hkpy56, hkpy57, hkpy58⟩, ⟨(hkpy59.trans hp25), (hkpy60.trans hp26), (hkpy61.trans hp27), (hkpy62.trans hp29)⟩, (fun j _ => rfl)⟩, fun j j1 => by rw [hfvy28 _ (by omega)]; rw [egy25, va_up_ne _ _ (by omega)]⟩

set_option maxRecDepth 100000 in
set_option maxHeartbeats 4000000 in
theorem c_X10_compare (l : Launch) (D : va_G) (A : Nat → Prop) (cs : Nat → ClassId) (tt : Nat) (N : Nat) (ad : Nat → Nat) (g : Nat → va_E) (i : Nat) (hN : i + 30 ≤ N) (x : Int) (hx : 0 ≤ x ∧ x ≤ 512) (F r : Nat → Int) {st op ai fa mu tb tp : Nat → Int} (hM : okMr cs ad g i x F r st op ai fa mu tb tp) (hPl : F 25 = 0 ∧ F 26 = -1 ∧ F 27 = -1 ∧ F 29 = 0) (z : Int) (hz : -2147483648 ≤ z ∧ z ≤ 2147483647) (z1 : Int) (hz1 : -2147483648 ≤ z1 ∧ z1 ≤ 2147483647) (z2 : Int) (hz2 : -2147483648 ≤ z2 ∧ z2 ≤ 2147483647) : zM l yX10_compare cX10_compare 4 (some .int) ({ frames := 10, cells := 0, slots := 0, locals := 600 } : Room) D A cs tt N ad g [.ref (ad i), .int (zI (z)), .int (zI (z1)), .int (zI (z2))] (rI0 N ad fun q g' => (-2147483648 ≤ q ∧ q ≤ 2147483647) ∧ (∃ F' r' : Nat → Int, okMr cs ad g' i (x + 1) F' r' st op ai fa mu tb tp ∧ (F' 13 = F 13 ∧ F' 14 = F 14 ∧ F' 15 = F 15 ∧ F' 16 = F 16 ∧ F' 17 = F 17 ∧ F' 18 = F 18 ∧ F' 19 = F 19 ∧ F' 20 = F 20 ∧ F' 21 = F 21 ∧ F' 23 = F 23 ∧ F' 24 = F 24) ∧ (F' 25 = 0 ∧ F' 26 = -1 ∧ F' 27 = -1 ∧ F' 29 = 0) ∧ (∀ j, j < 350 ∨ 700 ≤ j → r' j = r j)) ∧ ∀ j, j < i ∨ i + 30 ≤ j ∨ (i + 8 ≤ j ∧ j ≤ i + 12) → g' j = g j) := by
  by_cases hk0 : 0 ≤ z ∧ z ≤ 5
  · obtain ⟨n0, rfl⟩ : ∃ n : Nat, z = (n : Int) := ⟨z.toNat, by omega⟩
    by_cases hk1 : 0 ≤ z1 ∧ z1 ≤ 5
    · obtain ⟨n1, rfl⟩ : ∃ n : Nat, z1 = (n : Int) := ⟨z1.toNat, by omega⟩
      exact c_X10_compare_aa l D A cs tt N ad g i hN x hx F r hM hPl n0 (by omega) n1 (by omega) z2 hz2
    · exact c_X10_compare_ab l D A cs tt N ad g i hN x hx F r hM hPl n0 (by omega) z1 hz1 (by omega) z2 hz2
  · by_cases hk1 : 0 ≤ z1 ∧ z1 ≤ 5
    · obtain ⟨n1, rfl⟩ : ∃ n : Nat, z1 = (n : Int) := ⟨z1.toNat, by omega⟩
      exact c_X10_compare_ba l D A cs tt N ad g i hN x hx F r hM hPl z hz (by omega) n1 (by omega) z2 hz2
    · exact c_X10_compare_bb l D A cs tt N ad g i hN x hx F r hM hPl z hz (by omega) z1 hz1 (by omega) z2 hz2

set_option maxRecDepth 100000 in
set_option maxHeartbeats 4000000 in
theorem c_X10_nearest_a (l : Launch) (D : va_G) (A : Nat → Prop) (cs : Nat → ClassId) (tt : Nat) (N : Nat) (ad : Nat → Nat) (g : Nat → va_E) (i : Nat) (hN : i + 30 ≤ N) (x : Int) (hx : 0 ≤ x ∧ x ≤ 512) (F r : Nat → Int) {st op ai fa mu tb tp : Nat → Int} (hM : okMr cs ad g i x F r st op ai fa mu tb tp) (hPl : F 25 = 0 ∧ F 26 = -1 ∧ F 27 = -1 ∧ F 29 = 0) (n0 : Nat) (hn0 : n0 < 6) : zM l yX10_nearest cX10_nearest 6 (some .int) ({ frames := 3, cells := 0, slots := 0, locals := 180 } : Room) D A cs tt N ad g [.ref (ad i), .int (zI ((n0 : Int)))] (rI0 N ad fun q g' => (-2147483648 ≤ q ∧ q ≤ 2147483647) ∧ (∃ F' r' : Nat → Int, okMr cs ad g' i (x + 1) F' r' st op ai fa mu tb tp ∧ (F' 13 = F 13 ∧ F' 14 = F 14 ∧ F' 15 = F 15 ∧ F' 16 = F 16 ∧ F' 17 = F 17 ∧ F' 18 = F 18 ∧ F' 19 = F 19 ∧ F' 20 = F 20 ∧ F' 21 = F 21 ∧ F' 23 = F 23 ∧ F' 24 = F 24) ∧ (F' 25 = 0 ∧ F' 26 = -1 ∧ F' 27 = -1 ∧ F' 29 = 0) ∧ (∀ j, j < 350 ∨ 700 ≤ j → r' j = r j)) ∧ ∀ j, j < i ∨ i + 30 ≤ j ∨ (i + 8 ≤ j ∧ j ≤ i + 12) → g' j = g j) := by
  obtain ⟨hg, ⟨⟨e13, e14, e25, e27, e29⟩, k15, k16, k17, k18, k19, k20, k23, k21⟩, hRD, hTx, hA, ns, nh, nd, rf, pi, te, ki, li, ok1, ok2, fo, dd, dps, ⟨ha1, ha2, ha3, ha4, ha5, ha6, ha7, ha8, ha9, ha10, ha11, ha12, ha13, ha14, ha15, ha24, ha25, ha26, ha27, ha28, ha29⟩, hEv, hPt, hns, htp⟩ := id hM
  obtain ⟨-, hop, hai, hfa, hT, hT1⟩ := id hEv
  have hay1 : zAt ad (i) (ad i) := rfl
  have hay2 : zAt ad (i + 1) (ad (i + 1)) := rfl
  have hay3 : zAt ad (i + 2) (ad (i + 2)) := rfl
  have hay4 : zAt ad (i + 3) (ad (i + 3)) := rfl
  have hay5 : zAt ad (i + 4) (ad (i + 4)) := rfl
  have hay6 : zAt ad (i + 5) (ad (i + 5)) := rfl
  have hay7 : zAt ad (i + 6) (ad (i + 6)) := rfl
  have hay8 : zAt ad (i + 7) (ad (i + 7)) := rfl
  have hay9 : zAt ad (i + 8) (ad (i + 8)) := rfl
  have hay10 : zAt ad (i + 9) (ad (i + 9)) := rfl
  have hay11 : zAt ad (i + 10) (ad (i + 10)) := rfl
  have hay12 : zAt ad (i + 11) (ad (i + 11)) := rfl
  have hay13 : zAt ad (i + 12) (ad (i + 12)) := rfl
  have hay14 : zAt ad (i + 13) (ad (i + 13)) := rfl
  have hay15 : zAt ad (i + 14) (ad (i + 14)) := rfl
  have hay16 : zAt ad (i + 15) (ad (i + 15)) := rfl
  have hay17 : zAt ad (i + 24) (ad (i + 24)) := rfl
  have hay18 : zAt ad (i + 25) (ad (i + 25)) := rfl
  have hay19 : zAt ad (i + 26) (ad (i + 26)) := rfl
  have hay20 : zAt ad (i + 27) (ad (i + 27)) := rfl
  have hay21 : zAt ad (i + 28) (ad (i + 28)) := rfl
  have hay22 : zAt ad (i + 29) (ad (i + 29)) := rfl
  obtain ⟨⟨hsyy23, htyy23, hnyy23, hpyy23⟩, hlyy23⟩ := okA.at0 hA
  simp only [Nat.zero_add] at hsyy23 hnyy23 hpyy23
  have hmn : ∀ s, s < 4 → 0 ≤ r (6 + 86 * s) ∧ r (6 + 86 * s) ≤ 12 := fun s hs => (hsyy23 s hs).1
  have h5 : 0 ≤ r 5 ∧ r 5 ≤ 6 := hpyy23
  obtain ⟨hp25, hp26, hp27, hp29⟩ := id hPl
  refine z_of (by decide) (Nat.le_of_ble_eq_true rfl) ?_
  intro pZ eZ sZ mZ below meth cZ C hr hlk hnm
  refine z_lv (lv' := [(0, .ref (ad i)), (1, .int (zI ((n0 : Int))))]) [0, 1] rfl ?_
  refine z_aload_n C 0 dX10_nearest_0 rfl ?_
  refine z_iconst (z := 0) C dX10_nearest_1 rfl ?_
  refine z_put (fs' := mF ad (i) (uZ F 12 (0))) C (lt_A0 hN rfl) hay1 hg tyX10 tyX10_ok nmX10 rfl inA_X10 12 (by decide) q_1471 rfl rfl rfl rfl (Nat.le_of_ble_eq_true rfl) rfl dX10_nearest_2 (fun gy24 egy25 => ?_)
  have hgy26 := up_s egy25
  refine z_aload_n C 0 dX10_nearest_5 rfl ?_
  refine z_iload_n C 1 dX10_nearest_6 rfl ?_
  have hgy27 := up_n egy25 ha1 (ne_o (i := i) (c := 1) (d := 0) rfl)
  have hey29 : (uZ F 12 (0)) 12 = 0 := (uZ_s _ _ _)
  refine z_cV (As := [.int (zI ((n0 : Int)))]) (rest := []) (ci := 12) C (c_X10_isPit l D A cs tt N ad _ i hN _ hgy26 _ hgy27 (by omega) h5 ((n0 : Int)) (by omega)) (lt_A0 hN rfl) hay1 hgy26 rfl rfl mv_yX10_isPit q_2027 hd_yX10_isPit (by decide) (Nat.le_of_ble_eq_true rfl) (by decide) dX10_nearest_7 rfl (kI0 fun vy28 gvy28 hvy28 => ?_)
  obtain ⟨hrvy28, ⟨Fvy28, hcvy28, htvy28, hFvy28⟩, hfvy28⟩ := hvy28
  rcases (show vy28 = 1 ∨ vy28 = 0 by omega) with rfl | rfl
  · have hxvy28 := hrvy28.2 rfl
    refine z_if_ne (tgt := 15) C dX10_nearest_10 (by decide) (by omega) (fun _ => ?_) (fun h => absurd h (by omega))
    refine z_iconst (z := -1) C dX10_nearest_15 rfl ?_
    refine z_istore_n (lv' := [(2, .int (zI (-1))), (0, .ref (ad i)), (1, .int (zI ((n0 : Int))))]) C dX10_nearest_16 rfl (by decide) rfl ?_
    refine z_iconst (z := 0) C dX10_nearest_17 rfl ?_
    refine z_istore_n (lv' := [(3, .int (zI (0))), (2, .int (zI (-1))), (0, .ref (ad i)), (1, .int (zI ((n0 : Int))))]) C dX10_nearest_18 rfl (by decide) rfl ?_
    refine z_aload_n C 2 dX10_nearest_19 rfl ?_
    refine z_aload_n C 2 dX10_nearest_20 rfl ?_
    refine z_iload_n C 3 dX10_nearest_21 rfl ?_
    have hgy30 := up_n egy25 ha12 (ne_o (i := i) (c := 12) (d := 0) rfl)
    have hgy31 := (hfvy28 (i + 12) (ne_o (i := i) (c := 12) (d := 0) rfl)).trans hgy30
    have hpkn0 := okPt.at hPt (k := n0) (by omega)
    refine z_cV (As := [.int (zI ((n0 : Int)))]) (rest := [.ref (ad i)]) (ci := 12) C (c_X10_pitMany l D A cs tt N ad _ i hN _ hcvy28 _ hgy31 hPt n0 (by omega)) (lt_A0 hN rfl) hay1 hcvy28 rfl rfl mv_yX10_pitMany q_2031 hd_yX10_pitMany (by decide) (Nat.le_of_ble_eq_true rfl) (by decide) dX10_nearest_22 rfl (kI0 fun vy32 gvy32 hvy32 => ?_)
    obtain ⟨rfl, rfl⟩ := hvy32
    refine z_put (fs' := mF ad (i) (uZ Fvy28 55 (pi (90 * n0 + 2)))) C (lt_A0 hN rfl) hay1 hcvy28 tyX10 tyX10_ok nmX10 rfl inA_X10 55 (by decide) q_1514 rfl rfl rfl rfl (Nat.le_of_ble_eq_true rfl) rfl dX10_nearest_25 (fun gy33 egy34 => ?_)
    have hgy35 := up_s egy34
    refine z_aload_n C 2 dX10_nearest_28 rfl ?_
    refine z_iload_n C 3 dX10_nearest_29 rfl ?_
    refine z_aload_n C 2 dX10_nearest_30 rfl ?_
    refine z_get (v := .ref (ad (i + 25))) C (lt_A0 hN rfl) hay1 hgy35 rfl inA_X10 52 (by decide) q_1511 rfl rfl dX10_nearest_31 ?_
    have hgy36 := up_n egy34 hgy31 (ne_o (i := i) (c := 12) (d := 0) rfl)
    have hgy37 := up_n egy25 ha25 (ne_o (i := i) (c := 25) (d := 0) rfl)
    have hgy38 := (hfvy28 (i + 25) (ne_o (i := i) (c := 25) (d := 0) rfl)).trans hgy37
    have hgy39 := up_n egy34 hgy38 (ne_o (i := i) (c := 25) (d := 0) rfl)
    refine z_cV (As := [.int (zI ((n0 : Int))), .ref (ad (i + 25))]) (rest := []) (ci := 12) C (c_X10_laysPit25 l D A cs tt N ad _ i hN _ hgy35 _ hgy36 hPt _ hgy39 n0 (by omega)) (lt_A0 hN rfl) hay1 hgy35 rfl rfl mv_yX10_laysPit q_2051 hd_yX10_laysPit (by decide) (Nat.le_of_ble_eq_true rfl) (by decide) dX10_nearest_34 rfl (kV0 fun gvy40 hvy40 => ?_)
    obtain ⟨⟨tvy40, hdvy40⟩, hfvy40⟩ := hvy40
    refine z_iconst (z := 0) C dX10_nearest_37 rfl ?_
    refine z_istore (lv' := [(4, .int (zI (0))), (3, .int (zI (0))), (2, .int (zI (-1))), (0, .ref (ad i)), (1, .int (zI ((n0 : Int))))]) C dX10_nearest_38 (by decide) rfl ?_
    have lp1 : ∀ (n9 : Nat) (it : Int) (fw : Int) (ss : Int) (F9 : Nat → Int) (r9 : Nat → Int) (g1 : Nat → va_E), (5 - ss).toNat = n9 → (okMr cs ad g1 i x F9 r9 st op ai fa mu tb tp) → ((∀ f, f ≠ 12 → f ≠ 55 → f ≠ 56 → F9 f = F f)) → ((∀ j, j < 350 ∨ 700 ≤ j → r9 j = r j)) → (∀ j, j < i ∨ i + 30 ≤ j ∨ (i + 8 ≤ j ∧ j ≤ i + 12) → g1 j = g j) → (-2147483648 ≤ it ∧ it ≤ 2147483647) → (-2147483648 ≤ fw ∧ fw ≤ 2147483647) → (0 ≤ ss ∧ ss ≤ F 13) → (0 ≤ F9 55 ∧ F9 55 ≤ 12) → zV pZ l eZ ({ frames := 3, cells := 0, slots := 0, locals := 180 } : Room) sZ mZ ([.ref (ad i), .int (zI ((n0 : Int)))] : List Value).toArray below meth cZ (MQ below (zPost D A (rI0 N ad fun q g' => (-2147483648 ≤ q ∧ q ≤ 2147483647) ∧ (∃ F' r' : Nat → Int, okMr cs ad g' i (x + 1) F' r' st op ai fa mu tb tp ∧ (F' 13 = F 13 ∧ F' 14 = F 14 ∧ F' 15 = F 15 ∧ F' 16 = F 16 ∧ F' 17 = F 17 ∧ F' 18 = F 18 ∧ F' 19 = F 19 ∧ F' 20 = F 20 ∧ F' 21 = F 21 ∧ F' 23 = F 23 ∧ F' 24 = F 24) ∧ (F' 25 = 0 ∧ F' 26 = -1 ∧ F' 27 = -1 ∧ F' 29 = 0) ∧ (∀ j, j < 350 ∨ 700 ≤ j → r' j = r j)) ∧ ∀ j, j < i ∨ i + 30 ≤ j ∨ (i + 8 ≤ j ∧ j ≤ i + 12) → g' j = g j)) ([.ref (ad i), .int (zI ((n0 : Int)))] : List Value).toArray sZ ({ frames := 3, cells := 0, slots := 0, locals := 180 } : Room).cells ({ frames := 3, cells := 0, slots := 0, locals := 180 } : Room).slots A) D A 6 (N) ad g1 (0) (0) 40 [(0, .ref (ad i)), (2, .int (zI (it))), (3, .int (zI (fw))), (4, .int (zI (ss)))] [] := by
      intro n9
      induction n9 using Nat.strongRecOn with
      | ind n9 ih_lp1 =>
        intro it fw ss F9 r9 g1 hm9 fM fF fR f3 hvlp10 hvlp11 hvlp12 hvlp13
        obtain ⟨hg_y41, ⟨⟨e13_y41, e14_y41, e25_y41, e27_y41, e29_y41⟩, k15_y41, k16_y41, k17_y41, k18_y41, k19_y41, k20_y41, k23_y41, k21_y41⟩, hRD_y41, hTx_y41, hA_y41, ns_y41, nh_y41, nd_y41, rf_y41, pi_y41, te_y41, ki_y41, li_y41, ok1_y41, ok2_y41, fo_y41, dd_y41, dps_y41, ⟨ha1_y41, ha2_y41, ha3_y41, ha4_y41, ha5_y41, ha6_y41, ha7_y41, ha8_y41, ha9_y41, ha10_y41, ha11_y41, ha12_y41, ha13_y41, ha14_y41, ha15_y41, ha24_y41, ha25_y41, ha26_y41, ha27_y41, ha28_y41, ha29_y41⟩, hEv_y41, hPt_y41, hns_y41, htp_y41⟩ := id fM
        obtain ⟨-, hop_y41, hai_y41, hfa_y41, hT_y41, hT1_y41⟩ := id hEv_y41
        have e14 := e14_y41
        have e25 := e25_y41
        have e27 := e27_y41
        have e29 := e29_y41
        have hop := hop_y41
        have hai := hai_y41
        have hfa := hfa_y41
        have hT := hT_y41
        have hT1 := hT1_y41
        have hEv := hEv_y41
        have htp := htp_y41
        have hns := hns_y41
        have hPt := hPt_y41
        have hay42 : zAt ad (i) (ad i) := rfl
        have hay43 : zAt ad (i + 1) (ad (i + 1)) := rfl
        have hay44 : zAt ad (i + 2) (ad (i + 2)) := rfl
        have hay45 : zAt ad (i + 3) (ad (i + 3)) := rfl
        have hay46 : zAt ad (i + 4) (ad (i + 4)) := rfl
        have hay47 : zAt ad (i + 5) (ad (i + 5)) := rfl
        have hay48 : zAt ad (i + 6) (ad (i + 6)) := rfl
        have hay49 : zAt ad (i + 7) (ad (i + 7)) := rfl
        have hay50 : zAt ad (i + 8) (ad (i + 8)) := rfl
        have hay51 : zAt ad (i + 9) (ad (i + 9)) := rfl
        have hay52 : zAt ad (i + 10) (ad (i + 10)) := rfl
        have hay53 : zAt ad (i + 11) (ad (i + 11)) := rfl
        have hay54 : zAt ad (i + 12) (ad (i + 12)) := rfl
        have hay55 : zAt ad (i + 13) (ad (i + 13)) := rfl
        have hay56 : zAt ad (i + 14) (ad (i + 14)) := rfl
        have hay57 : zAt ad (i + 15) (ad (i + 15)) := rfl
        have hay58 : zAt ad (i + 24) (ad (i + 24)) := rfl
        have hay59 : zAt ad (i + 25) (ad (i + 25)) := rfl
        have hay60 : zAt ad (i + 26) (ad (i + 26)) := rfl
        have hay61 : zAt ad (i + 27) (ad (i + 27)) := rfl
        have hay62 : zAt ad (i + 28) (ad (i + 28)) := rfl
        have hay63 : zAt ad (i + 29) (ad (i + 29)) := rfl
        obtain ⟨⟨hsyy64, htyy64, hnyy64, hpyy64⟩, hlyy64⟩ := okA.at0 hA_y41
        simp only [Nat.zero_add] at hsyy64 hnyy64 hpyy64
        have hmn : ∀ s, s < 4 → 0 ≤ r9 (6 + 86 * s) ∧ r9 (6 + 86 * s) ≤ 12 := fun s hs => (hsyy64 s hs).1
        have h5 : 0 ≤ r9 5 ∧ r9 5 ≤ 6 := hpyy64
        have h13e : F9 13 = F 13 := fF 13 (by decide) (by decide) (by decide)
        have h14e : F9 14 = F 14 := fF 14 (by decide) (by decide) (by decide)
        have h17e : F9 17 = F 17 := fF 17 (by decide) (by decide) (by decide)
        have h20e : F9 20 = F 20 := fF 20 (by decide) (by decide) (by decide)
        have h21e : F9 21 = F 21 := fF 21 (by decide) (by decide) (by decide)
        have h23e : F9 23 = F 23 := fF 23 (by decide) (by decide) (by decide)
        have h24e : F9 24 = F 24 := fF 24 (by decide) (by decide) (by decide)
        have h15e : F9 15 = F 15 := fF 15 (by decide) (by decide) (by decide)
        have h16e : F9 16 = F 16 := fF 16 (by decide) (by decide) (by decide)
        have h18e : F9 18 = F 18 := fF 18 (by decide) (by decide) (by decide)
        have h19e : F9 19 = F 19 := fF 19 (by decide) (by decide) (by decide)
        have h25e : F9 25 = F 25 := fF 25 (by decide) (by decide) (by decide)
        have h26e : F9 26 = F 26 := fF 26 (by decide) (by decide) (by decide)
        have h27e : F9 27 = F 27 := fF 27 (by decide) (by decide) (by decide)
        have h29e : F9 29 = F 29 := fF 29 (by decide) (by decide) (by decide)
        refine z_iload C 3 dX10_nearest_40 rfl ?_
        refine z_aload_n C 0 dX10_nearest_42 rfl ?_
        refine z_get (v := .int (zI (F9 13))) C (lt_A0 hN rfl) hay42 hg_y41 rfl inA_X10 13 (by decide) q_1472 rfl (fv (F := F9) (f := 13) rfl) dX10_nearest_43 ?_
        refine z_icmp_ge (tgt := 128) C dX10_nearest_46 (by decide) (by omega) (by omega) (fun hby65 => ?_) (fun hby65 => ?_)
        · refine z_iload_n C 1 dX10_nearest_128 rfl ?_
          have hMy66 : okMr cs ad g1 i (x + 1) F9 r9 st op ai fa mu tb tp := okMr.upd fM hg_y41 fM.2.1 (fun f _ => rfl) ha1_y41 (hA_y41.mono (by omega)) (fun j a b => by
              exact Or.inl (by rfl))
          have hkpy67 : F9 13 = F9 13 := rfl
          have hkpy68 : F9 14 = F9 14 := rfl
          have hkpy69 : F9 15 = F9 15 := rfl
          have hkpy70 : F9 16 = F9 16 := rfl
          have hkpy71 : F9 17 = F9 17 := rfl
          have hkpy72 : F9 18 = F9 18 := rfl
          have hkpy73 : F9 19 = F9 19 := rfl
          have hkpy74 : F9 20 = F9 20 := rfl
          have hkpy75 : F9 21 = F9 21 := rfl
          have hkpy76 : F9 23 = F9 23 := rfl
          have hkpy77 : F9 24 = F9 24 := rfl
          have hkpy78 : F9 25 = F9 25 := rfl
          have hkpy79 : F9 26 = F9 26 := rfl
          have hkpy80 : F9 27 = F9 27 := rfl
          have hkpy81 : F9 29 = F9 29 := rfl
          exact z_iret C hr hlk dX10_nearest_129 (by decide) (by decide) ⟨it, rfl, rfl, rfl, by omega, ⟨_, _, hMy66, ⟨(by omega), (by omega), (by omega), (by omega), (by omega), (by omega), (by omega), (by omega), (by omega), (by omega), (by omega)⟩, ⟨(by omega), (by omega), (by omega), (by omega)⟩, fR⟩, fun j j1 => by exact f3 j j1⟩
        · refine z_aload_n C 0 dX10_nearest_49 rfl ?_
          refine z_aload_n C 0 dX10_nearest_50 rfl ?_
          refine z_iconst (z := 0) C dX10_nearest_51 rfl ?_
          refine z_iload C 3 dX10_nearest_52 rfl ?_
          obtain ⟨ny82, hny82⟩ : ∃ n9 : Nat, ss = (n9 : Int) := ⟨(ss).toNat, by omega⟩
          rw [hny82]
          obtain ⟨py83, hpy83⟩ : ∃ p9 : Nat, 0 + 6 + 86 * ny82 = p9 := ⟨_, rfl⟩
          have hmpy83 := hmn ny82 (by omega)
          rw [show 6 + 86 * ny82 = py83 by omega] at hmpy83
          have hmyy84 := ((okA.at0 hA_y41).1.1 ny82 (by omega)).1
          rw [hpy83] at hmyy84
          refine z_cV (As := [.int (zI (0)), .int (zI ((ny82 : Int)))]) (rest := [.ref (ad i)]) (ci := 12) C (c_X10_many l D A cs tt N ad _ i hN _ hg_y41 _ ha1_y41 0 ny82 py83 hpy83 (by omega) (by omega)) (lt_A0 hN rfl) hay42 hg_y41 rfl rfl mv_yX10_many q_1733 hd_yX10_many (by decide) (Nat.le_of_ble_eq_true rfl) (by decide) dX10_nearest_54 rfl (kI0 fun vy85 gvy85 hvy85 => ?_)
          obtain ⟨rfl, rfl⟩ := hvy85
          refine z_put (fs' := mF ad (i) (uZ F9 56 (r9 (py83)))) C (lt_A0 hN rfl) hay42 hg_y41 tyX10 tyX10_ok nmX10 rfl inA_X10 56 (by decide) q_1515 rfl rfl rfl rfl (Nat.le_of_ble_eq_true rfl) rfl dX10_nearest_57 (fun gy86 egy87 => ?_)
          have hgy88 := up_s egy87
          refine z_iconst (z := 0) C dX10_nearest_60 rfl ?_
          refine z_istore (lv' := [(5, .int (zI (0))), (0, .ref (ad i)), (2, .int (zI (it))), (3, .int (zI (fw))), (4, .int (zI ((ny82 : Int))))]) C dX10_nearest_61 (by decide) rfl ?_
          have lp2 : ∀ (n9 : Nat) (ll : Int) (F9b : Nat → Int) (r9b : Nat → Int) (g1 : Nat → va_E), (13 - ll).toNat = n9 → (okMr cs ad g1 i x F9b r9b st op ai fa mu tb tp) → ((∀ f, f ≠ 12 → f ≠ 55 → f ≠ 56 → F9b f = F f)) → ((∀ j, j < 350 ∨ 700 ≤ j → r9b j = r j)) → (∀ j, j < i ∨ i + 30 ≤ j ∨ (i + 8 ≤ j ∧ j ≤ i + 12) → g1 j = g j) → (0 ≤ ll ∧ ll ≤ 12) → ((0 ≤ F9b 56 ∧ F9b 56 ≤ 12) ∧ 0 ≤ F9b 55 ∧ F9b 55 ≤ 12) → zV pZ l eZ ({ frames := 3, cells := 0, slots := 0, locals := 180 } : Room) sZ mZ ([.ref (ad i), .int (zI ((n0 : Int)))] : List Value).toArray below meth cZ (MQ below (zPost D A (rI0 N ad fun q g' => (-2147483648 ≤ q ∧ q ≤ 2147483647) ∧ (∃ F' r' : Nat → Int, okMr cs ad g' i (x + 1) F' r' st op ai fa mu tb tp ∧ (F' 13 = F 13 ∧ F' 14 = F 14 ∧ F' 15 = F 15 ∧ F' 16 = F 16 ∧ F' 17 = F 17 ∧ F' 18 = F 18 ∧ F' 19 = F 19 ∧ F' 20 = F 20 ∧ F' 21 = F 21 ∧ F' 23 = F 23 ∧ F' 24 = F 24) ∧ (F' 25 = 0 ∧ F' 26 = -1 ∧ F' 27 = -1 ∧ F' 29 = 0) ∧ (∀ j, j < 350 ∨ 700 ≤ j → r' j = r j)) ∧ ∀ j, j < i ∨ i + 30 ≤ j ∨ (i + 8 ≤ j ∧ j ≤ i + 12) → g' j = g j)) ([.ref (ad i), .int (zI ((n0 : Int)))] : List Value).toArray sZ ({ frames := 3, cells := 0, slots := 0, locals := 180 } : Room).cells ({ frames := 3, cells := 0, slots := 0, locals := 180 } : Room).slots A) D A 6 (N) ad g1 (0) (0) 63 [(0, .ref (ad i)), (2, .int (zI (it))), (3, .int (zI (fw))), (4, .int (zI ((ny82 : Int)))), (5, .int (zI (ll)))] [] := by
            intro n9
            induction n9 using Nat.strongRecOn with
            | ind n9 ih_lp2 =>
              intro ll F9b r9b g1 hm9 fMb fFb fRb f3 hvlp20 hvlp21
              obtain ⟨hg_y89, ⟨⟨e13_y89, e14_y89, e25_y89, e27_y89, e29_y89⟩, k15_y89, k16_y89, k17_y89, k18_y89, k19_y89, k20_y89, k23_y89, k21_y89⟩, hRD_y89, hTx_y89, hA_y89, ns_y89, nh_y89, nd_y89, rf_y89, pi_y89, te_y89, ki_y89, li_y89, ok1_y89, ok2_y89, fo_y89, dd_y89, dps_y89, ⟨ha1_y89, ha2_y89, ha3_y89, ha4_y89, ha5_y89, ha6_y89, ha7_y89, ha8_y89, ha9_y89, ha10_y89, ha11_y89, ha12_y89, ha13_y89, ha14_y89, ha15_y89, ha24_y89, ha25_y89, ha26_y89, ha27_y89, ha28_y89, ha29_y89⟩, hEv_y89, hPt_y89, hns_y89, htp_y89⟩ := id fMb
              obtain ⟨-, hop_y89, hai_y89, hfa_y89, hT_y89, hT1_y89⟩ := id hEv_y89
              have e14 := e14_y89
              have e25 := e25_y89
              have e27 := e27_y89
              have e29 := e29_y89
              have hop := hop_y89
              have hai := hai_y89
              have hfa := hfa_y89
              have hT := hT_y89
              have hT1 := hT1_y89
              have hEv := hEv_y89
              have htp := htp_y89
              have hns := hns_y89
              have hPt := hPt_y89
              have hay90 : zAt ad (i) (ad i) := rfl
              have hay91 : zAt ad (i + 1) (ad (i + 1)) := rfl
              have hay92 : zAt ad (i + 2) (ad (i + 2)) := rfl
              have hay93 : zAt ad (i + 3) (ad (i + 3)) := rfl
              have hay94 : zAt ad (i + 4) (ad (i + 4)) := rfl
              have hay95 : zAt ad (i + 5) (ad (i + 5)) := rfl
              have hay96 : zAt ad (i + 6) (ad (i + 6)) := rfl
              have hay97 : zAt ad (i + 7) (ad (i + 7)) := rfl
              have hay98 : zAt ad (i + 8) (ad (i + 8)) := rfl
              have hay99 : zAt ad (i + 9) (ad (i + 9)) := rfl
              have hay100 : zAt ad (i + 10) (ad (i + 10)) := rfl
              have hay101 : zAt ad (i + 11) (ad (i + 11)) := rfl
              have hay102 : zAt ad (i + 12) (ad (i + 12)) := rfl
              have hay103 : zAt ad (i + 13) (ad (i + 13)) := rfl
              have hay104 : zAt ad (i + 14) (ad (i + 14)) := rfl
              have hay105 : zAt ad (i + 15) (ad (i + 15)) := rfl
              have hay106 : zAt ad (i + 24) (ad (i + 24)) := rfl
              have hay107 : zAt ad (i + 25) (ad (i + 25)) := rfl
              have hay108 : zAt ad (i + 26) (ad (i + 26)) := rfl
              have hay109 : zAt ad (i + 27) (ad (i + 27)) := rfl
              have hay110 : zAt ad (i + 28) (ad (i + 28)) := rfl
              have hay111 : zAt ad (i + 29) (ad (i + 29)) := rfl
              obtain ⟨⟨hsyy112, htyy112, hnyy112, hpyy112⟩, hlyy112⟩ := okA.at0 hA_y89
              simp only [Nat.zero_add] at hsyy112 hnyy112 hpyy112
              have hmn : ∀ s, s < 4 → 0 ≤ r9b (6 + 86 * s) ∧ r9b (6 + 86 * s) ≤ 12 := fun s hs => (hsyy112 s hs).1
              have h5 : 0 ≤ r9b 5 ∧ r9b 5 ≤ 6 := hpyy112
              have h13be : F9b 13 = F 13 := fFb 13 (by decide) (by decide) (by decide)
              have h14be : F9b 14 = F 14 := fFb 14 (by decide) (by decide) (by decide)
              have h17be : F9b 17 = F 17 := fFb 17 (by decide) (by decide) (by decide)
              have h20be : F9b 20 = F 20 := fFb 20 (by decide) (by decide) (by decide)
              have h21be : F9b 21 = F 21 := fFb 21 (by decide) (by decide) (by decide)
              have h23be : F9b 23 = F 23 := fFb 23 (by decide) (by decide) (by decide)
              have h24be : F9b 24 = F 24 := fFb 24 (by decide) (by decide) (by decide)
              have h15be : F9b 15 = F 15 := fFb 15 (by decide) (by decide) (by decide)
              have h16be : F9b 16 = F 16 := fFb 16 (by decide) (by decide) (by decide)
              have h18be : F9b 18 = F 18 := fFb 18 (by decide) (by decide) (by decide)
              have h19be : F9b 19 = F 19 := fFb 19 (by decide) (by decide) (by decide)
              have h25be : F9b 25 = F 25 := fFb 25 (by decide) (by decide) (by decide)
              have h26be : F9b 26 = F 26 := fFb 26 (by decide) (by decide) (by decide)
              have h27be : F9b 27 = F 27 := fFb 27 (by decide) (by decide) (by decide)
              have h29be : F9b 29 = F 29 := fFb 29 (by decide) (by decide) (by decide)
              refine z_iload C 4 dX10_nearest_63 rfl ?_
              refine z_aload_n C 0 dX10_nearest_65 rfl ?_
              refine z_get (v := .int (zI (F9b 56))) C (lt_A0 hN rfl) hay90 hg_y89 rfl inA_X10 56 (by decide) q_1515 rfl (fv (F := F9b) (f := 56) rfl) dX10_nearest_66 ?_
              refine z_icmp_ge (tgt := 95) C dX10_nearest_69 (by decide) (by omega) (by omega) (fun hby113 => ?_) (fun hby113 => ?_)
              · refine z_aload_n C 0 dX10_nearest_95 rfl ?_
                refine z_iconst (z := 0) C dX10_nearest_96 rfl ?_
                have hey115 : F9b 55 = F9b 55 := rfl
                have hey116 : F9b 56 = F9b 56 := rfl
                refine z_cV (As := [.int (zI (0))]) (rest := []) (ci := 12) C (c_X10_folds l D A cs tt N ad _ i hN _ hg_y89 _ ha25_y89 _ ha26_y89 _ ha27_y89 (by omega) (by omega) (0) (by omega)) (lt_A0 hN rfl) hay90 hg_y89 rfl rfl mv_yX10_folds q_2055 hd_yX10_folds (by decide) (Nat.le_of_ble_eq_true rfl) (by decide) dX10_nearest_97 rfl (kI0 fun vy114 gvy114 hvy114 => ?_)
                obtain ⟨hrvy114, ⟨tvy114, hdvy114⟩, hfvy114⟩ := hvy114
                refine z_istore (lv' := [(5, .int (zI (vy114))), (0, .ref (ad i)), (2, .int (zI (it))), (3, .int (zI (fw))), (4, .int (zI ((ny82 : Int))))]) C dX10_nearest_100 (by decide) rfl ?_
                refine z_iload_n C 2 dX10_nearest_102 rfl ?_
                refine z_iconst (z := -1) C dX10_nearest_103 rfl ?_
                refine z_icmp_eq (tgt := 116) C dX10_nearest_104 (by decide) (by omega) (by omega) (fun hby117 => ?_) (fun hby117 => ?_)
                · refine z_iload C 4 dX10_nearest_116 rfl ?_
                  refine z_istore_n (lv' := [(2, .int (zI ((ny82 : Int)))), (5, .int (zI (vy114))), (0, .ref (ad i)), (3, .int (zI (fw))), (4, .int (zI ((ny82 : Int))))]) C dX10_nearest_118 rfl (by decide) rfl ?_
                  refine z_iload C 1 dX10_nearest_119 rfl ?_
                  refine z_istore_n (lv' := [(3, .int (zI (vy114))), (2, .int (zI ((ny82 : Int)))), (5, .int (zI (vy114))), (0, .ref (ad i)), (4, .int (zI ((ny82 : Int))))]) C dX10_nearest_121 rfl (by decide) rfl ?_
                  refine z_iinc (z := (ny82 : Int) + 1) (lv' := [(4, .int (zI ((ny82 : Int) + 1))), (3, .int (zI (vy114))), (2, .int (zI ((ny82 : Int)))), (5, .int (zI (vy114))), (0, .ref (ad i))]) (j := 4) C dX10_nearest_122 rfl rfl (by decide) rfl ?_
                  refine z_goto (tgt := 40) C dX10_nearest_125 (by decide) ?_
                  have hgy118 := (hfvy114 (i) (ne_o (i := i) (c := 0) (d := 27) rfl)).trans hg_y89
                  have hgy119 := (hfvy114 (i + 1) (ne_o (i := i) (c := 1) (d := 27) rfl)).trans ha1_y89
                  have hMy120 : okMr cs ad gvy114 i (x) F9b r9b st op ai fa mu tb tp := okMr.upd fMb hgy118 fMb.2.1 (fun f _ => rfl) hgy119 (hA_y89.mono (by omega)) (fun j a b => by
                      by_cases e0 : j = i + 27
                      · exact Or.inr ⟨27, _, e0, lsP.l (by decide), by rw [e0]; exact hdvy114⟩
                      exact Or.inl (by rw [hfvy114 _ (by omega)]))
                  have hFF : (∀ f, f ≠ 12 → f ≠ 55 → f ≠ 56 → F9b f = F f) := fun f n12 n55 n56 => fFb f n12 n55 n56
                  have hey121 : F9b 13 = F9b 13 := rfl
                  have hey122 : F9b 14 = F9b 14 := rfl
                  have hey123 : F9b 55 = F9b 55 := rfl
                  refine z_lv (lv' := [(0, .ref (ad i)), (2, .int (zI ((ny82 : Int)))), (3, .int (zI (vy114))), (4, .int (zI ((ny82 : Int) + 1)))]) [4, 2, 1, 0] rfl ?_
                  exact ih_lp1 _ (by omega) ((ny82 : Int)) (vy114) ((ny82 : Int) + 1) _ _ gvy114 rfl hMy120 hFF (fRb) (fun j j1 => by rw [hfvy114 _ (by omega)]; exact f3 j j1) (by omega) (by omega) (by omega) (by omega)
                · refine z_iload C 0 dX10_nearest_107 rfl ?_
                  refine z_iload_n C 3 dX10_nearest_109 rfl ?_
                  refine z_icmp_lt (tgt := 116) C dX10_nearest_110 (by decide) (by omega) (by omega) (fun hby124 => ?_) (fun hby124 => ?_)
                  · refine z_iload C 4 dX10_nearest_116 rfl ?_
                    refine z_istore_n (lv' := [(2, .int (zI ((ny82 : Int)))), (5, .int (zI (vy114))), (0, .ref (ad i)), (3, .int (zI (fw))), (4, .int (zI ((ny82 : Int))))]) C dX10_nearest_118 rfl (by decide) rfl ?_
                    refine z_iload C 1 dX10_nearest_119 rfl ?_
                    refine z_istore_n (lv' := [(3, .int (zI (vy114))), (2, .int (zI ((ny82 : Int)))), (5, .int (zI (vy114))), (0, .ref (ad i)), (4, .int (zI ((ny82 : Int))))]) C dX10_nearest_121 rfl (by decide) rfl ?_
                    refine z_iinc (z := (ny82 : Int) + 1) (lv' := [(4, .int (zI ((ny82 : Int) + 1))), (3, .int (zI (vy114))), (2, .int (zI ((ny82 : Int)))), (5, .int (zI (vy114))), (0, .ref (ad i))]) (j := 4) C dX10_nearest_122 rfl rfl (by decide) rfl ?_
                    refine z_goto (tgt := 40) C dX10_nearest_125 (by decide) ?_
                    have hgy125 := (hfvy114 (i) (ne_o (i := i) (c := 0) (d := 27) rfl)).trans hg_y89
                    have hgy126 := (hfvy114 (i + 1) (ne_o (i := i) (c := 1) (d := 27) rfl)).trans ha1_y89
                    have hMy127 : okMr cs ad gvy114 i (x) F9b r9b st op ai fa mu tb tp := okMr.upd fMb hgy125 fMb.2.1 (fun f _ => rfl) hgy126 (hA_y89.mono (by omega)) (fun j a b => by
                        by_cases e0 : j = i + 27
                        · exact Or.inr ⟨27, _, e0, lsP.l (by decide), by rw [e0]; exact hdvy114⟩
                        exact Or.inl (by rw [hfvy114 _ (by omega)]))
                    have hFF : (∀ f, f ≠ 12 → f ≠ 55 → f ≠ 56 → F9b f = F f) := fun f n12 n55 n56 => fFb f n12 n55 n56
                    have hey128 : F9b 13 = F9b 13 := rfl
                    have hey129 : F9b 14 = F9b 14 := rfl
                    have hey130 : F9b 55 = F9b 55 := rfl
                    refine z_lv (lv' := [(0, .ref (ad i)), (2, .int (zI ((ny82 : Int)))), (3, .int (zI (vy114))), (4, .int (zI ((ny82 : Int) + 1)))]) [4, 2, 1, 0] rfl ?_
                    exact ih_lp1 _ (by omega) ((ny82 : Int)) (vy114) ((ny82 : Int) + 1) _ _ gvy114 rfl hMy127 hFF (fRb) (fun j j1 => by rw [hfvy114 _ (by omega)]; exact f3 j j1) (by omega) (by omega) (by omega) (by omega)
                  · refine z_goto (tgt := 122) C dX10_nearest_113 (by decide) ?_
                    refine z_iinc (z := (ny82 : Int) + 1) (lv' := [(4, .int (zI ((ny82 : Int) + 1))), (5, .int (zI (vy114))), (0, .ref (ad i)), (2, .int (zI (it))), (3, .int (zI (fw)))]) (j := 4) C dX10_nearest_122 rfl rfl (by decide) rfl ?_
                    refine z_goto (tgt := 40) C dX10_nearest_125 (by decide) ?_
                    have hgy131 := (hfvy114 (i) (ne_o (i := i) (c := 0) (d := 27) rfl)).trans hg_y89
                    have hgy132 := (hfvy114 (i + 1) (ne_o (i := i) (c := 1) (d := 27) rfl)).trans ha1_y89
                    have hMy133 : okMr cs ad gvy114 i (x) F9b r9b st op ai fa mu tb tp := okMr.upd fMb hgy131 fMb.2.1 (fun f _ => rfl) hgy132 (hA_y89.mono (by omega)) (fun j a b => by
                        by_cases e0 : j = i + 27
                        · exact Or.inr ⟨27, _, e0, lsP.l (by decide), by rw [e0]; exact hdvy114⟩
                        exact Or.inl (by rw [hfvy114 _ (by omega)]))
                    have hFF : (∀ f, f ≠ 12 → f ≠ 55 → f ≠ 56 → F9b f = F f) := fun f n12 n55 n56 => fFb f n12 n55 n56
                    have hey134 : F9b 13 = F9b 13 := rfl
                    have hey135 : F9b 14 = F9b 14 := rfl
                    have hey136 : F9b 55 = F9b 55 := rfl
                    refine z_lv (lv' := [(0, .ref (ad i)), (2, .int (zI (it))), (3, .int (zI (fw))), (4, .int (zI ((ny82 : Int) + 1)))]) [2, 3, 4, 0] rfl ?_
                    exact ih_lp1 _ (by omega) (it) (fw) ((ny82 : Int) + 1) _ _ gvy114 rfl hMy133 hFF (fRb) (fun j j1 => by rw [hfvy114 _ (by omega)]; exact f3 j j1) (by omega) (by omega) (by omega) (by omega)
              · refine z_aload_n C 0 dX10_nearest_72 rfl ?_
                refine z_get (v := .ref (ad (i + 26))) C (lt_A0 hN rfl) hay90 hg_y89 rfl inA_X10 53 (by decide) q_1512 rfl rfl dX10_nearest_73 ?_
                refine z_iload C 4 dX10_nearest_76 rfl ?_
                refine z_aload_n C 0 dX10_nearest_78 rfl ?_
                refine z_iconst (z := 0) C dX10_nearest_79 rfl ?_
                refine z_iload C 3 dX10_nearest_80 rfl ?_
                refine z_iload C 4 dX10_nearest_82 rfl ?_
                refine z_iconst (z := 0) C dX10_nearest_84 rfl ?_
                obtain ⟨py137, hpy137⟩ : ∃ p9 : Nat, 0 + 6 + 86 * ny82 = p9 := ⟨_, rfl⟩
                obtain ⟨ky138, hky138⟩ : ∃ k9 : Nat, (ll) = (k9 : Int) := ⟨((ll) : Int).toNat, by omega⟩
                obtain ⟨qy139, hqy139⟩ : ∃ q9 : Nat, py137 + 2 + 7 * ky138 = q9 := ⟨_, rfl⟩
                refine z_cV (As := [.int (zI (0)), .int (zI ((ny82 : Int))), .int (zI (ll)), .int (zI (0))]) (rest := [.int (zI (ll)), .ref (ad (i + 26))]) (ci := 12) C (c_X10_of l D A cs tt N ad _ i hN _ hg_y89 _ ha1_y89 0 ny82 py137 hpy137 (by omega) (by omega) (ll) (0) (qy139) (by omega) (by omega) (by omega)) (lt_A0 hN rfl) hay90 hg_y89 rfl rfl mv_yX10_of q_1749 hd_yX10_of (by decide) (Nat.le_of_ble_eq_true rfl) (by decide) dX10_nearest_85 rfl (kI0 fun vy140 gvy140 hvy140 => ?_)
                obtain ⟨rfl, rfl⟩ := hvy140
                refine z_iast C (lt_A (c := 26) hN rfl) hay108 ha26_y89 ((ll).toNat) (by omega) (by omega) (by decide) dX10_nearest_88 (fun gy141 egy142 => ?_)
                have hgy143 := up_s egy142
                refine z_iinc (z := ll + 1) (lv' := [(5, .int (zI (ll + 1))), (0, .ref (ad i)), (2, .int (zI (it))), (3, .int (zI (fw))), (4, .int (zI ((ny82 : Int))))]) (j := 4) C dX10_nearest_89 rfl rfl (by decide) rfl ?_
                refine z_goto (tgt := 63) C dX10_nearest_92 (by decide) ?_
                have hgy144 := up_n egy142 hg_y89 (ne_o (i := i) (c := 0) (d := 26) rfl)
                have hgy145 := up_n egy142 ha1_y89 (ne_o (i := i) (c := 1) (d := 26) rfl)
                have hMy146 : okMr cs ad gy141 i (x) F9b r9b st op ai fa mu tb tp := okMr.upd fMb hgy144 fMb.2.1 (fun f _ => rfl) hgy145 (hA_y89.mono (by omega)) (fun j a b => by
                    by_cases e0 : j = i + 26
                    · exact Or.inr ⟨26, _, e0, lsP.l (by decide), by rw [e0]; exact hgy143⟩
                    exact Or.inl (by rw [egy142, va_up_ne _ _ (by omega)]))
                have hFFb : (∀ f, f ≠ 12 → f ≠ 55 → f ≠ 56 → F9b f = F f) := fun f n12 n55 n56 => fFb f n12 n55 n56
                have hey147 : F9b 13 = F9b 13 := rfl
                have hey148 : F9b 14 = F9b 14 := rfl
                have hey149 : F9b 55 = F9b 55 := rfl
                have hey150 : F9b 56 = F9b 56 := rfl
                refine z_lv (lv' := [(0, .ref (ad i)), (2, .int (zI (it))), (3, .int (zI (fw))), (4, .int (zI ((ny82 : Int)))), (5, .int (zI (ll + 1)))]) [1, 2, 3, 4, 0] rfl ?_
                exact ih_lp2 _ (by omega) (ll + 1) _ _ gy141 rfl hMy146 hFFb (fRb) (fun j j1 => by rw [egy142, va_up_ne _ _ (by omega)]; exact f3 j j1) (by omega) (by omega)
          have hgy151 := up_n egy87 ha1_y41 (ne_o (i := i) (c := 1) (d := 0) rfl)
          have hFy152 : ∀ f, f ≠ 56 → (uZ F9 56 (r9 (py83))) f = F9 f := fun f n56 => ((uZ_n _ _ n56).trans rfl)
          have hey153 : (uZ F9 56 (r9 (py83))) 13 = F9 13 := (fn rfl (by decide))
          have hey154 : (uZ F9 56 (r9 (py83))) 14 = F9 14 := (fn rfl (by decide))
          have hey155 : (uZ F9 56 (r9 (py83))) 15 = F9 15 := (fn rfl (by decide))
          have hey156 : (uZ F9 56 (r9 (py83))) 16 = F9 16 := (fn rfl (by decide))
          have hey157 : (uZ F9 56 (r9 (py83))) 17 = F9 17 := (fn rfl (by decide))
          have hey158 : (uZ F9 56 (r9 (py83))) 18 = F9 18 := (fn rfl (by decide))
          have hey159 : (uZ F9 56 (r9 (py83))) 19 = F9 19 := (fn rfl (by decide))
          have hey160 : (uZ F9 56 (r9 (py83))) 20 = F9 20 := (fn rfl (by decide))
          have hey161 : (uZ F9 56 (r9 (py83))) 21 = F9 21 := (fn rfl (by decide))
          have hey162 : (uZ F9 56 (r9 (py83))) 23 = F9 23 := (fn rfl (by decide))
          have hey163 : (uZ F9 56 (r9 (py83))) 25 = F9 25 := (fn rfl (by decide))
          have hey164 : (uZ F9 56 (r9 (py83))) 27 = F9 27 := (fn rfl (by decide))
          have hey165 : (uZ F9 56 (r9 (py83))) 28 = F9 28 := (fn rfl (by decide))
          have hey166 : (uZ F9 56 (r9 (py83))) 29 = F9 29 := (fn rfl (by decide))
          have hKy167 : okF (uZ F9 56 (r9 (py83))) := okF.mv fM.2.1 hey153 hey154 hey155 hey156 hey157 hey158 hey159 hey160 hey161 hey162 hey163 hey164 hey165 hey166
          have hMy168 : okMr cs ad gy86 i (x) (uZ F9 56 (r9 (py83))) r9 st op ai fa mu tb tp := okMr.upd fM hgy88 hKy167 (fun f a => hFy152 f (by omega)) hgy151 (hA_y41.mono (by omega)) (fun j a b => by
              exact Or.inl (by rw [egy87, va_up_ne _ _ (by omega)]))
          have hFy169 : ∀ f, f ≠ 56 → (uZ F9 56 (r9 (py83))) f = F9 f := fun f n56 => ((uZ_n _ _ n56).trans rfl)
          have hFFb : (∀ f, f ≠ 12 → f ≠ 55 → f ≠ 56 → (uZ F9 56 (r9 (py83))) f = F f) := fun f n12 n55 n56 => (hFy169 f n56).trans (fF f n12 n55 n56)
          have hey170 : (uZ F9 56 (r9 (py83))) 13 = F9 13 := (fn rfl (by decide))
          have hey171 : (uZ F9 56 (r9 (py83))) 14 = F9 14 := (fn rfl (by decide))
          have hey172 : (uZ F9 56 (r9 (py83))) 55 = F9 55 := (fn rfl (by decide))
          have hey173 : (uZ F9 56 (r9 (py83))) 56 = r9 (py83) := (uZ_s _ _ _)
          refine z_lv (lv' := [(0, .ref (ad i)), (2, .int (zI (it))), (3, .int (zI (fw))), (4, .int (zI ((ny82 : Int)))), (5, .int (zI (0)))]) [1, 2, 3, 4, 0] rfl ?_
          exact lp2 _ (0) _ _ gy86 rfl hMy168 hFFb (fR) (fun j j1 => by rw [egy87, va_up_ne _ _ (by omega)]; exact f3 j j1) (by omega) (by omega)
    have hgy174 := (hfvy40 (i) (ne_o (i := i) (c := 0) (d := 25) rfl)).trans hgy35
    have hgy175 := (hfvy28 (i + 1) (ne_o (i := i) (c := 1) (d := 0) rfl)).trans hgy27
    have hgy176 := up_n egy34 hgy175 (ne_o (i := i) (c := 1) (d := 0) rfl)
    have hgy177 := (hfvy40 (i + 1) (ne_o (i := i) (c := 1) (d := 25) rfl)).trans hgy176
    have hFy178 : ∀ f, f ≠ 12 → f ≠ 55 → (uZ Fvy28 55 (pi (90 * n0 + 2))) f = F f := fun f n12 n55 => ((uZ_n _ _ n55).trans ((hFvy28 f n12).trans ((uZ_n _ _ n12).trans rfl)))
    have hey179 : (uZ Fvy28 55 (pi (90 * n0 + 2))) 13 = F 13 := (fn ((hFvy28 13 (by decide)).trans (fn rfl (by decide))) (by decide))
    have hey180 : (uZ Fvy28 55 (pi (90 * n0 + 2))) 14 = F 14 := (fn ((hFvy28 14 (by decide)).trans (fn rfl (by decide))) (by decide))
    have hey181 : (uZ Fvy28 55 (pi (90 * n0 + 2))) 15 = F 15 := (fn ((hFvy28 15 (by decide)).trans (fn rfl (by decide))) (by decide))
    have hey182 : (uZ Fvy28 55 (pi (90 * n0 + 2))) 16 = F 16 := (fn ((hFvy28 16 (by decide)).trans (fn rfl (by decide))) (by decide))
    have hey183 : (uZ Fvy28 55 (pi (90 * n0 + 2))) 17 = F 17 := (fn ((hFvy28 17 (by decide)).trans (fn rfl (by decide))) (by decide))
    have hey184 : (uZ Fvy28 55 (pi (90 * n0 + 2))) 18 = F 18 := (fn ((hFvy28 18 (by decide)).trans (fn rfl (by decide))) (by decide))
    have hey185 : (uZ Fvy28 55 (pi (90 * n0 + 2))) 19 = F 19 := (fn ((hFvy28 19 (by decide)).trans (fn rfl (by decide))) (by decide))
    have hey186 : (uZ Fvy28 55 (pi (90 * n0 + 2))) 20 = F 20 := (fn ((hFvy28 20 (by decide)).trans (fn rfl (by decide))) (by decide))
    have hey187 : (uZ Fvy28 55 (pi (90 * n0 + 2))) 21 = F 21 := (fn ((hFvy28 21 (by decide)).trans (fn rfl (by decide))) (by decide))
    have hey188 : (uZ Fvy28 55 (pi (90 * n0 + 2))) 23 = F 23 := (fn ((hFvy28 23 (by decide)).trans (fn rfl (by decide))) (by decide))
    have hey189 : (uZ Fvy28 55 (pi (90 * n0 + 2))) 25 = F 25 := (fn ((hFvy28 25 (by decide)).trans (fn rfl (by decide))) (by decide))
    have hey190 : (uZ Fvy28 55 (pi (90 * n0 + 2))) 27 = F 27 := (fn ((hFvy28 27 (by decide)).trans (fn rfl (by decide))) (by decide))
    have hey191 : (uZ Fvy28 55 (pi (90 * n0 + 2))) 28 = F 28 := (fn ((hFvy28 28 (by decide)).trans (fn rfl (by decide))) (by decide))
    have hey192 : (uZ Fvy28 55 (pi (90 * n0 + 2))) 29 = F 29 := (fn ((hFvy28 29 (by decide)).trans (fn rfl (by decide))) (by decide))
    have hKy193 : okF (uZ Fvy28 55 (pi (90 * n0 + 2))) := okF.mv hM.2.1 hey179 hey180 hey181 hey182 hey183 hey184 hey185 hey186 hey187 hey188 hey189 hey190 hey191 hey192
    have hMy194 : okMr cs ad gvy40 i (x) (uZ Fvy28 55 (pi (90 * n0 + 2))) r st op ai fa mu tb tp := okMr.upd hM hgy174 hKy193 (fun f a => hFy178 f (by omega) (by omega)) hgy177 (hA.mono (by omega)) (fun j a b => by
        by_cases e0 : j = i + 25
        · exact Or.inr ⟨25, _, e0, lsP.l (by decide), by rw [e0]; exact hdvy40⟩
        exact Or.inl (by rw [hfvy40 _ (by omega)]; rw [egy34, va_up_ne _ _ (by omega)]; rw [hfvy28 _ (by omega)]; rw [egy25, va_up_ne _ _ (by omega)]))
    have hFy195 : ∀ f, f ≠ 12 → f ≠ 55 → (uZ Fvy28 55 (pi (90 * n0 + 2))) f = F f := fun f n12 n55 => ((uZ_n _ _ n55).trans ((hFvy28 f n12).trans ((uZ_n _ _ n12).trans rfl)))
    have hFF : (∀ f, f ≠ 12 → f ≠ 55 → f ≠ 56 → (uZ Fvy28 55 (pi (90 * n0 + 2))) f = F f) := fun f n12 n55 n56 => (hFy195 f n12 n55)
    have hey196 : (uZ Fvy28 55 (pi (90 * n0 + 2))) 13 = F 13 := (fn ((hFvy28 13 (by decide)).trans (fn rfl (by decide))) (by decide))
    have hey197 : (uZ Fvy28 55 (pi (90 * n0 + 2))) 14 = F 14 := (fn ((hFvy28 14 (by decide)).trans (fn rfl (by decide))) (by decide))
    have hey198 : (uZ Fvy28 55 (pi (90 * n0 + 2))) 55 = pi (90 * n0 + 2) := (uZ_s _ _ _)
    refine z_lv (lv' := [(0, .ref (ad i)), (2, .int (zI (-1))), (3, .int (zI (0))), (4, .int (zI (0)))]) [3, 2, 1, 0] rfl ?_
    exact lp1 _ (-1) (0) (0) _ _ gvy40 rfl hMy194 hFF ((fun j _ => rfl)) (fun j j1 => by rw [hfvy40 _ (by omega)]; rw [egy34, va_up_ne _ _ (by omega)]; rw [hfvy28 _ (by omega)]; rw [egy25, va_up_ne _ _ (by omega)]) (by omega) (by omega) (by omega) (by omega)
  · refine z_if_ne (tgt := 15) C dX10_nearest_10 (by decide) (by omega) (fun h => absurd h (by omega)) (fun _ => ?_)
    refine z_iconst (z := 0) C dX10_nearest_13 rfl ?_
    have hgy199 := (hfvy28 (i + 1) (ne_o (i := i) (c := 1) (d := 0) rfl)).trans hgy27
    have hFy200 : ∀ f, f ≠ 12 → Fvy28 f = F f := fun f n12 => ((hFvy28 f n12).trans ((uZ_n _ _ n12).trans rfl))
    have hey201 : Fvy28 13 = F 13 := ((hFvy28 13 (by decide)).trans (fn rfl (by decide)))
    have hey202 : Fvy28 14 = F 14 := ((hFvy28 14 (by decide)).trans (fn rfl (by decide)))
    have hey203 : Fvy28 15 = F 15 := ((hFvy28 15 (by decide)).trans (fn rfl (by decide)))
    have hey204 : Fvy28 16 = F 16 := ((hFvy28 16 (by decide)).trans (fn rfl (by decide)))
    have hey205 : Fvy28 17 = F 17 := ((hFvy28 17 (by decide)).trans (fn rfl (by decide)))
    have hey206 : Fvy28 18 = F 18 := ((hFvy28 18 (by decide)).trans (fn rfl (by decide)))
    have hey207 : Fvy28 19 = F 19 := ((hFvy28 19 (by decide)).trans (fn rfl (by decide)))
    have hey208 : Fvy28 20 = F 20 := ((hFvy28 20 (by decide)).trans (fn rfl (by decide)))
    have hey209 : Fvy28 21 = F 21 := ((hFvy28 21 (by decide)).trans (fn rfl (by decide)))
    have hey210 : Fvy28 23 = F 23 := ((hFvy28 23 (by decide)).trans (fn rfl (by decide)))
    have hey211 : Fvy28 25 = F 25 := ((hFvy28 25 (by decide)).trans (fn rfl (by decide)))
    have hey212 : Fvy28 27 = F 27 := ((hFvy28 27 (by decide)).trans (fn rfl (by decide)))
    have hey213 : Fvy28 28 = F 28 := ((hFvy28 28 (by decide)).trans (fn rfl (by decide)))
    have hey214 : Fvy28 29 = F 29 := ((hFvy28 29 (by decide)).trans (fn rfl (by decide)))
    have hKy215 : okF Fvy28 := okF.mv hM.2.1 hey201 hey202 hey203 hey204 hey205 hey206 hey207 hey208 hey209 hey210 hey211 hey212 hey213 hey214
    have hMy216 : okMr cs ad gvy28 i (x + 1) Fvy28 r st op ai fa mu tb tp := okMr.upd hM hcvy28 hKy215 (fun f a => hFy200 f (by omega)) hgy199 (hA.mono (by omega)) (fun j a b => by
        exact Or.inl (by rw [hfvy28 _ (by omega)]; rw [egy25, va_up_ne _ _ (by omega)]))
    have hkpy217 : Fvy28 13 = F 13 := ((hFvy28 13 (by decide)).trans (fn rfl (by decide)))
    have hkpy218 : Fvy28 14 = F 14 := ((hFvy28 14 (by decide)).trans (fn rfl (by decide)))
    have hkpy219 : Fvy28 15 = F 15 := ((hFvy28 15 (by decide)).trans (fn rfl (by decide)))
    have hkpy220 : Fvy28 16 = F 16 := ((hFvy28 16 (by decide)).trans (fn rfl (by decide)))
    have hkpy221 : Fvy28 17 = F 17 := ((hFvy28 17 (by decide)).trans (fn rfl (by decide)))
    have hkpy222 : Fvy28 18 = F 18 := ((hFvy28 18 (by decide)).trans (fn rfl (by decide)))
    have hkpy223 : Fvy28 19 = F 19 := ((hFvy28 19 (by decide)).trans (fn rfl (by decide)))
    have hkpy224 : Fvy28 20 = F 20 := ((hFvy28 20 (by decide)).trans (fn rfl (by decide)))
    have hkpy225 : Fvy28 21 = F 21 := ((hFvy28 21 (by decide)).trans (fn rfl (by decide)))
    have hkpy226 : Fvy28 23 = F 23 := ((hFvy28 23 (by decide)).trans (fn rfl (by decide)))
    have hkpy227 : Fvy28 24 = F 24 := ((hFvy28 24 (by decide)).trans (fn rfl (by decide)))
    have hkpy228 : Fvy28 25 = F 25 := ((hFvy28 25 (by decide)).trans (fn rfl (by decide)))
    have hkpy229 : Fvy28 26 = F 26 := ((hFvy28 26 (by decide)).trans (fn rfl (by decide)))
    have hkpy230 : Fvy28 27 = F 27 := ((hFvy28 27 (by decide)).trans (fn rfl (by decide)))
    have hkpy231 : Fvy28 29 = F 29 := ((hFvy28 29 (by decide)).trans (fn rfl (by decide)))
    exact z_iret C hr hlk dX10_nearest_14 (by decide) (by decide) ⟨0, rfl, rfl, rfl, by omega, ⟨_, _, hMy216, ⟨hkpy217, hkpy218, hkpy219, hkpy220, hkpy221, hkpy222, hkpy223, hkpy224, hkpy225, hkpy226, hkpy227⟩, ⟨(hkpy228.trans hp25), (hkpy229.trans hp26), (hkpy230.trans hp27), (hkpy231.trans hp29)⟩, (fun j _ => rfl)⟩, fun j j1 => by rw [hfvy28 _ (by omega)]; rw [egy25, va_up_ne _ _ (by omega)]⟩

set_option maxRecDepth 100000 in
set_option maxHeartbeats 4000000 in
theorem c_X10_nearest_b (l : Launch) (D : va_G) (A : Nat → Prop) (cs : Nat → ClassId) (tt : Nat) (N : Nat) (ad : Nat → Nat) (g : Nat → va_E) (i : Nat) (hN : i + 30 ≤ N) (x : Int) (hx : 0 ≤ x ∧ x ≤ 512) (F r : Nat → Int) {st op ai fa mu tb tp : Nat → Int} (hM : okMr cs ad g i x F r st op ai fa mu tb tp) (hPl : F 25 = 0 ∧ F 26 = -1 ∧ F 27 = -1 ∧ F 29 = 0) (z : Int) (hz : -2147483648 ≤ z ∧ z ≤ 2147483647) (ho0 : z < 0 ∨ 5 < z) : zM l yX10_nearest cX10_nearest 6 (some .int) ({ frames := 3, cells := 0, slots := 0, locals := 180 } : Room) D A cs tt N ad g [.ref (ad i), .int (zI (z))] (rI0 N ad fun q g' => (-2147483648 ≤ q ∧ q ≤ 2147483647) ∧ (∃ F' r' : Nat → Int, okMr cs ad g' i (x + 1) F' r' st op ai fa mu tb tp ∧ (F' 13 = F 13 ∧ F' 14 = F 14 ∧ F' 15 = F 15 ∧ F' 16 = F 16 ∧ F' 17 = F 17 ∧ F' 18 = F 18 ∧ F' 19 = F 19 ∧ F' 20 = F 20 ∧ F' 21 = F 21 ∧ F' 23 = F 23 ∧ F' 24 = F 24) ∧ (F' 25 = 0 ∧ F' 26 = -1 ∧ F' 27 = -1 ∧ F' 29 = 0) ∧ (∀ j, j < 350 ∨ 700 ≤ j → r' j = r j)) ∧ ∀ j, j < i ∨ i + 30 ≤ j ∨ (i + 8 ≤ j ∧ j ≤ i + 12) → g' j = g j) := by
  obtain ⟨hg, ⟨⟨e13, e14, e25, e27, e29⟩, k15, k16, k17, k18, k19, k20, k23, k21⟩, hRD, hTx, hA, ns, nh, nd, rf, pi, te, ki, li, ok1, ok2, fo, dd, dps, ⟨ha1, ha2, ha3, ha4, ha5, ha6, ha7, ha8, ha9, ha10, ha11, ha12, ha13, ha14, ha15, ha24, ha25, ha26, ha27, ha28, ha29⟩, hEv, hPt, hns, htp⟩ := id hM
  obtain ⟨-, hop, hai, hfa, hT, hT1⟩ := id hEv
  have hay1 : zAt ad (i) (ad i) := rfl
  have hay2 : zAt ad (i + 1) (ad (i + 1)) := rfl
  have hay3 : zAt ad (i + 2) (ad (i + 2)) := rfl
  have hay4 : zAt ad (i + 3) (ad (i + 3)) := rfl
  have hay5 : zAt ad (i + 4) (ad (i + 4)) := rfl
  have hay6 : zAt ad (i + 5) (ad (i + 5)) := rfl
  have hay7 : zAt ad (i + 6) (ad (i + 6)) := rfl
  have hay8 : zAt ad (i + 7) (ad (i + 7)) := rfl
  have hay9 : zAt ad (i + 8) (ad (i + 8)) := rfl
  have hay10 : zAt ad (i + 9) (ad (i + 9)) := rfl
  have hay11 : zAt ad (i + 10) (ad (i + 10)) := rfl
  have hay12 : zAt ad (i + 11) (ad (i + 11)) := rfl
  have hay13 : zAt ad (i + 12) (ad (i + 12)) := rfl
  have hay14 : zAt ad (i + 13) (ad (i + 13)) := rfl
  have hay15 : zAt ad (i + 14) (ad (i + 14)) := rfl
  have hay16 : zAt ad (i + 15) (ad (i + 15)) := rfl
  have hay17 : zAt ad (i + 24) (ad (i + 24)) := rfl
  have hay18 : zAt ad (i + 25) (ad (i + 25)) := rfl
  have hay19 : zAt ad (i + 26) (ad (i + 26)) := rfl
  have hay20 : zAt ad (i + 27) (ad (i + 27)) := rfl
  have hay21 : zAt ad (i + 28) (ad (i + 28)) := rfl
  have hay22 : zAt ad (i + 29) (ad (i + 29)) := rfl
  obtain ⟨⟨hsyy23, htyy23, hnyy23, hpyy23⟩, hlyy23⟩ := okA.at0 hA
  simp only [Nat.zero_add] at hsyy23 hnyy23 hpyy23
  have hmn : ∀ s, s < 4 → 0 ≤ r (6 + 86 * s) ∧ r (6 + 86 * s) ≤ 12 := fun s hs => (hsyy23 s hs).1
  have h5 : 0 ≤ r 5 ∧ r 5 ≤ 6 := hpyy23
  obtain ⟨hp25, hp26, hp27, hp29⟩ := id hPl
  refine z_of (by decide) (Nat.le_of_ble_eq_true rfl) ?_
  intro pZ eZ sZ mZ below meth cZ C hr hlk hnm
  refine z_lv (lv' := [(0, .ref (ad i)), (1, .int (zI (z)))]) [0, 1] rfl ?_
  refine z_aload_n C 0 dX10_nearest_0 rfl ?_
  refine z_iconst (z := 0) C dX10_nearest_1 rfl ?_
  refine z_put (fs' := mF ad (i) (uZ F 12 (0))) C (lt_A0 hN rfl) hay1 hg tyX10 tyX10_ok nmX10 rfl inA_X10 12 (by decide) q_1471 rfl rfl rfl rfl (Nat.le_of_ble_eq_true rfl) rfl dX10_nearest_2 (fun gy24 egy25 => ?_)
  have hgy26 := up_s egy25
  refine z_aload_n C 0 dX10_nearest_5 rfl ?_
  refine z_iload_n C 1 dX10_nearest_6 rfl ?_
  have hgy27 := up_n egy25 ha1 (ne_o (i := i) (c := 1) (d := 0) rfl)
  have hey29 : (uZ F 12 (0)) 12 = 0 := (uZ_s _ _ _)
  refine z_cV (As := [.int (zI (z))]) (rest := []) (ci := 12) C (c_X10_isPit l D A cs tt N ad _ i hN _ hgy26 _ hgy27 (by omega) h5 (z) (by omega)) (lt_A0 hN rfl) hay1 hgy26 rfl rfl mv_yX10_isPit q_2027 hd_yX10_isPit (by decide) (Nat.le_of_ble_eq_true rfl) (by decide) dX10_nearest_7 rfl (kI0 fun vy28 gvy28 hvy28 => ?_)
  obtain ⟨hrvy28, ⟨Fvy28, hcvy28, htvy28, hFvy28⟩, hfvy28⟩ := hvy28
  obtain rfl : vy28 = 0 := by omega
  refine z_if_ne (tgt := 15) C dX10_nearest_10 (by decide) (by omega) (fun h => absurd h (by omega)) (fun _ => ?_)
  refine z_iconst (z := 0) C dX10_nearest_13 rfl ?_
  have hgy30 := (hfvy28 (i + 1) (ne_o (i := i) (c := 1) (d := 0) rfl)).trans hgy27
  have hFy31 : ∀ f, f ≠ 12 → Fvy28 f = F f := fun f n12 => ((hFvy28 f n12).trans ((uZ_n _ _ n12).trans rfl))
  have hey32 : Fvy28 13 = F 13 := ((hFvy28 13 (by decide)).trans (fn rfl (by decide)))
  have hey33 : Fvy28 14 = F 14 := ((hFvy28 14 (by decide)).trans (fn rfl (by decide)))
  have hey34 : Fvy28 15 = F 15 := ((hFvy28 15 (by decide)).trans (fn rfl (by decide)))
  have hey35 : Fvy28 16 = F 16 := ((hFvy28 16 (by decide)).trans (fn rfl (by decide)))
  have hey36 : Fvy28 17 = F 17 := ((hFvy28 17 (by decide)).trans (fn rfl (by decide)))
  have hey37 : Fvy28 18 = F 18 := ((hFvy28 18 (by decide)).trans (fn rfl (by decide)))
  have hey38 : Fvy28 19 = F 19 := ((hFvy28 19 (by decide)).trans (fn rfl (by decide)))
  have hey39 : Fvy28 20 = F 20 := ((hFvy28 20 (by decide)).trans (fn rfl (by decide)))
  have hey40 : Fvy28 21 = F 21 := ((hFvy28 21 (by decide)).trans (fn rfl (by decide)))
  have hey41 : Fvy28 23 = F 23 := ((hFvy28 23 (by decide)).trans (fn rfl (by decide)))
  have hey42 : Fvy28 25 = F 25 := ((hFvy28 25 (by decide)).trans (fn rfl (by decide)))
  have hey43 : Fvy28 27 = F 27 := ((hFvy28 27 (by decide)).trans (fn rfl (by decide)))
  have hey44 : Fvy28 28 = F 28 := ((hFvy28 28 (by decide)).trans (fn rfl (by decide)))
  have hey45 : Fvy28 29 = F 29 := ((hFvy28 29 (by decide)).trans (fn rfl (by decide)))
  have hKy46 : okF Fvy28 := okF.mv hM.2.1 hey32 hey33 hey34 hey35 hey36 hey37 hey38 hey39 hey40 hey41 hey42 hey43 hey44 hey45
  have hMy47 : okMr cs ad gvy28 i (x + 1) Fvy28 r st op ai fa mu tb tp := okMr.upd hM hcvy28 hKy46 (fun f a => hFy31 f (by omega)) hgy30 (hA.mono (by omega)) (fun j a b => by
      exact Or.inl (by rw [hfvy28 _ (by omega)]; rw [egy25, va_up_ne _ _ (by omega)]))
  have hkpy48 : Fvy28 13 = F 13 := ((hFvy28 13 (by decide)).trans (fn rfl (by decide)))
  have hkpy49 : Fvy28 14 = F 14 := ((hFvy28 14 (by decide)).trans (fn rfl (by decide)))
  have hkpy50 : Fvy28 15 = F 15 := ((hFvy28 15 (by decide)).trans (fn rfl (by decide)))
  have hkpy51 : Fvy28 16 = F 16 := ((hFvy28 16 (by decide)).trans (fn rfl (by decide)))
  have hkpy52 : Fvy28 17 = F 17 := ((hFvy28 17 (by decide)).trans (fn rfl (by decide)))
  have hkpy53 : Fvy28 18 = F 18 := ((hFvy28 18 (by decide)).trans (fn rfl (by decide)))
  have hkpy54 : Fvy28 19 = F 19 := ((hFvy28 19 (by decide)).trans (fn rfl (by decide)))
  have hkpy55 : Fvy28 20 = F 20 := ((hFvy28 20 (by decide)).trans (fn rfl (by decide)))
  have hkpy56 : Fvy28 21 = F 21 := ((hFvy28 21 (by decide)).trans (fn rfl (by decide)))
  have hkpy57 : Fvy28 23 = F 23 := ((hFvy28 23 (by decide)).trans (fn rfl (by decide)))
  have hkpy58 : Fvy28 24 = F 24 := ((hFvy28 24 (by decide)).trans (fn rfl (by decide)))
  have hkpy59 : Fvy28 25 = F 25 := ((hFvy28 25 (by decide)).trans (fn rfl (by decide)))
  have hkpy60 : Fvy28 26 = F 26 := ((hFvy28 26 (by decide)).trans (fn rfl (by decide)))
  have hkpy61 : Fvy28 27 = F 27 := ((hFvy28 27 (by decide)).trans (fn rfl (by decide)))
  have hkpy62 : Fvy28 29 = F 29 := ((hFvy28 29 (by decide)).trans (fn rfl (by decide)))
  exact z_iret C hr hlk dX10_nearest_14 (by decide) (by decide) ⟨0, rfl, rfl, rfl, by omega, ⟨_, _, hMy47, ⟨hkpy48, hkpy49, hkpy50, hkpy51, hkpy52, hkpy53, hkpy54, hkpy55, hkpy56, hkpy57, hkpy58⟩, ⟨(hkpy59.trans hp25), (hkpy60.trans hp26), (hkpy61.trans hp27), (hkpy62.trans hp29)⟩, (fun j _ => rfl)⟩, fun j j1 => by rw [hfvy28 _ (by omega)]; rw [egy25, va_up_ne _ _ (by omega)]⟩

set_option maxRecDepth 100000 in
set_option maxHeartbeats 4000000 in
theorem c_X10_nearest (l : Launch) (D : va_G) (A : Nat → Prop) (cs : Nat → ClassId) (tt : Nat) (N : Nat) (ad : Nat → Nat) (g : Nat → va_E) (i : Nat) (hN : i + 30 ≤ N) (x : Int) (hx : 0 ≤ x ∧ x ≤ 512) (F r : Nat → Int) {st op ai fa mu tb tp : Nat → Int} (hM : okMr cs ad g i x F r st op ai fa mu tb tp) (hPl : F 25 = 0 ∧ F 26 = -1 ∧ F 27 = -1 ∧ F 29 = 0) (z : Int) (hz : -2147483648 ≤ z ∧ z ≤ 2147483647) : zM l yX10_nearest cX10_nearest 6 (some .int) ({ frames := 3, cells := 0, slots := 0, locals := 180 } : Room) D A cs tt N ad g [.ref (ad i), .int (zI (z))] (rI0 N ad fun q g' => (-2147483648 ≤ q ∧ q ≤ 2147483647) ∧ (∃ F' r' : Nat → Int, okMr cs ad g' i (x + 1) F' r' st op ai fa mu tb tp ∧ (F' 13 = F 13 ∧ F' 14 = F 14 ∧ F' 15 = F 15 ∧ F' 16 = F 16 ∧ F' 17 = F 17 ∧ F' 18 = F 18 ∧ F' 19 = F 19 ∧ F' 20 = F 20 ∧ F' 21 = F 21 ∧ F' 23 = F 23 ∧ F' 24 = F 24) ∧ (F' 25 = 0 ∧ F' 26 = -1 ∧ F' 27 = -1 ∧ F' 29 = 0) ∧ (∀ j, j < 350 ∨ 700 ≤ j → r' j = r j)) ∧ ∀ j, j < i ∨ i + 30 ≤ j ∨ (i + 8 ≤ j ∧ j ≤ i + 12) → g' j = g j) := by
  by_cases hk0 : 0 ≤ z ∧ z ≤ 5
  · obtain ⟨n0, rfl⟩ : ∃ n : Nat, z = (n : Int) := ⟨z.toNat, by omega⟩
    exact c_X10_nearest_a l D A cs tt N ad g i hN x hx F r hM hPl n0 (by omega) 
  · exact c_X10_nearest_b l D A cs tt N ad g i hN x hx F r hM hPl z hz (by omega)
end
section
-- 99p.words.lean.txt
-- words of refbec
theorem q_1480 : (Jvm.Cond.fieldLink "SnowRecorderModel" (333 : Nat) "SnowRecorderModel" "hasImage" "I") ∈ AW := AW_m7 40 (by decide +kernel) (by decide +kernel)
end
section
-- 99q.dec.lean.txt
-- decode rows of refbec
theorem dX10_becomes_0 : decode cX10_becomes 0 = .ok (.aload_n 0, 1) := by decide +kernel
theorem dX10_becomes_1 : decode cX10_becomes 1 = .ok (.aload_n 0, 1) := by decide +kernel
theorem dX10_becomes_2 : decode cX10_becomes 2 = .ok (.getfield 288, 3) := by decide +kernel
theorem dX10_becomes_5 : decode cX10_becomes 5 = .ok (.putfield 198, 3) := by decide +kernel
theorem dX10_becomes_8 : decode cX10_becomes 8 = .ok (.aload_n 0, 1) := by decide +kernel
theorem dX10_becomes_9 : decode cX10_becomes 9 = .ok (.aload_n 0, 1) := by decide +kernel
theorem dX10_becomes_10 : decode cX10_becomes 10 = .ok (.getfield 305, 3) := by decide +kernel
theorem dX10_becomes_13 : decode cX10_becomes 13 = .ok (.putfield 153, 3) := by decide +kernel
theorem dX10_becomes_16 : decode cX10_becomes 16 = .ok (.aload_n 0, 1) := by decide +kernel
theorem dX10_becomes_17 : decode cX10_becomes 17 = .ok (.invokevirtual 107, 3) := by decide +kernel
theorem dX10_becomes_20 : decode cX10_becomes 20 = .ok (.iconst 0, 1) := by decide +kernel
theorem dX10_becomes_21 : decode cX10_becomes 21 = .ok (.istore_n 1, 1) := by decide +kernel
theorem dX10_becomes_22 : decode cX10_becomes 22 = .ok (.iload_n 1, 1) := by decide +kernel
theorem dX10_becomes_23 : decode cX10_becomes 23 = .ok (.bipush 15, 2) := by decide +kernel
theorem dX10_becomes_25 : decode cX10_becomes 25 = .ok (.if_icmp .ge 31, 3) := by decide +kernel
theorem dX10_becomes_56 : decode cX10_becomes 56 = .ok (.iconst 0, 1) := by decide +kernel
theorem dX10_becomes_57 : decode cX10_becomes 57 = .ok (.istore_n 1, 1) := by decide +kernel
theorem dX10_becomes_58 : decode cX10_becomes 58 = .ok (.iload_n 1, 1) := by decide +kernel
theorem dX10_becomes_59 : decode cX10_becomes 59 = .ok (.aload_n 0, 1) := by decide +kernel
theorem dX10_becomes_60 : decode cX10_becomes 60 = .ok (.getfield 153, 3) := by decide +kernel
theorem dX10_becomes_63 : decode cX10_becomes 63 = .ok (.if_icmp .ge 45, 3) := by decide +kernel
theorem dX10_becomes_108 : decode cX10_becomes 108 = .ok (.iconst 0, 1) := by decide +kernel
theorem dX10_becomes_109 : decode cX10_becomes 109 = .ok (.istore_n 1, 1) := by decide +kernel
theorem dX10_becomes_110 : decode cX10_becomes 110 = .ok (.iload_n 1, 1) := by decide +kernel
theorem dX10_becomes_111 : decode cX10_becomes 111 = .ok (.sipush 350, 3) := by decide +kernel
theorem dX10_becomes_114 : decode cX10_becomes 114 = .ok (.if_icmp .ge 16, 3) := by decide +kernel
theorem dX10_becomes_130 : decode cX10_becomes 130 = .ok (.aload_n 0, 1) := by decide +kernel
theorem dX10_becomes_131 : decode cX10_becomes 131 = .ok (.getfield 9, 3) := by decide +kernel
theorem dX10_becomes_134 : decode cX10_becomes 134 = .ok (.iconst 1, 1) := by decide +kernel
theorem dX10_becomes_135 : decode cX10_becomes 135 = .ok (.aload_n 0, 1) := by decide +kernel
theorem dX10_becomes_136 : decode cX10_becomes 136 = .ok (.getfield 302, 3) := by decide +kernel
theorem dX10_becomes_139 : decode cX10_becomes 139 = .ok (.iastore, 1) := by decide +kernel
theorem dX10_becomes_140 : decode cX10_becomes 140 = .ok (.iconst 0, 1) := by decide +kernel
theorem dX10_becomes_141 : decode cX10_becomes 141 = .ok (.istore_n 1, 1) := by decide +kernel
theorem dX10_becomes_142 : decode cX10_becomes 142 = .ok (.iload_n 1, 1) := by decide +kernel
theorem dX10_becomes_143 : decode cX10_becomes 143 = .ok (.aload_n 0, 1) := by decide +kernel
theorem dX10_becomes_144 : decode cX10_becomes 144 = .ok (.getfield 198, 3) := by decide +kernel
theorem dX10_becomes_147 : decode cX10_becomes 147 = .ok (.if_icmp .ge 86, 3) := by decide +kernel
theorem dX10_becomes_233 : decode cX10_becomes 233 = .ok (.aload_n 0, 1) := by decide +kernel
theorem dX10_becomes_234 : decode cX10_becomes 234 = .ok (.aload_n 0, 1) := by decide +kernel
theorem dX10_becomes_235 : decode cX10_becomes 235 = .ok (.aload_n 0, 1) := by decide +kernel
theorem dX10_becomes_236 : decode cX10_becomes 236 = .ok (.aload_n 0, 1) := by decide +kernel
theorem dX10_becomes_237 : decode cX10_becomes 237 = .ok (.iconst 0, 1) := by decide +kernel
theorem dX10_becomes_238 : decode cX10_becomes 238 = .ok (.dup_x1, 1) := by decide +kernel
theorem dX10_becomes_239 : decode cX10_becomes 239 = .ok (.putfield 333, 3) := by decide +kernel
theorem dX10_becomes_242 : decode cX10_becomes 242 = .ok (.dup_x1, 1) := by decide +kernel
theorem dX10_becomes_243 : decode cX10_becomes 243 = .ok (.putfield 336, 3) := by decide +kernel
theorem dX10_becomes_246 : decode cX10_becomes 246 = .ok (.dup_x1, 1) := by decide +kernel
theorem dX10_becomes_247 : decode cX10_becomes 247 = .ok (.putfield 339, 3) := by decide +kernel
theorem dX10_becomes_250 : decode cX10_becomes 250 = .ok (.putfield 342, 3) := by decide +kernel
theorem dX10_becomes_253 : decode cX10_becomes 253 = .ok (.return_, 1) := by decide +kernel
theorem dX10_becomes_150 : decode cX10_becomes 150 = .ok (.aload_n 0, 1) := by decide +kernel
theorem dX10_becomes_151 : decode cX10_becomes 151 = .ok (.getfield 13, 3) := by decide +kernel
theorem dX10_becomes_154 : decode cX10_becomes 154 = .ok (.iload_n 1, 1) := by decide +kernel
theorem dX10_becomes_155 : decode cX10_becomes 155 = .ok (.aload_n 0, 1) := by decide +kernel
theorem dX10_becomes_156 : decode cX10_becomes 156 = .ok (.getfield 65, 3) := by decide +kernel
theorem dX10_becomes_159 : decode cX10_becomes 159 = .ok (.iload_n 1, 1) := by decide +kernel
theorem dX10_becomes_160 : decode cX10_becomes 160 = .ok (.iaload, 1) := by decide +kernel
theorem dX10_becomes_161 : decode cX10_becomes 161 = .ok (.iastore, 1) := by decide +kernel
theorem dX10_becomes_162 : decode cX10_becomes 162 = .ok (.aload_n 0, 1) := by decide +kernel
theorem dX10_becomes_163 : decode cX10_becomes 163 = .ok (.getfield 16, 3) := by decide +kernel
theorem dX10_becomes_166 : decode cX10_becomes 166 = .ok (.iload_n 1, 1) := by decide +kernel
theorem dX10_becomes_167 : decode cX10_becomes 167 = .ok (.aload_n 0, 1) := by decide +kernel
theorem dX10_becomes_168 : decode cX10_becomes 168 = .ok (.getfield 68, 3) := by decide +kernel
theorem dX10_becomes_171 : decode cX10_becomes 171 = .ok (.iload_n 1, 1) := by decide +kernel
theorem dX10_becomes_172 : decode cX10_becomes 172 = .ok (.iaload, 1) := by decide +kernel
theorem dX10_becomes_173 : decode cX10_becomes 173 = .ok (.iastore, 1) := by decide +kernel
theorem dX10_becomes_174 : decode cX10_becomes 174 = .ok (.aload_n 0, 1) := by decide +kernel
theorem dX10_becomes_175 : decode cX10_becomes 175 = .ok (.iconst 0, 1) := by decide +kernel
theorem dX10_becomes_176 : decode cX10_becomes 176 = .ok (.iload_n 1, 1) := by decide +kernel
theorem dX10_becomes_177 : decode cX10_becomes 177 = .ok (.aload_n 0, 1) := by decide +kernel
theorem dX10_becomes_178 : decode cX10_becomes 178 = .ok (.getfield 71, 3) := by decide +kernel
theorem dX10_becomes_181 : decode cX10_becomes 181 = .ok (.iload_n 1, 1) := by decide +kernel
theorem dX10_becomes_182 : decode cX10_becomes 182 = .ok (.iaload, 1) := by decide +kernel
theorem dX10_becomes_183 : decode cX10_becomes 183 = .ok (.invokevirtual 135, 3) := by decide +kernel
theorem dX10_becomes_186 : decode cX10_becomes 186 = .ok (.iconst 0, 1) := by decide +kernel
theorem dX10_becomes_187 : decode cX10_becomes 187 = .ok (.istore_n 2, 1) := by decide +kernel
theorem dX10_becomes_188 : decode cX10_becomes 188 = .ok (.iload_n 2, 1) := by decide +kernel
theorem dX10_becomes_189 : decode cX10_becomes 189 = .ok (.bipush 84, 2) := by decide +kernel
theorem dX10_becomes_191 : decode cX10_becomes 191 = .ok (.if_icmp .ge 36, 3) := by decide +kernel
theorem dX10_becomes_227 : decode cX10_becomes 227 = .ok (.iinc 1 1, 3) := by decide +kernel
theorem dX10_becomes_230 : decode cX10_becomes 230 = .ok (.goto (-88), 3) := by decide +kernel
theorem dX10_becomes_194 : decode cX10_becomes 194 = .ok (.aload_n 0, 1) := by decide +kernel
theorem dX10_becomes_195 : decode cX10_becomes 195 = .ok (.getfield 9, 3) := by decide +kernel
theorem dX10_becomes_198 : decode cX10_becomes 198 = .ok (.bipush 6, 2) := by decide +kernel
theorem dX10_becomes_200 : decode cX10_becomes 200 = .ok (.bipush 86, 2) := by decide +kernel
theorem dX10_becomes_202 : decode cX10_becomes 202 = .ok (.iload_n 1, 1) := by decide +kernel
theorem dX10_becomes_203 : decode cX10_becomes 203 = .ok (.imul, 1) := by decide +kernel
theorem dX10_becomes_204 : decode cX10_becomes 204 = .ok (.iadd, 1) := by decide +kernel
theorem dX10_becomes_205 : decode cX10_becomes 205 = .ok (.iconst 2, 1) := by decide +kernel
theorem dX10_becomes_206 : decode cX10_becomes 206 = .ok (.iadd, 1) := by decide +kernel
theorem dX10_becomes_207 : decode cX10_becomes 207 = .ok (.iload_n 2, 1) := by decide +kernel
theorem dX10_becomes_208 : decode cX10_becomes 208 = .ok (.iadd, 1) := by decide +kernel
theorem dX10_becomes_209 : decode cX10_becomes 209 = .ok (.aload_n 0, 1) := by decide +kernel
theorem dX10_becomes_210 : decode cX10_becomes 210 = .ok (.getfield 86, 3) := by decide +kernel
theorem dX10_becomes_213 : decode cX10_becomes 213 = .ok (.bipush 84, 2) := by decide +kernel
theorem dX10_becomes_215 : decode cX10_becomes 215 = .ok (.iload_n 1, 1) := by decide +kernel
theorem dX10_becomes_216 : decode cX10_becomes 216 = .ok (.imul, 1) := by decide +kernel
theorem dX10_becomes_217 : decode cX10_becomes 217 = .ok (.iload_n 2, 1) := by decide +kernel
theorem dX10_becomes_218 : decode cX10_becomes 218 = .ok (.iadd, 1) := by decide +kernel
theorem dX10_becomes_219 : decode cX10_becomes 219 = .ok (.iaload, 1) := by decide +kernel
theorem dX10_becomes_220 : decode cX10_becomes 220 = .ok (.iastore, 1) := by decide +kernel
theorem dX10_becomes_221 : decode cX10_becomes 221 = .ok (.iinc 2 1, 3) := by decide +kernel
theorem dX10_becomes_224 : decode cX10_becomes 224 = .ok (.goto (-36), 3) := by decide +kernel
theorem dX10_becomes_117 : decode cX10_becomes 117 = .ok (.aload_n 0, 1) := by decide +kernel
theorem dX10_becomes_118 : decode cX10_becomes 118 = .ok (.getfield 9, 3) := by decide +kernel
theorem dX10_becomes_121 : decode cX10_becomes 121 = .ok (.iload_n 1, 1) := by decide +kernel
theorem dX10_becomes_122 : decode cX10_becomes 122 = .ok (.iconst 0, 1) := by decide +kernel
theorem dX10_becomes_123 : decode cX10_becomes 123 = .ok (.iastore, 1) := by decide +kernel
theorem dX10_becomes_124 : decode cX10_becomes 124 = .ok (.iinc 1 1, 3) := by decide +kernel
theorem dX10_becomes_127 : decode cX10_becomes 127 = .ok (.goto (-17), 3) := by decide +kernel
theorem dX10_becomes_66 : decode cX10_becomes 66 = .ok (.aload_n 0, 1) := by decide +kernel
theorem dX10_becomes_67 : decode cX10_becomes 67 = .ok (.getfield 19, 3) := by decide +kernel
theorem dX10_becomes_70 : decode cX10_becomes 70 = .ok (.iload_n 1, 1) := by decide +kernel
theorem dX10_becomes_71 : decode cX10_becomes 71 = .ok (.aload_n 0, 1) := by decide +kernel
theorem dX10_becomes_72 : decode cX10_becomes 72 = .ok (.getfield 74, 3) := by decide +kernel
theorem dX10_becomes_75 : decode cX10_becomes 75 = .ok (.iload_n 1, 1) := by decide +kernel
theorem dX10_becomes_76 : decode cX10_becomes 76 = .ok (.iaload, 1) := by decide +kernel
theorem dX10_becomes_77 : decode cX10_becomes 77 = .ok (.iastore, 1) := by decide +kernel
theorem dX10_becomes_78 : decode cX10_becomes 78 = .ok (.aload_n 0, 1) := by decide +kernel
theorem dX10_becomes_79 : decode cX10_becomes 79 = .ok (.getfield 22, 3) := by decide +kernel
theorem dX10_becomes_82 : decode cX10_becomes 82 = .ok (.iload_n 1, 1) := by decide +kernel
theorem dX10_becomes_83 : decode cX10_becomes 83 = .ok (.aload_n 0, 1) := by decide +kernel
theorem dX10_becomes_84 : decode cX10_becomes 84 = .ok (.getfield 77, 3) := by decide +kernel
theorem dX10_becomes_87 : decode cX10_becomes 87 = .ok (.iload_n 1, 1) := by decide +kernel
theorem dX10_becomes_88 : decode cX10_becomes 88 = .ok (.iaload, 1) := by decide +kernel
theorem dX10_becomes_89 : decode cX10_becomes 89 = .ok (.iastore, 1) := by decide +kernel
theorem dX10_becomes_90 : decode cX10_becomes 90 = .ok (.aload_n 0, 1) := by decide +kernel
theorem dX10_becomes_91 : decode cX10_becomes 91 = .ok (.getfield 25, 3) := by decide +kernel
theorem dX10_becomes_94 : decode cX10_becomes 94 = .ok (.iload_n 1, 1) := by decide +kernel
theorem dX10_becomes_95 : decode cX10_becomes 95 = .ok (.aload_n 0, 1) := by decide +kernel
theorem dX10_becomes_96 : decode cX10_becomes 96 = .ok (.getfield 80, 3) := by decide +kernel
theorem dX10_becomes_99 : decode cX10_becomes 99 = .ok (.iload_n 1, 1) := by decide +kernel
theorem dX10_becomes_100 : decode cX10_becomes 100 = .ok (.iaload, 1) := by decide +kernel
theorem dX10_becomes_101 : decode cX10_becomes 101 = .ok (.iastore, 1) := by decide +kernel
theorem dX10_becomes_102 : decode cX10_becomes 102 = .ok (.iinc 1 1, 3) := by decide +kernel
theorem dX10_becomes_105 : decode cX10_becomes 105 = .ok (.goto (-47), 3) := by decide +kernel
theorem dX10_becomes_28 : decode cX10_becomes 28 = .ok (.aload_n 0, 1) := by decide +kernel
theorem dX10_becomes_29 : decode cX10_becomes 29 = .ok (.getfield 83, 3) := by decide +kernel
theorem dX10_becomes_32 : decode cX10_becomes 32 = .ok (.iload_n 1, 1) := by decide +kernel
theorem dX10_becomes_33 : decode cX10_becomes 33 = .ok (.iaload, 1) := by decide +kernel
theorem dX10_becomes_34 : decode cX10_becomes 34 = .ok (.iconst (-1), 1) := by decide +kernel
theorem dX10_becomes_35 : decode cX10_becomes 35 = .ok (.if_icmp .eq 15, 3) := by decide +kernel
theorem dX10_becomes_50 : decode cX10_becomes 50 = .ok (.iinc 1 1, 3) := by decide +kernel
theorem dX10_becomes_53 : decode cX10_becomes 53 = .ok (.goto (-31), 3) := by decide +kernel
theorem dX10_becomes_38 : decode cX10_becomes 38 = .ok (.aload_n 0, 1) := by decide +kernel
theorem dX10_becomes_39 : decode cX10_becomes 39 = .ok (.getfield 28, 3) := by decide +kernel
theorem dX10_becomes_42 : decode cX10_becomes 42 = .ok (.iload_n 1, 1) := by decide +kernel
theorem dX10_becomes_43 : decode cX10_becomes 43 = .ok (.aload_n 0, 1) := by decide +kernel
theorem dX10_becomes_44 : decode cX10_becomes 44 = .ok (.getfield 83, 3) := by decide +kernel
theorem dX10_becomes_47 : decode cX10_becomes 47 = .ok (.iload_n 1, 1) := by decide +kernel
theorem dX10_becomes_48 : decode cX10_becomes 48 = .ok (.iaload, 1) := by decide +kernel
theorem dX10_becomes_49 : decode cX10_becomes 49 = .ok (.iastore, 1) := by decide +kernel
end
