section
-- 99l.refcmp.lean.txt
theorem okW.five {r r' : Nat → Int} {b : Nat} {x : Int} (h : okW r b x) (he : ∀ j, j ≠ b + 5 → r' j = r j) (h5 : 0 ≤ r' (b + 5) ∧ r' (b + 5) ≤ 6) : okW r' b x := by
  obtain ⟨h1, h2, h3, h4⟩ := h
  have h0 : r' b = r b := he b (by omega)
  refine ⟨fun k hk => ?_, by rw [h0]; exact h2, by rw [h0, he (b + 1) (by omega)]; exact h3, h5⟩
  rw [h0]
  exact (h1 k hk).ext (fun j a1 a2 => he j (by omega))
theorem qS.ofPit {r pi : Nat → Int} {p k : Nat} (hk : k < 12) (h : okPt pi) (hp : r p = pi (90 * k + 2)) (hl : ∀ m, m < 84 → r (p + 2 + m) = pi (90 * k + 3 + m)) : qS r p := by
  obtain ⟨h1, h2, h3⟩ := h k hk
  refine ⟨by rw [hp]; exact h2, fun l a => ?_⟩
  rw [hp] at a
  have h9 := h3 l a
  rw [show p + 2 + 7 * l + 3 = p + 2 + (7 * l + 3) by omega, hl (7 * l + 3) (by omega), hl (7 * l) (by omega), show 90 * k + 3 + (7 * l + 3) = 90 * k + 3 + 7 * l + 3 by omega]
  exact h9
theorem okPt.put {pi p9 r : Nat → Int} {kp p s : Nat} {M E : Int} (h : okPt pi) (hk : kp < 6) (hs : s < 4) (ho : okS r p M E) (hE : E ≤ 400000000) (hf : ∀ j, j < 90 * kp ∨ 90 * kp + 90 ≤ j → p9 j = pi j) (h0 : p9 (90 * kp) = (s : Int)) (h2 : p9 (90 * kp + 2) = r p) (hl : ∀ m, m < 84 → p9 (90 * kp + 3 + m) = r (p + 2 + m)) : okPt p9 := fun k hk2 => by
  by_cases e : k = kp
  · subst e
    refine ⟨by rw [h0]; omega, by rw [h2]; exact ho.1, fun l a => ?_⟩
    rw [h2] at a
    have hb := ho.1
    have h9 := (ho.q hE).2 l a
    rw [show 90 * k + 3 + 7 * l + 3 = 90 * k + 3 + (7 * l + 3) by omega, hl (7 * l + 3) (by omega), hl (7 * l) (by omega), show p + 2 + (7 * l + 3) = p + 2 + 7 * l + 3 by omega]
    exact h9
  · obtain ⟨a1, a2, a3⟩ := h k hk2
    rw [hf (90 * k) (by omega), hf (90 * k + 2) (by omega)]
    refine ⟨a1, a2, fun l b => ?_⟩
    rw [hf (90 * k + 3 + 7 * l) (by omega), hf (90 * k + 3 + 7 * l + 3) (by omega)]
    exact a3 l b
theorem okPt.cpy {pi p9 : Nat → Int} {a b : Nat} (h : okPt pi) (hab : a = 0 ∧ b = 6 ∨ a = 6 ∧ b = 0) (he : ∀ m, m < 540 → p9 (90 * b + m) = pi (90 * a + m)) (hf : ∀ m, m < 540 → p9 (90 * a + m) = pi (90 * a + m)) : okPt p9 := fun k hk => by
  obtain ⟨c, hc, hq⟩ : ∃ c, c < 12 ∧ ∀ m, m < 90 → p9 (90 * k + m) = pi (90 * c + m) := by
    by_cases e : b ≤ k ∧ k < b + 6
    · refine ⟨a + (k - b), by omega, fun m hm => ?_⟩
      rw [show 90 * k + m = 90 * b + (90 * (k - b) + m) by omega, show 90 * (a + (k - b)) + m = 90 * a + (90 * (k - b) + m) by omega]
      exact he _ (by omega)
    · refine ⟨k, hk, fun m hm => ?_⟩
      rw [show 90 * k + m = 90 * a + (90 * (k - a) + m) by omega]
      exact hf _ (by omega)
  obtain ⟨a1, a2, a3⟩ := h c hc
  have q0 := hq 0 (by omega)
  rw [Nat.add_zero, Nat.add_zero] at q0
  rw [q0, hq 2 (by omega)]
  refine ⟨a1, a2, fun l b2 => ?_⟩
  have hl : l < 12 := by omega
  rw [show 90 * k + 3 + 7 * l + 3 = 90 * k + (3 + 7 * l + 3) by omega, show 90 * k + 3 + 7 * l = 90 * k + (3 + 7 * l) by omega, hq _ (by omega), hq _ (by omega), show 90 * c + (3 + 7 * l + 3) = 90 * c + 3 + 7 * l + 3 by omega, show 90 * c + (3 + 7 * l) = 90 * c + 3 + 7 * l by omega]
  exact a3 l b2

set_option maxRecDepth 100000 in
set_option maxHeartbeats 4000000 in
theorem c_X10_weakestName (l : Launch) (D : va_G) (A : Nat → Prop) (cs : Nat → ClassId) (tt : Nat) (N : Nat) (ad : Nat → Nat) (g : Nat → va_E) (i : Nat) (hN : i + 30 ≤ N) (x : Int) (hx : 0 ≤ x ∧ x ≤ 512) (F r : Nat → Int) {st op ai fa mu tb tp : Nat → Int} (hM : okMr cs ad g i x F r st op ai fa mu tb tp) (n0 : Nat) (hn0 : n0 < 6) : zM l yX10_weakestName cX10_weakestName 4 (some .int) ({ frames := 9, cells := 0, slots := 0, locals := 540 } : Room) D A cs tt N ad g [.ref (ad i), .int (zI ((n0 : Int)))] (rI0 N ad fun q g' => (-2147483648 ≤ q ∧ q ≤ 2147483647) ∧ (∃ F' r' : Nat → Int, okMr cs ad g' i x F' r' st op ai fa mu tb tp ∧ (∀ f, F' f = F f)) ∧ ∀ j, j < i ∨ i + 30 ≤ j → g' j = g j) := by
  obtain ⟨hg, ⟨⟨e13, e14, e25, e27, e29⟩, k15, k16, k17, k18, k19, k20, k23, k21⟩, hRD, hTx, hA, ns, nh, nd, rf, pi, te, ki, li, ok1, ok2, fo, dd, dps, ⟨ha1, ha2, ha3, ha4, ha5, ha6, ha7, ha8, ha9, ha10, ha11, ha12, ha13, ha14, ha15, ha24, ha25, ha26, ha27, ha28, ha29⟩, hEv, hPt, hns, htp⟩ := id hM
  obtain ⟨-, hop, hai, hfa, hT, hT1⟩ := id hEv
  have hay1 : zAt ad (i) (ad i) := rfl
  have hay2 : zAt ad (i + 1) (ad (i + 1)) := rfl
  have hay3 : zAt ad (i + 2) (ad (i + 2)) := rfl
  have hay4 : zAt ad (i + 3) (ad (i + 3)) := rfl
  have hay5 : zAt ad (i + 4) (ad (i + 4)) := rfl
  have hay6 : zAt ad (i + 5) (ad (i + 5)) := rfl
  have hay7 : zAt ad (i + 6) (ad (i + 6)) := rfl
  have hay8 : zAt ad (i + 7) (ad (i + 7)) := rfl
  have hay9 : zAt ad (i + 8) (ad (i + 8)) := rfl
  have hay10 : zAt ad (i + 9) (ad (i + 9)) := rfl
  have hay11 : zAt ad (i + 10) (ad (i + 10)) := rfl
  have hay12 : zAt ad (i + 11) (ad (i + 11)) := rfl
  have hay13 : zAt ad (i + 12) (ad (i + 12)) := rfl
  have hay14 : zAt ad (i + 13) (ad (i + 13)) := rfl
  have hay15 : zAt ad (i + 14) (ad (i + 14)) := rfl
  have hay16 : zAt ad (i + 15) (ad (i + 15)) := rfl
  have hay17 : zAt ad (i + 24) (ad (i + 24)) := rfl
  have hay18 : zAt ad (i + 25) (ad (i + 25)) := rfl
  have hay19 : zAt ad (i + 26) (ad (i + 26)) := rfl
  have hay20 : zAt ad (i + 27) (ad (i + 27)) := rfl
  have hay21 : zAt ad (i + 28) (ad (i + 28)) := rfl
  have hay22 : zAt ad (i + 29) (ad (i + 29)) := rfl
  obtain ⟨⟨hsyy23, htyy23, hnyy23, hpyy23⟩, hlyy23⟩ := okA.at0 hA
  simp only [Nat.zero_add] at hsyy23 hnyy23 hpyy23
  have hmn : ∀ s, s < 4 → 0 ≤ r (6 + 86 * s) ∧ r (6 + 86 * s) ≤ 12 := fun s hs => (hsyy23 s hs).1
  have h5 : 0 ≤ r 5 ∧ r 5 ≤ 6 := hpyy23
  refine z_of (by decide) (Nat.le_of_ble_eq_true rfl) ?_
  intro pZ eZ sZ mZ below meth cZ C hr hlk hnm
  refine z_lv (lv' := [(0, .ref (ad i)), (1, .int (zI ((n0 : Int))))]) [0, 1] rfl ?_
  refine z_aload_n C 0 dX10_weakestName_0 rfl ?_
  refine z_get (v := .ref (ad (i + 12))) C (lt_A0 hN rfl) hay1 hg rfl inA_X10 11 (by decide) q_1470 rfl rfl dX10_weakestName_1 ?_
  refine z_bipush (z := 90) C dX10_weakestName_4 (by decide) ?_
  refine z_iload_n C 1 dX10_weakestName_6 rfl ?_
  refine z_imul C dX10_weakestName_7 ?_
  refine z_iald C (lt_A (c := 12) hN rfl) hay13 ha12 (90 * n0) (by omega) (by omega) (by decide) dX10_weakestName_8 ?_
  have hp0 := hPt n0 (by omega)
  obtain ⟨ny24, hny24⟩ : ∃ n9 : Nat, pi (90 * n0) = (n9 : Int) := ⟨(pi (90 * n0)).toNat, by omega⟩
  rw [hny24]
  refine z_istore_n (lv' := [(2, .int (zI ((ny24 : Int)))), (0, .ref (ad i)), (1, .int (zI ((n0 : Int))))]) C dX10_weakestName_9 rfl (by decide) rfl ?_
  refine z_aload_n C 1 dX10_weakestName_10 rfl ?_
  refine z_cV (As := []) (rest := []) (ci := 12) C (c_X10_tries l D A cs tt N ad _ i hN _ hg _ ha1 (x) hA) (lt_A0 hN rfl) hay1 hg rfl rfl mv_yX10_tries q_1980 hd_yX10_tries (by decide) (Nat.le_of_ble_eq_true rfl) (by decide) dX10_weakestName_11 rfl (kV0 fun gvy25 hvy25 => ?_)
  obtain ⟨⟨rvy25, hdvy25, hAvy25, hWvy25, h0vy25, hyvy25⟩, hfvy25⟩ := hvy25
  obtain ⟨⟨hsyy26, htyy26, hnyy26, hpyy26⟩, hlyy26⟩ := okA.at0 hAvy25
  simp only [Nat.zero_add] at hsyy26 hnyy26 hpyy26
  have hmn : ∀ s, s < 4 → 0 ≤ rvy25 (6 + 86 * s) ∧ rvy25 (6 + 86 * s) ≤ 12 := fun s hs => (hsyy26 s hs).1
  have h5 : 0 ≤ rvy25 5 ∧ rvy25 5 ≤ 6 := hpyy26
  refine z_aload_n C 1 dX10_weakestName_14 rfl ?_
  refine z_sipush (z := 350) C dX10_weakestName_15 (by decide) ?_
  refine z_iload_n C 0 dX10_weakestName_18 rfl ?_
  refine z_aload_n C 1 dX10_weakestName_19 rfl ?_
  refine z_iload_n C 2 dX10_weakestName_20 rfl ?_
  have hgy27 := (hfvy25 (i) (ne_o (i := i) (c := 0) (d := 1) rfl)).trans hg
  have hgy28 := (hfvy25 (i + 12) (ne_o (i := i) (c := 12) (d := 1) rfl)).trans ha12
  have hpkn0 := okPt.at hPt (k := n0) (by omega)
  refine z_cV (As := [.int (zI ((n0 : Int)))]) (rest := [.int (zI ((ny24 : Int))), .int (zI (350)), .ref (ad i)]) (ci := 12) C (c_X10_pitMany l D A cs tt N ad _ i hN _ hgy27 _ hgy28 hPt n0 (by omega)) (lt_A0 hN rfl) hay1 hgy27 rfl rfl mv_yX10_pitMany q_2031 hd_yX10_pitMany (by decide) (Nat.le_of_ble_eq_true rfl) (by decide) dX10_weakestName_21 rfl (kI0 fun vy29 gvy29 hvy29 => ?_)
  obtain ⟨rfl, rfl⟩ := hvy29
  obtain ⟨py30, hpy30⟩ : ∃ p9 : Nat, 350 + 6 + 86 * ny24 = p9 := ⟨_, rfl⟩
  refine z_cV (As := [.int (zI (350)), .int (zI ((ny24 : Int))), .int (zI (pi (90 * n0 + 2)))]) (rest := []) (ci := 12) C (c_X10_setsMany l D A cs tt N ad _ i hN _ hgy27 _ hdvy25 350 ny24 py30 hpy30 (by omega) (by omega) (pi (90 * n0 + 2))) (lt_A0 hN rfl) hay1 hgy27 rfl rfl mv_yX10_setsMany q_1717 hd_yX10_setsMany (by decide) (Nat.le_of_ble_eq_true rfl) (by decide) dX10_weakestName_24 rfl (kV0 fun gvy31 hvy31 => ?_)
  obtain ⟨hcvy31, hfvy31⟩ := hvy31
  obtain ⟨ry32, hvy33⟩ : ∃ rZ9 : Nat → Int, rZ9 = uZ rvy25 (py30) (pi (90 * n0 + 2)) := ⟨_, rfl⟩
  rw [← hvy33] at hcvy31
  refine z_iconst (z := 0) C dX10_weakestName_27 rfl ?_
  refine z_istore_n (lv' := [(3, .int (zI (0))), (2, .int (zI ((ny24 : Int)))), (0, .ref (ad i)), (1, .int (zI ((n0 : Int))))]) C dX10_weakestName_28 rfl (by decide) rfl ?_
  have hwy34 : ry32 (py30) = pi (90 * n0 + 2) := (congrFun hvy33 _).trans (uZ_s _ _ _)
  have hfry35 : ∀ j, j ≠ py30 → ry32 j = rvy25 j := fun j n0 => (congrFun hvy33 _).trans ((uZ_n _ _ n0).trans (rfl))
  have hAx : okA ry32 (x) := okA.tried hAvy25 (fun j a => hfry35 j (by omega))
  have lp : ∀ (n9 : Nat) (kk : Int) (r8 : Nat → Int) (g1 : Nat → va_E), (85 - kk).toNat = n9 → (g1 (i + 1) = iA cs 29200 r8) → (∀ j, j ≠ i + 1 → g1 j = gvy31 j) → (∀ j, j < 350 ∨ 700 ≤ j → r8 j = ry32 j) → (r8 py30 = pi (90 * n0 + 2)) → (∀ k : Nat, (k : Int) < kk → r8 (py30 + 2 + k) = pi (90 * n0 + 3 + k)) → (0 ≤ kk ∧ kk ≤ 84) → zV pZ l eZ ({ frames := 9, cells := 0, slots := 0, locals := 540 } : Room) sZ mZ ([.ref (ad i), .int (zI ((n0 : Int)))] : List Value).toArray below meth cZ (MQ below (zPost D A (rI0 N ad fun q g' => (-2147483648 ≤ q ∧ q ≤ 2147483647) ∧ (∃ F' r' : Nat → Int, okMr cs ad g' i x F' r' st op ai fa mu tb tp ∧ (∀ f, F' f = F f)) ∧ ∀ j, j < i ∨ i + 30 ≤ j → g' j = g j)) ([.ref (ad i), .int (zI ((n0 : Int)))] : List Value).toArray sZ ({ frames := 9, cells := 0, slots := 0, locals := 540 } : Room).cells ({ frames := 9, cells := 0, slots := 0, locals := 540 } : Room).slots A) D A 4 (N) ad g1 (0) (0) 29 [(0, .ref (ad i)), (1, .int (zI ((n0 : Int)))), (2, .int (zI ((ny24 : Int)))), (3, .int (zI (kk)))] [] := by
    intro n9
    induction n9 using Nat.strongRecOn with
    | ind n9 ih =>
      intro kk r8 g1 hm9 f2 f3w fA fp fk hv
      obtain ⟨nk, hnk⟩ : ∃ n9 : Nat, kk = (n9 : Int) := ⟨kk.toNat, by omega⟩
      obtain ⟨nj, hnj⟩ : ∃ n9 : Nat, py30 + 2 + nk = n9 := ⟨_, rfl⟩
      obtain ⟨np, hnp⟩ : ∃ n9 : Nat, 90 * n0 + 3 + nk = n9 := ⟨_, rfl⟩
      have hA8 : okA r8 (x) := okA.tried hAx (fun j a => fA j a)
      have fp0 := fp
      refine z_iload_n C 3 dX10_weakestName_29 rfl ?_
      refine z_bipush (z := 84) C dX10_weakestName_30 (by decide) ?_
      refine z_icmp_ge (tgt := 71) C dX10_weakestName_32 (by decide) (by omega) (by omega) (fun hby36 => ?_) (fun hby36 => ?_)
      · refine z_aload_n C 0 dX10_weakestName_71 rfl ?_
        refine z_sipush (z := 350) C dX10_weakestName_72 (by decide) ?_
        refine z_iload_n C 2 dX10_weakestName_75 rfl ?_
        have hgy37 := (hfvy31 (i) (ne_o (i := i) (c := 0) (d := 1) rfl)).trans hgy27
        have hgy38 := (f3w (i) (ne_o (i := i) (c := 0) (d := 1) rfl)).trans hgy37
        have hgy40 := (hfvy25 (i + 2) (ne_o (i := i) (c := 2) (d := 1) rfl)).trans ha2
        have hgy41 := (hfvy31 (i + 2) (ne_o (i := i) (c := 2) (d := 1) rfl)).trans hgy40
        have hgy42 := (f3w (i + 2) (ne_o (i := i) (c := 2) (d := 1) rfl)).trans hgy41
        have hgy43 := (hfvy25 (i + 7) (ne_o (i := i) (c := 7) (d := 1) rfl)).trans ha7
        have hgy44 := (hfvy31 (i + 7) (ne_o (i := i) (c := 7) (d := 1) rfl)).trans hgy43
        have hgy45 := (f3w (i + 7) (ne_o (i := i) (c := 7) (d := 1) rfl)).trans hgy44
        have hqy46 : qS r8 py30 := qS.ofPit (k := n0) (by omega) hPt fp (fun m hm => fk m (by omega))
        have hmky47 := hqy46.1
        refine z_cV (As := [.int (zI (350)), .int (zI ((ny24 : Int)))]) (rest := []) (ci := 12) C (c_X10_weakest l D A cs tt N ad _ i hN _ hgy38 _ f2 _ hgy42 _ hgy45 350 ny24 py30 hpy30 (by omega) (by omega) hqy46) (lt_A0 hN rfl) hay1 hgy38 rfl rfl mv_yX10_weakest q_1807 hd_yX10_weakest (by decide) (Nat.le_of_ble_eq_true rfl) (by decide) dX10_weakestName_76 rfl (kI0 fun vy39 gvy39 hvy39 => ?_)
        obtain ⟨hvy39, rfl⟩ := hvy39
        refine z_istore_n (lv' := [(3, .int (zI (vy39))), (0, .ref (ad i)), (1, .int (zI ((n0 : Int)))), (2, .int (zI ((ny24 : Int))))]) C dX10_weakestName_79 rfl (by decide) rfl ?_
        refine z_iload_n C 0 dX10_weakestName_80 rfl ?_
        refine z_iconst (z := -1) C dX10_weakestName_81 rfl ?_
        refine z_icmp_ne (tgt := 89) C dX10_weakestName_82 (by decide) (by omega) (by omega) (fun hby48 => ?_) (fun hby48 => ?_)
        · refine z_aload_n C 1 dX10_weakestName_89 rfl ?_
          refine z_iload_n C 2 dX10_weakestName_90 rfl ?_
          refine z_iload_n C 0 dX10_weakestName_91 rfl ?_
          refine z_bipush (z := 6) C dX10_weakestName_92 (by decide) ?_
          have hgy49 := (hfvy31 (i + 12) (ne_o (i := i) (c := 12) (d := 1) rfl)).trans hgy28
          have hgy50 := (f3w (i + 12) (ne_o (i := i) (c := 12) (d := 1) rfl)).trans hgy49
          refine z_cV (As := [.int (zI ((n0 : Int))), .int (zI (vy39)), .int (zI (6))]) (rest := []) (ci := 12) C (c_X10_inPit l D A cs tt N ad _ i hN _ hgy38 _ hgy50 hPt n0 (by omega) (vy39) (by omega) (6) (by omega)) (lt_A0 hN rfl) hay1 hgy38 rfl rfl mv_yX10_inPit q_2043 hd_yX10_inPit (by decide) (Nat.le_of_ble_eq_true rfl) (by decide) dX10_weakestName_94 rfl (kI0 fun vy51 gvy51 hvy51 => ?_)
          obtain ⟨hvy51, rfl⟩ := hvy51
          obtain ⟨xy52, exy53, hxy54⟩ := zI_of (zI (vy51))
          rw [exy53]
          have hMy55 : okMr cs ad g1 i (x) F r8 st op ai fa mu tb tp := okMr.upd hM hgy38 hM.2.1 (fun f _ => rfl) f2 (hA8.mono (by omega)) (fun j a b => by
              exact Or.inl (by rw [f3w _ (by omega)]; rw [hfvy31 _ (by omega)]; rw [hfvy25 _ (by omega)]))
          exact z_iret C hr hlk dX10_weakestName_97 (by decide) (by decide) ⟨xy52, rfl, rfl, rfl, by omega, ⟨_, _, hMy55, fun f  => rfl⟩, fun j j1 => by rw [f3w _ (by omega)]; rw [hfvy31 _ (by omega)]; rw [hfvy25 _ (by omega)]⟩
        · refine z_iconst (z := -1) C dX10_weakestName_85 rfl ?_
          refine z_goto (tgt := 97) C dX10_weakestName_86 (by decide) ?_
          have hMy56 : okMr cs ad g1 i (x) F r8 st op ai fa mu tb tp := okMr.upd hM hgy38 hM.2.1 (fun f _ => rfl) f2 (hA8.mono (by omega)) (fun j a b => by
              exact Or.inl (by rw [f3w _ (by omega)]; rw [hfvy31 _ (by omega)]; rw [hfvy25 _ (by omega)]))
          exact z_iret C hr hlk dX10_weakestName_97 (by decide) (by decide) ⟨-1, rfl, rfl, rfl, by omega, ⟨_, _, hMy56, fun f  => rfl⟩, fun j j1 => by rw [f3w _ (by omega)]; rw [hfvy31 _ (by omega)]; rw [hfvy25 _ (by omega)]⟩
      · refine z_aload_n C 0 dX10_weakestName_35 rfl ?_
        have hgy57 := (hfvy31 (i) (ne_o (i := i) (c := 0) (d := 1) rfl)).trans hgy27
        have hgy58 := (f3w (i) (ne_o (i := i) (c := 0) (d := 1) rfl)).trans hgy57
        refine z_get (v := .ref (ad (i + 1))) C (lt_A0 hN rfl) hay1 hgy58 rfl inA_X10 0 (by decide) q_1459 rfl rfl dX10_weakestName_36 ?_
        refine z_sipush (z := 356) C dX10_weakestName_39 (by decide) ?_
        refine z_bipush (z := 86) C dX10_weakestName_42 (by decide) ?_
        refine z_iload_n C 2 dX10_weakestName_44 rfl ?_
        refine z_imul C dX10_weakestName_45 ?_
        refine z_iadd C dX10_weakestName_46 ?_
        refine z_iconst (z := 2) C dX10_weakestName_47 rfl ?_
        refine z_iadd C dX10_weakestName_48 ?_
        refine z_iload_n C 3 dX10_weakestName_49 rfl ?_
        refine z_iadd C dX10_weakestName_50 ?_
        refine z_aload_n C 0 dX10_weakestName_51 rfl ?_
        refine z_get (v := .ref (ad (i + 12))) C (lt_A0 hN rfl) hay1 hgy58 rfl inA_X10 11 (by decide) q_1470 rfl rfl dX10_weakestName_52 ?_
        refine z_bipush (z := 90) C dX10_weakestName_55 (by decide) ?_
        refine z_iload_n C 1 dX10_weakestName_57 rfl ?_
        refine z_imul C dX10_weakestName_58 ?_
        refine z_iconst (z := 3) C dX10_weakestName_59 rfl ?_
        refine z_iadd C dX10_weakestName_60 ?_
        refine z_iload_n C 3 dX10_weakestName_61 rfl ?_
        refine z_iadd C dX10_weakestName_62 ?_
        have hgy59 := (hfvy31 (i + 12) (ne_o (i := i) (c := 12) (d := 1) rfl)).trans hgy28
        have hgy60 := (f3w (i + 12) (ne_o (i := i) (c := 12) (d := 1) rfl)).trans hgy59
        refine z_iald C (lt_A (c := 12) hN rfl) hay13 hgy60 (np) (by omega) (by omega) (by decide) dX10_weakestName_63 ?_
        refine z_iast C (lt_A (c := 1) hN rfl) hay2 f2 (nj) (by omega) (by omega) (by decide) dX10_weakestName_64 (fun gy61 egy62 => ?_)
        have hgy63 := up_s egy62
        obtain ⟨ry64, hvy65⟩ : ∃ rZ9 : Nat → Int, rZ9 = uZ r8 (nj) (pi (np)) := ⟨_, rfl⟩
        rw [← hvy65] at hgy63
        refine z_iinc (z := kk + 1) (lv' := [(3, .int (zI (kk + 1))), (0, .ref (ad i)), (1, .int (zI ((n0 : Int)))), (2, .int (zI ((ny24 : Int))))]) (j := 3) C dX10_weakestName_65 rfl rfl (by decide) rfl ?_
        refine z_goto (tgt := 29) C dX10_weakestName_68 (by decide) ?_
        have hfry66 : ∀ j, j ≠ nj → ry64 j = r8 j := fun j n0 => (congrFun hvy65 _).trans ((uZ_n _ _ n0).trans (rfl))
        have hwy67 : ry64 (nj) = pi (np) := (congrFun hvy65 _).trans (uZ_s _ _ _)
        refine z_lv (lv' := [(0, .ref (ad i)), (1, .int (zI ((n0 : Int)))), (2, .int (zI ((ny24 : Int)))), (3, .int (zI (kk + 1)))]) [1, 2, 3, 0] rfl ?_
        exact ih _ (by omega) (kk + 1) ry64 gy61 rfl hgy63 (fun j j1 => by rw [egy62, va_up_ne _ _ (by omega)]; exact f3w j j1) (fun j a => (hfry66 j (by omega)).trans (fA j a)) ((hfry66 py30 (by omega)).trans fp) (fun k a => by
            by_cases e : k = nk
            · subst e; rw [show py30 + 2 + k = nj by omega, show 90 * n0 + 3 + k = np by omega]; omega
            · rw [hfry66 (py30 + 2 + k) (by omega)]; exact fk k (by omega)) (by omega)
  refine z_lv (lv' := [(0, .ref (ad i)), (1, .int (zI ((n0 : Int)))), (2, .int (zI ((ny24 : Int)))), (3, .int (zI (0)))]) [2, 3, 1, 0] rfl ?_
  exact lp _ 0 ry32 gvy31 rfl hcvy31 (fun j _ => rfl) (fun j _ => rfl) (by omega) (fun k a => absurd a (by omega)) (by omega)

set_option maxRecDepth 100000 in
set_option maxHeartbeats 4000000 in
theorem c_X10_compare_aa (l : Launch) (D : va_G) (A : Nat → Prop) (cs : Nat → ClassId) (tt : Nat) (N : Nat) (ad : Nat → Nat) (g : Nat → va_E) (i : Nat) (hN : i + 30 ≤ N) (x : Int) (hx : 0 ≤ x ∧ x ≤ 512) (F r : Nat → Int) {st op ai fa mu tb tp : Nat → Int} (hM : okMr cs ad g i x F r st op ai fa mu tb tp) (n0 : Nat) (hn0 : n0 < 6) (n1 : Nat) (hn1 : n1 < 6) (z2 : Int) (hz2 : -2147483648 ≤ z2 ∧ z2 ≤ 2147483647) : zM l yX10_compare cX10_compare 4 (some .int) ({ frames := 10, cells := 0, slots := 0, locals := 600 } : Room) D A cs tt N ad g [.ref (ad i), .int (zI ((n0 : Int))), .int (zI ((n1 : Int))), .int (zI (z2))] (rI0 N ad fun q g' => (-2147483648 ≤ q ∧ q ≤ 2147483647) ∧ (∃ F' r' : Nat → Int, okMr cs ad g' i (x + 1) F' r' st op ai fa mu tb tp ∧ (F' 13 = F 13 ∧ F' 14 = F 14 ∧ F' 17 = F 17 ∧ F' 20 = F 20 ∧ F' 21 = F 21 ∧ F' 23 = F 23 ∧ F' 24 = F 24)) ∧ ∀ j, j < i ∨ i + 30 ≤ j → g' j = g j) := by
  obtain ⟨hg, ⟨⟨e13, e14, e25, e27, e29⟩, k15, k16, k17, k18, k19, k20, k23, k21⟩, hRD, hTx, hA, ns, nh, nd, rf, pi, te, ki, li, ok1, ok2, fo, dd, dps, ⟨ha1, ha2, ha3, ha4, ha5, ha6, ha7, ha8, ha9, ha10, ha11, ha12, ha13, ha14, ha15, ha24, ha25, ha26, ha27, ha28, ha29⟩, hEv, hPt, hns, htp⟩ := id hM
  obtain ⟨-, hop, hai, hfa, hT, hT1⟩ := id hEv
  have hay1 : zAt ad (i) (ad i) := rfl
  have hay2 : zAt ad (i + 1) (ad (i + 1)) := rfl
  have hay3 : zAt ad (i + 2) (ad (i + 2)) := rfl
  have hay4 : zAt ad (i + 3) (ad (i + 3)) := rfl
  have hay5 : zAt ad (i + 4) (ad (i + 4)) := rfl
  have hay6 : zAt ad (i + 5) (ad (i + 5)) := rfl
  have hay7 : zAt ad (i + 6) (ad (i + 6)) := rfl
  have hay8 : zAt ad (i + 7) (ad (i + 7)) := rfl
  have hay9 : zAt ad (i + 8) (ad (i + 8)) := rfl
  have hay10 : zAt ad (i + 9) (ad (i + 9)) := rfl
  have hay11 : zAt ad (i + 10) (ad (i + 10)) := rfl
  have hay12 : zAt ad (i + 11) (ad (i + 11)) := rfl
  have hay13 : zAt ad (i + 12) (ad (i + 12)) := rfl
  have hay14 : zAt ad (i + 13) (ad (i + 13)) := rfl
  have hay15 : zAt ad (i + 14) (ad (i + 14)) := rfl
  have hay16 : zAt ad (i + 15) (ad (i + 15)) := rfl
  have hay17 : zAt ad (i + 24) (ad (i + 24)) := rfl
  have hay18 : zAt ad (i + 25) (ad (i + 25)) := rfl
  have hay19 : zAt ad (i + 26) (ad (i + 26)) := rfl
  have hay20 : zAt ad (i + 27) (ad (i + 27)) := rfl
  have hay21 : zAt ad (i + 28) (ad (i + 28)) := rfl
  have hay22 : zAt ad (i + 29) (ad (i + 29)) := rfl
  obtain ⟨⟨hsyy23, htyy23, hnyy23, hpyy23⟩, hlyy23⟩ := okA.at0 hA
  simp only [Nat.zero_add] at hsyy23 hnyy23 hpyy23
  have hmn : ∀ s, s < 4 → 0 ≤ r (6 + 86 * s) ∧ r (6 + 86 * s) ≤ 12 := fun s hs => (hsyy23 s hs).1
  have h5 : 0 ≤ r 5 ∧ r 5 ≤ 6 := hpyy23
  refine z_of (by decide) (Nat.le_of_ble_eq_true rfl) ?_
  intro pZ eZ sZ mZ below meth cZ C hr hlk hnm
  refine z_lv (lv' := [(0, .ref (ad i)), (1, .int (zI ((n0 : Int)))), (2, .int (zI ((n1 : Int)))), (3, .int (zI (z2)))]) [0, 1, 2, 3] rfl ?_
  refine z_aload_n C 0 dX10_compare_0 rfl ?_
  refine z_iconst (z := 0) C dX10_compare_1 rfl ?_
  refine z_put (fs' := mF ad (i) (uZ F 12 (0))) C (lt_A0 hN rfl) hay1 hg tyX10 tyX10_ok nmX10 rfl inA_X10 12 (by decide) q_1471 rfl rfl rfl rfl (Nat.le_of_ble_eq_true rfl) rfl dX10_compare_2 (fun gy24 egy25 => ?_)
  have hgy26 := up_s egy25
  refine z_aload_n C 0 dX10_compare_5 rfl ?_
  refine z_iload_n C 1 dX10_compare_6 rfl ?_
  have hgy27 := up_n egy25 ha1 (ne_o (i := i) (c := 1) (d := 0) rfl)
  have hey29 : (uZ F 12 (0)) 12 = 0 := (uZ_s _ _ _)
  refine z_cV (As := [.int (zI ((n0 : Int)))]) (rest := []) (ci := 12) C (c_X10_isPit l D A cs tt N ad _ i hN _ hgy26 _ hgy27 (by omega) h5 ((n0 : Int)) (by omega)) (lt_A0 hN rfl) hay1 hgy26 rfl rfl mv_yX10_isPit q_2027 hd_yX10_isPit (by decide) (Nat.le_of_ble_eq_true rfl) (by decide) dX10_compare_7 rfl (kI0 fun vy28 gvy28 hvy28 => ?_)
  obtain ⟨hrvy28, ⟨Fvy28, hcvy28, htvy28, hFvy28⟩, hfvy28⟩ := hvy28
  rcases (show vy28 = 1 ∨ vy28 = 0 by omega) with rfl | rfl
  · have hxvy28 := hrvy28.2 rfl
    refine z_if_eq (tgt := 35) C dX10_compare_10 (by decide) (by omega) (fun h => absurd h (by omega)) (fun _ => ?_)
    refine z_aload_n C 0 dX10_compare_13 rfl ?_
    refine z_iload_n C 2 dX10_compare_14 rfl ?_
    have hgy30 := (hfvy28 (i + 1) (ne_o (i := i) (c := 1) (d := 0) rfl)).trans hgy27
    have hey32 : Fvy28 12 = Fvy28 12 := rfl
    refine z_cV (As := [.int (zI ((n1 : Int)))]) (rest := []) (ci := 12) C (c_X10_isPit l D A cs tt N ad _ i hN _ hcvy28 _ hgy30 (by omega) h5 ((n1 : Int)) (by omega)) (lt_A0 hN rfl) hay1 hcvy28 rfl rfl mv_yX10_isPit q_2027 hd_yX10_isPit (by decide) (Nat.le_of_ble_eq_true rfl) (by decide) dX10_compare_15 rfl (kI0 fun vy31 gvy31 hvy31 => ?_)
    obtain ⟨hrvy31, ⟨Fvy31, hcvy31, htvy31, hFvy31⟩, hfvy31⟩ := hvy31
    rcases (show vy31 = 1 ∨ vy31 = 0 by omega) with rfl | rfl
    · have hxvy31 := hrvy31.2 rfl
      refine z_if_eq (tgt := 35) C dX10_compare_18 (by decide) (by omega) (fun h => absurd h (by omega)) (fun _ => ?_)
      refine z_aload_n C 0 dX10_compare_21 rfl ?_
      refine z_iload_n C 3 dX10_compare_22 rfl ?_
      refine z_iconst (z := 0) C dX10_compare_23 rfl ?_
      refine z_iconst (z := 3) C dX10_compare_24 rfl ?_
      refine z_cS (As := [.int (zI (z2)), .int (zI (0)), .int (zI (3))]) (rest := [.ref (ad i)]) C (c_X10_within l D A cs tt N ad _ (z2) (by omega) (0) (by omega) (3) (by omega)) ms_yX10_within q_1686 hd_yX10_within (by decide) (Nat.le_of_ble_eq_true rfl) (by decide) dX10_compare_25 rfl (kI0 fun vy33 gvy33 hvy33 => ?_)
      obtain ⟨hvy33, rfl⟩ := hvy33
      rcases hvy33 with ⟨rfl, hxvy33⟩ | ⟨rfl, hxvy33⟩
      · refine z_iconst (z := 1) C dX10_compare_28 rfl ?_
        have hey35 : Fvy31 12 = Fvy31 12 := rfl
        refine z_cV (As := [.int (zI (1)), .int (zI (1))]) (rest := []) (ci := 12) C (c_X10_right l D A cs tt N ad _ i hN _ hcvy31 (by omega) (1) (by omega) (1) (by omega)) (lt_A0 hN rfl) hay1 hcvy31 rfl rfl mv_yX10_right q_1648 hd_yX10_right (by decide) (Nat.le_of_ble_eq_true rfl) (by decide) dX10_compare_29 rfl (kI0 fun vy34 gvy34 hvy34 => ?_)
        obtain ⟨hrvy34, ⟨Fvy34, hcvy34, htvy34, hFvy34⟩, hfvy34⟩ := hvy34
        rcases (show vy34 = 1 ∨ vy34 = 0 by omega) with rfl | rfl
        · refine z_if_ne (tgt := 37) C dX10_compare_32 (by decide) (by omega) (fun _ => ?_) (fun h => absurd h (by omega))
          refine z_iload_n C 3 dX10_compare_37 rfl ?_
          refine z_if_ne (tgt := 48) C dX10_compare_38 (by decide) (by omega) (fun hby36 => ?_) (fun hby36 => ?_)
          · refine z_iload_n C 3 dX10_compare_48 rfl ?_
            refine z_iconst (z := 3) C dX10_compare_49 rfl ?_
            refine z_icmp_ne (tgt := 81) C dX10_compare_50 (by decide) (by omega) (by omega) (fun hby37 => ?_) (fun hby37 => ?_)
            · refine z_aload_n C 0 dX10_compare_81 rfl ?_
              refine z_aload_n C 0 dX10_compare_82 rfl ?_
              refine z_iload_n C 1 dX10_compare_83 rfl ?_
              have hgy38 := up_n egy25 ha12 (ne_o (i := i) (c := 12) (d := 0) rfl)
              have hgy39 := (hfvy28 (i + 12) (ne_o (i := i) (c := 12) (d := 0) rfl)).trans hgy38
              have hgy40 := (hfvy31 (i + 12) (ne_o (i := i) (c := 12) (d := 0) rfl)).trans hgy39
              have hgy41 := (hfvy34 (i + 12) (ne_o (i := i) (c := 12) (d := 0) rfl)).trans hgy40
              have hpkn0 := okPt.at hPt (k := n0) (by omega)
              refine z_cV (As := [.int (zI ((n0 : Int)))]) (rest := [.ref (ad i)]) (ci := 12) C (c_X10_pitMany l D A cs tt N ad _ i hN _ hcvy34 _ hgy41 hPt n0 (by omega)) (lt_A0 hN rfl) hay1 hcvy34 rfl rfl mv_yX10_pitMany q_2031 hd_yX10_pitMany (by decide) (Nat.le_of_ble_eq_true rfl) (by decide) dX10_compare_84 rfl (kI0 fun vy42 gvy42 hvy42 => ?_)
              obtain ⟨rfl, rfl⟩ := hvy42
              refine z_put (fs' := mF ad (i) (uZ Fvy34 55 (pi (90 * n0 + 2)))) C (lt_A0 hN rfl) hay1 hcvy34 tyX10 tyX10_ok nmX10 rfl inA_X10 55 (by decide) q_1514 rfl rfl rfl rfl (Nat.le_of_ble_eq_true rfl) rfl dX10_compare_87 (fun gy43 egy44 => ?_)
              have hgy45 := up_s egy44
              refine z_aload_n C 0 dX10_compare_90 rfl ?_
              refine z_aload_n C 0 dX10_compare_91 rfl ?_
              refine z_iload_n C 2 dX10_compare_92 rfl ?_
              have hgy46 := up_n egy44 hgy41 (ne_o (i := i) (c := 12) (d := 0) rfl)
              have hpkn1 := okPt.at hPt (k := n1) (by omega)
              refine z_cV (As := [.int (zI ((n1 : Int)))]) (rest := [.ref (ad i)]) (ci := 12) C (c_X10_pitMany l D A cs tt N ad _ i hN _ hgy45 _ hgy46 hPt n1 (by omega)) (lt_A0 hN rfl) hay1 hgy45 rfl rfl mv_yX10_pitMany q_2031 hd_yX10_pitMany (by decide) (Nat.le_of_ble_eq_true rfl) (by decide) dX10_compare_93 rfl (kI0 fun vy47 gvy47 hvy47 => ?_)
              obtain ⟨rfl, rfl⟩ := hvy47
              refine z_put (fs' := mF ad (i) (uZ (uZ Fvy34 55 (pi (90 * n0 + 2))) 56 (pi (90 * n1 + 2)))) C (lt_A0 hN rfl) hay1 hgy45 tyX10 tyX10_ok nmX10 rfl inA_X10 56 (by decide) q_1515 rfl rfl rfl rfl (Nat.le_of_ble_eq_true rfl) rfl dX10_compare_96 (fun gy48 egy49 => ?_)
              have hgy50 := up_s egy49
              refine z_aload_n C 0 dX10_compare_99 rfl ?_
              refine z_iload_n C 1 dX10_compare_100 rfl ?_
              refine z_aload_n C 0 dX10_compare_101 rfl ?_
              refine z_get (v := .ref (ad (i + 25))) C (lt_A0 hN rfl) hay1 hgy50 rfl inA_X10 52 (by decide) q_1511 rfl rfl dX10_compare_102 ?_
              have hgy51 := up_n egy49 hgy46 (ne_o (i := i) (c := 12) (d := 0) rfl)
              have hgy52 := up_n egy25 ha25 (ne_o (i := i) (c := 25) (d := 0) rfl)
              have hgy53 := (hfvy28 (i + 25) (ne_o (i := i) (c := 25) (d := 0) rfl)).trans hgy52
              have hgy54 := (hfvy31 (i + 25) (ne_o (i := i) (c := 25) (d := 0) rfl)).trans hgy53
              have hgy55 := (hfvy34 (i + 25) (ne_o (i := i) (c := 25) (d := 0) rfl)).trans hgy54
              have hgy56 := up_n egy44 hgy55 (ne_o (i := i) (c := 25) (d := 0) rfl)
              have hgy57 := up_n egy49 hgy56 (ne_o (i := i) (c := 25) (d := 0) rfl)
              refine z_cV (As := [.int (zI ((n0 : Int))), .ref (ad (i + 25))]) (rest := []) (ci := 12) C (c_X10_laysPit25 l D A cs tt N ad _ i hN _ hgy50 _ hgy51 hPt _ hgy57 n0 (by omega)) (lt_A0 hN rfl) hay1 hgy50 rfl rfl mv_yX10_laysPit q_2051 hd_yX10_laysPit (by decide) (Nat.le_of_ble_eq_true rfl) (by decide) dX10_compare_105 rfl (kV0 fun gvy58 hvy58 => ?_)
              obtain ⟨⟨tvy58, hdvy58⟩, hfvy58⟩ := hvy58
              refine z_aload_n C 0 dX10_compare_108 rfl ?_
              refine z_iload_n C 2 dX10_compare_109 rfl ?_
              refine z_aload_n C 0 dX10_compare_110 rfl ?_
              have hgy59 := (hfvy58 (i) (ne_o (i := i) (c := 0) (d := 25) rfl)).trans hgy50
              refine z_get (v := .ref (ad (i + 26))) C (lt_A0 hN rfl) hay1 hgy59 rfl inA_X10 53 (by decide) q_1512 rfl rfl dX10_compare_111 ?_
              have hgy60 := (hfvy58 (i + 12) (ne_o (i := i) (c := 12) (d := 25) rfl)).trans hgy51
              have hgy61 := up_n egy25 ha26 (ne_o (i := i) (c := 26) (d := 0) rfl)
              have hgy62 := (hfvy28 (i + 26) (ne_o (i := i) (c := 26) (d := 0) rfl)).trans hgy61
              have hgy63 := (hfvy31 (i + 26) (ne_o (i := i) (c := 26) (d := 0) rfl)).trans hgy62
              have hgy64 := (hfvy34 (i + 26) (ne_o (i := i) (c := 26) (d := 0) rfl)).trans hgy63
              have hgy65 := up_n egy44 hgy64 (ne_o (i := i) (c := 26) (d := 0) rfl)
              have hgy66 := up_n egy49 hgy65 (ne_o (i := i) (c := 26) (d := 0) rfl)
              have hgy67 := (hfvy58 (i + 26) (ne_o (i := i) (c := 26) (d := 25) rfl)).trans hgy66
              refine z_cV (As := [.int (zI ((n1 : Int))), .ref (ad (i + 26))]) (rest := []) (ci := 12) C (c_X10_laysPit26 l D A cs tt N ad _ i hN _ hgy59 _ hgy60 hPt _ hgy67 n1 (by omega)) (lt_A0 hN rfl) hay1 hgy59 rfl rfl mv_yX10_laysPit q_2051 hd_yX10_laysPit (by decide) (Nat.le_of_ble_eq_true rfl) (by decide) dX10_compare_114 rfl (kV0 fun gvy68 hvy68 => ?_)
              obtain ⟨⟨tvy68, hdvy68⟩, hfvy68⟩ := hvy68
              refine z_aload_n C 0 dX10_compare_117 rfl ?_
              refine z_iload_n C 3 dX10_compare_118 rfl ?_
              refine z_iconst (z := 1) C dX10_compare_119 rfl ?_
              refine z_icmp_ne (tgt := 127) C dX10_compare_120 (by decide) (by omega) (by omega) (fun hby69 => ?_) (fun hby69 => ?_)
              · refine z_iconst (z := 0) C dX10_compare_127 rfl ?_
                have hgy70 := (hfvy68 (i) (ne_o (i := i) (c := 0) (d := 26) rfl)).trans hgy59
                have hey72 : (uZ (uZ Fvy34 55 (pi (90 * n0 + 2))) 56 (pi (90 * n1 + 2))) 55 = pi (90 * n0 + 2) := (fn (uZ_s _ _ _) (by decide))
                have hey73 : (uZ (uZ Fvy34 55 (pi (90 * n0 + 2))) 56 (pi (90 * n1 + 2))) 56 = pi (90 * n1 + 2) := (uZ_s _ _ _)
                have hgy74 := (hfvy68 (i + 25) (ne_o (i := i) (c := 25) (d := 26) rfl)).trans hdvy58
                have hgy75 := up_n egy25 ha27 (ne_o (i := i) (c := 27) (d := 0) rfl)
                have hgy76 := (hfvy28 (i + 27) (ne_o (i := i) (c := 27) (d := 0) rfl)).trans hgy75
                have hgy77 := (hfvy31 (i + 27) (ne_o (i := i) (c := 27) (d := 0) rfl)).trans hgy76
                have hgy78 := (hfvy34 (i + 27) (ne_o (i := i) (c := 27) (d := 0) rfl)).trans hgy77
                have hgy79 := up_n egy44 hgy78 (ne_o (i := i) (c := 27) (d := 0) rfl)
                have hgy80 := up_n egy49 hgy79 (ne_o (i := i) (c := 27) (d := 0) rfl)
                have hgy81 := (hfvy58 (i + 27) (ne_o (i := i) (c := 27) (d := 25) rfl)).trans hgy80
                have hgy82 := (hfvy68 (i + 27) (ne_o (i := i) (c := 27) (d := 26) rfl)).trans hgy81
                refine z_cV (As := [.int (zI (0))]) (rest := []) (ci := 12) C (c_X10_folds l D A cs tt N ad _ i hN _ hgy70 _ hgy74 _ hdvy68 _ hgy82 (by omega) (by omega) (0) (by omega)) (lt_A0 hN rfl) hay1 hgy70 rfl rfl mv_yX10_folds q_2055 hd_yX10_folds (by decide) (Nat.le_of_ble_eq_true rfl) (by decide) dX10_compare_128 rfl (kI0 fun vy71 gvy71 hvy71 => ?_)
                obtain ⟨hrvy71, ⟨tvy71, hdvy71⟩, hfvy71⟩ := hvy71
                have hgy83 := (hfvy71 (i) (ne_o (i := i) (c := 0) (d := 27) rfl)).trans hgy70
                have hgy84 := (hfvy31 (i + 1) (ne_o (i := i) (c := 1) (d := 0) rfl)).trans hgy30
                have hgy85 := (hfvy34 (i + 1) (ne_o (i := i) (c := 1) (d := 0) rfl)).trans hgy84
                have hgy86 := up_n egy44 hgy85 (ne_o (i := i) (c := 1) (d := 0) rfl)
                have hgy87 := up_n egy49 hgy86 (ne_o (i := i) (c := 1) (d := 0) rfl)
                have hgy88 := (hfvy58 (i + 1) (ne_o (i := i) (c := 1) (d := 25) rfl)).trans hgy87
                have hgy89 := (hfvy68 (i + 1) (ne_o (i := i) (c := 1) (d := 26) rfl)).trans hgy88
                have hgy90 := (hfvy71 (i + 1) (ne_o (i := i) (c := 1) (d := 27) rfl)).trans hgy89
                have hFy91 : ∀ f, f ≠ 12 → f ≠ 55 → f ≠ 56 → (uZ (uZ Fvy34 55 (pi (90 * n0 + 2))) 56 (pi (90 * n1 + 2))) f = F f := fun f n12 n55 n56 => ((uZ_n _ _ n56).trans ((uZ_n _ _ n55).trans ((hFvy34 f n12).trans ((hFvy31 f n12).trans ((hFvy28 f n12).trans ((uZ_n _ _ n12).trans rfl))))))
                have hey92 : (uZ (uZ Fvy34 55 (pi (90 * n0 + 2))) 56 (pi (90 * n1 + 2))) 13 = F 13 := (fn (fn ((hFvy34 13 (by decide)).trans ((hFvy31 13 (by decide)).trans ((hFvy28 13 (by decide)).trans (fn rfl (by decide))))) (by decide)) (by decide))
                have hey93 : (uZ (uZ Fvy34 55 (pi (90 * n0 + 2))) 56 (pi (90 * n1 + 2))) 14 = F 14 := (fn (fn ((hFvy34 14 (by decide)).trans ((hFvy31 14 (by decide)).trans ((hFvy28 14 (by decide)).trans (fn rfl (by decide))))) (by decide)) (by decide))
                have hey94 : (uZ (uZ Fvy34 55 (pi (90 * n0 + 2))) 56 (pi (90 * n1 + 2))) 15 = F 15 := (fn (fn ((hFvy34 15 (by decide)).trans ((hFvy31 15 (by decide)).trans ((hFvy28 15 (by decide)).trans (fn rfl (by decide))))) (by decide)) (by decide))
                have hey95 : (uZ (uZ Fvy34 55 (pi (90 * n0 + 2))) 56 (pi (90 * n1 + 2))) 16 = F 16 := (fn (fn ((hFvy34 16 (by decide)).trans ((hFvy31 16 (by decide)).trans ((hFvy28 16 (by decide)).trans (fn rfl (by decide))))) (by decide)) (by decide))
                have hey96 : (uZ (uZ Fvy34 55 (pi (90 * n0 + 2))) 56 (pi (90 * n1 + 2))) 17 = F 17 := (fn (fn ((hFvy34 17 (by decide)).trans ((hFvy31 17 (by decide)).trans ((hFvy28 17 (by decide)).trans (fn rfl (by decide))))) (by decide)) (by decide))
                have hey97 : (uZ (uZ Fvy34 55 (pi (90 * n0 + 2))) 56 (pi (90 * n1 + 2))) 18 = F 18 := (fn (fn ((hFvy34 18 (by decide)).trans ((hFvy31 18 (by decide)).trans ((hFvy28 18 (by decide)).trans (fn rfl (by decide))))) (by decide)) (by decide))
                have hey98 : (uZ (uZ Fvy34 55 (pi (90 * n0 + 2))) 56 (pi (90 * n1 + 2))) 19 = F 19 := (fn (fn ((hFvy34 19 (by decide)).trans ((hFvy31 19 (by decide)).trans ((hFvy28 19 (by decide)).trans (fn rfl (by decide))))) (by decide)) (by decide))
                have hey99 : (uZ (uZ Fvy34 55 (pi (90 * n0 + 2))) 56 (pi (90 * n1 + 2))) 20 = F 20 := (fn (fn ((hFvy34 20 (by decide)).trans ((hFvy31 20 (by decide)).trans ((hFvy28 20 (by decide)).trans (fn rfl (by decide))))) (by decide)) (by decide))
                have hey100 : (uZ (uZ Fvy34 55 (pi (90 * n0 + 2))) 56 (pi (90 * n1 + 2))) 21 = F 21 := (fn (fn ((hFvy34 21 (by decide)).trans ((hFvy31 21 (by decide)).trans ((hFvy28 21 (by decide)).trans (fn rfl (by decide))))) (by decide)) (by decide))
                have hey101 : (uZ (uZ Fvy34 55 (pi (90 * n0 + 2))) 56 (pi (90 * n1 + 2))) 23 = F 23 := (fn (fn ((hFvy34 23 (by decide)).trans ((hFvy31 23 (by decide)).trans ((hFvy28 23 (by decide)).trans (fn rfl (by decide))))) (by decide)) (by decide))
                have hey102 : (uZ (uZ Fvy34 55 (pi (90 * n0 + 2))) 56 (pi (90 * n1 + 2))) 25 = F 25 := (fn (fn ((hFvy34 25 (by decide)).trans ((hFvy31 25 (by decide)).trans ((hFvy28 25 (by decide)).trans (fn rfl (by decide))))) (by decide)) (by decide))
                have hey103 : (uZ (uZ Fvy34 55 (pi (90 * n0 + 2))) 56 (pi (90 * n1 + 2))) 27 = F 27 := (fn (fn ((hFvy34 27 (by decide)).trans ((hFvy31 27 (by decide)).trans ((hFvy28 27 (by decide)).trans (fn rfl (by decide))))) (by decide)) (by decide))
                have hey104 : (uZ (uZ Fvy34 55 (pi (90 * n0 + 2))) 56 (pi (90 * n1 + 2))) 28 = F 28 := (fn (fn ((hFvy34 28 (by decide)).trans ((hFvy31 28 (by decide)).trans ((hFvy28 28 (by decide)).trans (fn rfl (by decide))))) (by decide)) (by decide))
                have hey105 : (uZ (uZ Fvy34 55 (pi (90 * n0 + 2))) 56 (pi (90 * n1 + 2))) 29 = F 29 := (fn (fn ((hFvy34 29 (by decide)).trans ((hFvy31 29 (by decide)).trans ((hFvy28 29 (by decide)).trans (fn rfl (by decide))))) (by decide)) (by decide))
                have hKy106 : okF (uZ (uZ Fvy34 55 (pi (90 * n0 + 2))) 56 (pi (90 * n1 + 2))) := okF.mv hM.2.1 hey92 hey93 hey94 hey95 hey96 hey97 hey98 hey99 hey100 hey101 hey102 hey103 hey104 hey105
                have hgy108 := (hfvy71 (i + 25) (ne_o (i := i) (c := 25) (d := 27) rfl)).trans hgy74
                have hgy109 := (hfvy71 (i + 26) (ne_o (i := i) (c := 26) (d := 27) rfl)).trans hdvy68
                have hMy107 : okMr cs ad gvy71 i (x + 1) (uZ (uZ Fvy34 55 (pi (90 * n0 + 2))) 56 (pi (90 * n1 + 2))) r st op ai fa mu tb tp := okMr.upd hM hgy83 hKy106 (fun f a => hFy91 f (by omega) (by omega) (by omega)) hgy90 (hA.mono (by omega)) (fun j a b => by
                    by_cases e0 : j = i + 25
                    · exact Or.inr ⟨25, _, e0, lsP.l (by decide), by rw [e0]; exact hgy108⟩
                    by_cases e1 : j = i + 26
                    · exact Or.inr ⟨26, _, e1, lsP.l (by decide), by rw [e1]; exact hgy109⟩
                    by_cases e2 : j = i + 27
                    · exact Or.inr ⟨27, _, e2, lsP.l (by decide), by rw [e2]; exact hdvy71⟩
                    exact Or.inl (by rw [hfvy71 _ (by omega)]; rw [hfvy68 _ (by omega)]; rw [hfvy58 _ (by omega)]; rw [egy49, va_up_ne _ _ (by omega)]; rw [egy44, va_up_ne _ _ (by omega)]; rw [hfvy34 _ (by omega)]; rw [hfvy31 _ (by omega)]; rw [hfvy28 _ (by omega)]; rw [egy25, va_up_ne _ _ (by omega)]))
                have hkpy110 : (uZ (uZ Fvy34 55 (pi (90 * n0 + 2))) 56 (pi (90 * n1 + 2))) 13 = F 13 := (fn (fn ((hFvy34 13 (by decide)).trans ((hFvy31 13 (by decide)).trans ((hFvy28 13 (by decide)).trans (fn rfl (by decide))))) (by decide)) (by decide))
                have hkpy111 : (uZ (uZ Fvy34 55 (pi (90 * n0 + 2))) 56 (pi (90 * n1 + 2))) 14 = F 14 := (fn (fn ((hFvy34 14 (by decide)).trans ((hFvy31 14 (by decide)).trans ((hFvy28 14 (by decide)).trans (fn rfl (by decide))))) (by decide)) (by decide))
                have hkpy112 : (uZ (uZ Fvy34 55 (pi (90 * n0 + 2))) 56 (pi (90 * n1 + 2))) 17 = F 17 := (fn (fn ((hFvy34 17 (by decide)).trans ((hFvy31 17 (by decide)).trans ((hFvy28 17 (by decide)).trans (fn rfl (by decide))))) (by decide)) (by decide))
                have hkpy113 : (uZ (uZ Fvy34 55 (pi (90 * n0 + 2))) 56 (pi (90 * n1 + 2))) 20 = F 20 := (fn (fn ((hFvy34 20 (by decide)).trans ((hFvy31 20 (by decide)).trans ((hFvy28 20 (by decide)).trans (fn rfl (by decide))))) (by decide)) (by decide))
                have hkpy114 : (uZ (uZ Fvy34 55 (pi (90 * n0 + 2))) 56 (pi (90 * n1 + 2))) 21 = F 21 := (fn (fn ((hFvy34 21 (by decide)).trans ((hFvy31 21 (by decide)).trans ((hFvy28 21 (by decide)).trans (fn rfl (by decide))))) (by decide)) (by decide))
                have hkpy115 : (uZ (uZ Fvy34 55 (pi (90 * n0 + 2))) 56 (pi (90 * n1 + 2))) 23 = F 23 := (fn (fn ((hFvy34 23 (by decide)).trans ((hFvy31 23 (by decide)).trans ((hFvy28 23 (by decide)).trans (fn rfl (by decide))))) (by decide)) (by decide))
                have hkpy116 : (uZ (uZ Fvy34 55 (pi (90 * n0 + 2))) 56 (pi (90 * n1 + 2))) 24 = F 24 := (fn (fn ((hFvy34 24 (by decide)).trans ((hFvy31 24 (by decide)).trans ((hFvy28 24 (by decide)).trans (fn rfl (by decide))))) (by decide)) (by decide))
                exact z_iret C hr hlk dX10_compare_131 (by decide) (by decide) ⟨vy71, rfl, rfl, rfl, by omega, ⟨_, _, hMy107, ⟨hkpy110, hkpy111, hkpy112, hkpy113, hkpy114, hkpy115, hkpy116⟩⟩, fun j j1 => by rw [hfvy71 _ (by omega)]; rw [hfvy68 _ (by omega)]; rw [hfvy58 _ (by omega)]; rw [egy49, va_up_ne _ _ (by omega)]; rw [egy44, va_up_ne _ _ (by omega)]; rw [hfvy34 _ (by omega)]; rw [hfvy31 _ (by omega)]; rw [hfvy28 _ (by omega)]; rw [egy25, va_up_ne _ _ (by omega)]⟩
              · refine z_iconst (z := 1) C dX10_compare_123 rfl ?_
                refine z_goto (tgt := 128) C dX10_compare_124 (by decide) ?_
                have hgy117 := (hfvy68 (i) (ne_o (i := i) (c := 0) (d := 26) rfl)).trans hgy59
                have hey119 : (uZ (uZ Fvy34 55 (pi (90 * n0 + 2))) 56 (pi (90 * n1 + 2))) 55 = pi (90 * n0 + 2) := (fn (uZ_s _ _ _) (by decide))
                have hey120 : (uZ (uZ Fvy34 55 (pi (90 * n0 + 2))) 56 (pi (90 * n1 + 2))) 56 = pi (90 * n1 + 2) := (uZ_s _ _ _)
                have hgy121 := (hfvy68 (i + 25) (ne_o (i := i) (c := 25) (d := 26) rfl)).trans hdvy58
                have hgy122 := up_n egy25 ha27 (ne_o (i := i) (c := 27) (d := 0) rfl)
                have hgy123 := (hfvy28 (i + 27) (ne_o (i := i) (c := 27) (d := 0) rfl)).trans hgy122
                have hgy124 := (hfvy31 (i + 27) (ne_o (i := i) (c := 27) (d := 0) rfl)).trans hgy123
                have hgy125 := (hfvy34 (i + 27) (ne_o (i := i) (c := 27) (d := 0) rfl)).trans hgy124
                have hgy126 := up_n egy44 hgy125 (ne_o (i := i) (c := 27) (d := 0) rfl)
                have hgy127 := up_n egy49 hgy126 (ne_o (i := i) (c := 27) (d := 0) rfl)
                have hgy128 := (hfvy58 (i + 27) (ne_o (i := i) (c := 27) (d := 25) rfl)).trans hgy127
                have hgy129 := (hfvy68 (i + 27) (ne_o (i := i) (c := 27) (d := 26) rfl)).trans hgy128
                refine z_cV (As := [.int (zI (1))]) (rest := []) (ci := 12) C (c_X10_folds l D A cs tt N ad _ i hN _ hgy117 _ hgy121 _ hdvy68 _ hgy129 (by omega) (by omega) (1) (by omega)) (lt_A0 hN rfl) hay1 hgy117 rfl rfl mv_yX10_folds q_2055 hd_yX10_folds (by decide) (Nat.le_of_ble_eq_true rfl) (by decide) dX10_compare_128 rfl (kI0 fun vy118 gvy118 hvy118 => ?_)
                obtain ⟨hrvy118, ⟨tvy118, hdvy118⟩, hfvy118⟩ := hvy118
                have hgy130 := (hfvy118 (i) (ne_o (i := i) (c := 0) (d := 27) rfl)).trans hgy117
                have hgy131 := (hfvy31 (i + 1) (ne_o (i := i) (c := 1) (d := 0) rfl)).trans hgy30
                have hgy132 := (hfvy34 (i + 1) (ne_o (i := i) (c := 1) (d := 0) rfl)).trans hgy131
                have hgy133 := up_n egy44 hgy132 (ne_o (i := i) (c := 1) (d := 0) rfl)
                have hgy134 := up_n egy49 hgy133 (ne_o (i := i) (c := 1) (d := 0) rfl)
                have hgy135 := (hfvy58 (i + 1) (ne_o (i := i) (c := 1) (d := 25) rfl)).trans hgy134
                have hgy136 := (hfvy68 (i + 1) (ne_o (i := i) (c := 1) (d := 26) rfl)).trans hgy135
                have hgy137 := (hfvy118 (i + 1) (ne_o (i := i) (c := 1) (d := 27) rfl)).trans hgy136
                have hFy138 : ∀ f, f ≠ 12 → f ≠ 55 → f ≠ 56 → (uZ (uZ Fvy34 55 (pi (90 * n0 + 2))) 56 (pi (90 * n1 + 2))) f = F f := fun f n12 n55 n56 => ((uZ_n _ _ n56).trans ((uZ_n _ _ n55).trans ((hFvy34 f n12).trans ((hFvy31 f n12).trans ((hFvy28 f n12).trans ((uZ_n _ _ n12).trans rfl))))))
                have hey139 : (uZ (uZ Fvy34 55 (pi (90 * n0 + 2))) 56 (pi (90 * n1 + 2))) 13 = F 13 := (fn (fn ((hFvy34 13 (by decide)).trans ((hFvy31 13 (by decide)).trans ((hFvy28 13 (by decide)).trans (fn rfl (by decide))))) (by decide)) (by decide))
                have hey140 : (uZ (uZ Fvy34 55 (pi (90 * n0 + 2))) 56 (pi (90 * n1 + 2))) 14 = F 14 := (fn (fn ((hFvy34 14 (by decide)).trans ((hFvy31 14 (by decide)).trans ((hFvy28 14 (by decide)).trans (fn rfl (by decide))))) (by decide)) (by decide))
                have hey141 : (uZ (uZ Fvy34 55 (pi (90 * n0 + 2))) 56 (pi (90 * n1 + 2))) 15 = F 15 := (fn (fn ((hFvy34 15 (by decide)).trans ((hFvy31 15 (by decide)).trans ((hFvy28 15 (by decide)).trans (fn rfl (by decide))))) (by decide)) (by decide))
                have hey142 : (uZ (uZ Fvy34 55 (pi (90 * n0 + 2))) 56 (pi (90 * n1 + 2))) 16 = F 16 := (fn (fn ((hFvy34 16 (by decide)).trans ((hFvy31 16 (by decide)).trans ((hFvy28 16 (by decide)).trans (fn rfl (by decide))))) (by decide)) (by decide))
                have hey143 : (uZ (uZ Fvy34 55 (pi (90 * n0 + 2))) 56 (pi (90 * n1 + 2))) 17 = F 17 := (fn (fn ((hFvy34 17 (by decide)).trans ((hFvy31 17 (by decide)).trans ((hFvy28 17 (by decide)).trans (fn rfl (by decide))))) (by decide)) (by decide))
                have hey144 : (uZ (uZ Fvy34 55 (pi (90 * n0 + 2))) 56 (pi (90 * n1 + 2))) 18 = F 18 := (fn (fn ((hFvy34 18 (by decide)).trans ((hFvy31 18 (by decide)).trans ((hFvy28 18 (by decide)).trans (fn rfl (by decide))))) (by decide)) (by decide))
                have hey145 : (uZ (uZ Fvy34 55 (pi (90 * n0 + 2))) 56 (pi (90 * n1 + 2))) 19 = F 19 := (fn (fn ((hFvy34 19 (by decide)).trans ((hFvy31 19 (by decide)).trans ((hFvy28 19 (by decide)).trans (fn rfl (by decide))))) (by decide)) (by decide))
                have hey146 : (uZ (uZ Fvy34 55 (pi (90 * n0 + 2))) 56 (pi (90 * n1 + 2))) 20 = F 20 := (fn (fn ((hFvy34 20 (by decide)).trans ((hFvy31 20 (by decide)).trans ((hFvy28 20 (by decide)).trans (fn rfl (by decide))))) (by decide)) (by decide))
                have hey147 : (uZ (uZ Fvy34 55 (pi (90 * n0 + 2))) 56 (pi (90 * n1 + 2))) 21 = F 21 := (fn (fn ((hFvy34 21 (by decide)).trans ((hFvy31 21 (by decide)).trans ((hFvy28 21 (by decide)).trans (fn rfl (by decide))))) (by decide)) (by decide))
                have hey148 : (uZ (uZ Fvy34 55 (pi (90 * n0 + 2))) 56 (pi (90 * n1 + 2))) 23 = F 23 := (fn (fn ((hFvy34 23 (by decide)).trans ((hFvy31 23 (by decide)).trans ((hFvy28 23 (by decide)).trans (fn rfl (by decide))))) (by decide)) (by decide))
                have hey149 : (uZ (uZ Fvy34 55 (pi (90 * n0 + 2))) 56 (pi (90 * n1 + 2))) 25 = F 25 := (fn (fn ((hFvy34 25 (by decide)).trans ((hFvy31 25 (by decide)).trans ((hFvy28 25 (by decide)).trans (fn rfl (by decide))))) (by decide)) (by decide))
                have hey150 : (uZ (uZ Fvy34 55 (pi (90 * n0 + 2))) 56 (pi (90 * n1 + 2))) 27 = F 27 := (fn (fn ((hFvy34 27 (by decide)).trans ((hFvy31 27 (by decide)).trans ((hFvy28 27 (by decide)).trans (fn rfl (by decide))))) (by decide)) (by decide))
                have hey151 : (uZ (uZ Fvy34 55 (pi (90 * n0 + 2))) 56 (pi (90 * n1 + 2))) 28 = F 28 := (fn (fn ((hFvy34 28 (by decide)).trans ((hFvy31 28 (by decide)).trans ((hFvy28 28 (by decide)).trans (fn rfl (by decide))))) (by decide)) (by decide))
                have hey152 : (uZ (uZ Fvy34 55 (pi (90 * n0 + 2))) 56 (pi (90 * n1 + 2))) 29 = F 29 := (fn (fn ((hFvy34 29 (by decide)).trans ((hFvy31 29 (by decide)).trans ((hFvy28 29 (by decide)).trans (fn rfl (by decide))))) (by decide)) (by decide))
                have hKy153 : okF (uZ (uZ Fvy34 55 (pi (90 * n0 + 2))) 56 (pi (90 * n1 + 2))) := okF.mv hM.2.1 hey139 hey140 hey141 hey142 hey143 hey144 hey145 hey146 hey147 hey148 hey149 hey150 hey151 hey152
                have hgy155 := (hfvy118 (i + 25) (ne_o (i := i) (c := 25) (d := 27) rfl)).trans hgy121
                have hgy156 := (hfvy118 (i + 26) (ne_o (i := i) (c := 26) (d := 27) rfl)).trans hdvy68
                have hMy154 : okMr cs ad gvy118 i (x + 1) (uZ (uZ Fvy34 55 (pi (90 * n0 + 2))) 56 (pi (90 * n1 + 2))) r st op ai fa mu tb tp := okMr.upd hM hgy130 hKy153 (fun f a => hFy138 f (by omega) (by omega) (by omega)) hgy137 (hA.mono (by omega)) (fun j a b => by
                    by_cases e0 : j = i + 25
                    · exact Or.inr ⟨25, _, e0, lsP.l (by decide), by rw [e0]; exact hgy155⟩
                    by_cases e1 : j = i + 26
                    · exact Or.inr ⟨26, _, e1, lsP.l (by decide), by rw [e1]; exact hgy156⟩
                    by_cases e2 : j = i + 27
                    · exact Or.inr ⟨27, _, e2, lsP.l (by decide), by rw [e2]; exact hdvy118⟩
                    exact Or.inl (by rw [hfvy118 _ (by omega)]; rw [hfvy68 _ (by omega)]; rw [hfvy58 _ (by omega)]; rw [egy49, va_up_ne _ _ (by omega)]; rw [egy44, va_up_ne _ _ (by omega)]; rw [hfvy34 _ (by omega)]; rw [hfvy31 _ (by omega)]; rw [hfvy28 _ (by omega)]; rw [egy25, va_up_ne _ _ (by omega)]))
                have hkpy157 : (uZ (uZ Fvy34 55 (pi (90 * n0 + 2))) 56 (pi (90 * n1 + 2))) 13 = F 13 := (fn (fn ((hFvy34 13 (by decide)).trans ((hFvy31 13 (by decide)).trans ((hFvy28 13 (by decide)).trans (fn rfl (by decide))))) (by decide)) (by decide))
                have hkpy158 : (uZ (uZ Fvy34 55 (pi (90 * n0 + 2))) 56 (pi (90 * n1 + 2))) 14 = F 14 := (fn (fn ((hFvy34 14 (by decide)).trans ((hFvy31 14 (by decide)).trans ((hFvy28 14 (by decide)).trans (fn rfl (by decide))))) (by decide)) (by decide))
                have hkpy159 : (uZ (uZ Fvy34 55 (pi (90 * n0 + 2))) 56 (pi (90 * n1 + 2))) 17 = F 17 := (fn (fn ((hFvy34 17 (by decide)).trans ((hFvy31 17 (by decide)).trans ((hFvy28 17 (by decide)).trans (fn rfl (by decide))))) (by decide)) (by decide))
                have hkpy160 : (uZ (uZ Fvy34 55 (pi (90 * n0 + 2))) 56 (pi (90 * n1 + 2))) 20 = F 20 := (fn (fn ((hFvy34 20 (by decide)).trans ((hFvy31 20 (by decide)).trans ((hFvy28 20 (by decide)).trans (fn rfl (by decide))))) (by decide)) (by decide))
                have hkpy161 : (uZ (uZ Fvy34 55 (pi (90 * n0 + 2))) 56 (pi (90 * n1 + 2))) 21 = F 21 := (fn (fn ((hFvy34 21 (by decide)).trans ((hFvy31 21 (by decide)).trans ((hFvy28 21 (by decide)).trans (fn rfl (by decide))))) (by decide)) (by decide))
                have hkpy162 : (uZ (uZ Fvy34 55 (pi (90 * n0 + 2))) 56 (pi (90 * n1 + 2))) 23 = F 23 := (fn (fn ((hFvy34 23 (by decide)).trans ((hFvy31 23 (by decide)).trans ((hFvy28 23 (by decide)).trans (fn rfl (by decide))))) (by decide)) (by decide))
                have hkpy163 : (uZ (uZ Fvy34 55 (pi (90 * n0 + 2))) 56 (pi (90 * n1 + 2))) 24 = F 24 := (fn (fn ((hFvy34 24 (by decide)).trans ((hFvy31 24 (by decide)).trans ((hFvy28 24 (by decide)).trans (fn rfl (by decide))))) (by decide)) (by decide))
                exact z_iret C hr hlk dX10_compare_131 (by decide) (by decide) ⟨vy118, rfl, rfl, rfl, by omega, ⟨_, _, hMy154, ⟨hkpy157, hkpy158, hkpy159, hkpy160, hkpy161, hkpy162, hkpy163⟩⟩, fun j j1 => by rw [hfvy118 _ (by omega)]; rw [hfvy68 _ (by omega)]; rw [hfvy58 _ (by omega)]; rw [egy49, va_up_ne _ _ (by omega)]; rw [egy44, va_up_ne _ _ (by omega)]; rw [hfvy34 _ (by omega)]; rw [hfvy31 _ (by omega)]; rw [hfvy28 _ (by omega)]; rw [egy25, va_up_ne _ _ (by omega)]⟩
            · refine z_aload_n C 0 dX10_compare_53 rfl ?_
              refine z_iload_n C 1 dX10_compare_54 rfl ?_
              have hgy164 := (hfvy31 (i + 1) (ne_o (i := i) (c := 1) (d := 0) rfl)).trans hgy30
              have hgy165 := (hfvy34 (i + 1) (ne_o (i := i) (c := 1) (d := 0) rfl)).trans hgy164
              have hFy166 : ∀ f, f ≠ 12 → Fvy34 f = F f := fun f n12 => ((hFvy34 f n12).trans ((hFvy31 f n12).trans ((hFvy28 f n12).trans ((uZ_n _ _ n12).trans rfl))))
              have hey167 : Fvy34 13 = F 13 := ((hFvy34 13 (by decide)).trans ((hFvy31 13 (by decide)).trans ((hFvy28 13 (by decide)).trans (fn rfl (by decide)))))
              have hey168 : Fvy34 14 = F 14 := ((hFvy34 14 (by decide)).trans ((hFvy31 14 (by decide)).trans ((hFvy28 14 (by decide)).trans (fn rfl (by decide)))))
              have hey169 : Fvy34 15 = F 15 := ((hFvy34 15 (by decide)).trans ((hFvy31 15 (by decide)).trans ((hFvy28 15 (by decide)).trans (fn rfl (by decide)))))
              have hey170 : Fvy34 16 = F 16 := ((hFvy34 16 (by decide)).trans ((hFvy31 16 (by decide)).trans ((hFvy28 16 (by decide)).trans (fn rfl (by decide)))))
              have hey171 : Fvy34 17 = F 17 := ((hFvy34 17 (by decide)).trans ((hFvy31 17 (by decide)).trans ((hFvy28 17 (by decide)).trans (fn rfl (by decide)))))
              have hey172 : Fvy34 18 = F 18 := ((hFvy34 18 (by decide)).trans ((hFvy31 18 (by decide)).trans ((hFvy28 18 (by decide)).trans (fn rfl (by decide)))))
              have hey173 : Fvy34 19 = F 19 := ((hFvy34 19 (by decide)).trans ((hFvy31 19 (by decide)).trans ((hFvy28 19 (by decide)).trans (fn rfl (by decide)))))
              have hey174 : Fvy34 20 = F 20 := ((hFvy34 20 (by decide)).trans ((hFvy31 20 (by decide)).trans ((hFvy28 20 (by decide)).trans (fn rfl (by decide)))))
              have hey175 : Fvy34 21 = F 21 := ((hFvy34 21 (by decide)).trans ((hFvy31 21 (by decide)).trans ((hFvy28 21 (by decide)).trans (fn rfl (by decide)))))
              have hey176 : Fvy34 23 = F 23 := ((hFvy34 23 (by decide)).trans ((hFvy31 23 (by decide)).trans ((hFvy28 23 (by decide)).trans (fn rfl (by decide)))))
              have hey177 : Fvy34 25 = F 25 := ((hFvy34 25 (by decide)).trans ((hFvy31 25 (by decide)).trans ((hFvy28 25 (by decide)).trans (fn rfl (by decide)))))
              have hey178 : Fvy34 27 = F 27 := ((hFvy34 27 (by decide)).trans ((hFvy31 27 (by decide)).trans ((hFvy28 27 (by decide)).trans (fn rfl (by decide)))))
              have hey179 : Fvy34 28 = F 28 := ((hFvy34 28 (by decide)).trans ((hFvy31 28 (by decide)).trans ((hFvy28 28 (by decide)).trans (fn rfl (by decide)))))
              have hey180 : Fvy34 29 = F 29 := ((hFvy34 29 (by decide)).trans ((hFvy31 29 (by decide)).trans ((hFvy28 29 (by decide)).trans (fn rfl (by decide)))))
              have hKy181 : okF Fvy34 := okF.mv hM.2.1 hey167 hey168 hey169 hey170 hey171 hey172 hey173 hey174 hey175 hey176 hey177 hey178 hey179 hey180
              have hMy182 : okMr cs ad gvy34 i (x) Fvy34 r st op ai fa mu tb tp := okMr.upd hM hcvy34 hKy181 (fun f a => hFy166 f (by omega)) hgy165 (hA.mono (by omega)) (fun j a b => by
                  exact Or.inl (by rw [hfvy34 _ (by omega)]; rw [hfvy31 _ (by omega)]; rw [hfvy28 _ (by omega)]; rw [egy25, va_up_ne _ _ (by omega)]))
              refine z_cV (As := [.int (zI ((n0 : Int)))]) (rest := []) (ci := 12) C (c_X10_weakestName l D A cs tt N ad _ i hN x hx _ _ hMy182 n0 (by omega)) (lt_A0 hN rfl) hay1 hcvy34 rfl rfl mv_yX10_weakestName q_2047 hd_yX10_weakestName (by decide) (Nat.le_of_ble_eq_true rfl) (by decide) dX10_compare_55 rfl (kI0 fun vy183 gvy183 hvy183 => ?_)
              obtain ⟨hrvy183, ⟨Fvy183, rvy183, hMvy183, hFvy183⟩, hfvy183⟩ := hvy183
              have hFy184 : ∀ f, f ≠ 12 → Fvy34 f = F f := fun f n12 => ((hFvy34 f n12).trans ((hFvy31 f n12).trans ((hFvy28 f n12).trans ((uZ_n _ _ n12).trans rfl))))
              have hBvy183 : (∀ f, f ≠ 12 → Fvy183 f = F f) := fun f n12 => (hFvy183 f ).trans (hFy184 f n12)
              have hCvy183 := hBvy183
              have hq13vy183 : Fvy183 13 = F 13 := (hFvy183 13).trans ((hFvy34 13 (by decide)).trans ((hFvy31 13 (by decide)).trans ((hFvy28 13 (by decide)).trans (fn rfl (by decide)))))
              have hq14vy183 : Fvy183 14 = F 14 := (hFvy183 14).trans ((hFvy34 14 (by decide)).trans ((hFvy31 14 (by decide)).trans ((hFvy28 14 (by decide)).trans (fn rfl (by decide)))))
              have hq15vy183 : Fvy183 15 = F 15 := (hFvy183 15).trans ((hFvy34 15 (by decide)).trans ((hFvy31 15 (by decide)).trans ((hFvy28 15 (by decide)).trans (fn rfl (by decide)))))
              have hq17vy183 : Fvy183 17 = F 17 := (hFvy183 17).trans ((hFvy34 17 (by decide)).trans ((hFvy31 17 (by decide)).trans ((hFvy28 17 (by decide)).trans (fn rfl (by decide)))))
              have hq20vy183 : Fvy183 20 = F 20 := (hFvy183 20).trans ((hFvy34 20 (by decide)).trans ((hFvy31 20 (by decide)).trans ((hFvy28 20 (by decide)).trans (fn rfl (by decide)))))
              have hq21vy183 : Fvy183 21 = F 21 := (hFvy183 21).trans ((hFvy34 21 (by decide)).trans ((hFvy31 21 (by decide)).trans ((hFvy28 21 (by decide)).trans (fn rfl (by decide)))))
              have hq23vy183 : Fvy183 23 = F 23 := (hFvy183 23).trans ((hFvy34 23 (by decide)).trans ((hFvy31 23 (by decide)).trans ((hFvy28 23 (by decide)).trans (fn rfl (by decide)))))
              have hq24vy183 : Fvy183 24 = F 24 := (hFvy183 24).trans ((hFvy34 24 (by decide)).trans ((hFvy31 24 (by decide)).trans ((hFvy28 24 (by decide)).trans (fn rfl (by decide)))))
              obtain ⟨hg_y185, ⟨⟨e13_y185, e14_y185, e25_y185, e27_y185, e29_y185⟩, k15_y185, k16_y185, k17_y185, k18_y185, k19_y185, k20_y185, k23_y185, k21_y185⟩, hRD_y185, hTx_y185, hA_y185, ns_y185, nh_y185, nd_y185, rf_y185, pi_y185, te_y185, ki_y185, li_y185, ok1_y185, ok2_y185, fo_y185, dd_y185, dps_y185, ⟨ha1_y185, ha2_y185, ha3_y185, ha4_y185, ha5_y185, ha6_y185, ha7_y185, ha8_y185, ha9_y185, ha10_y185, ha11_y185, ha12_y185, ha13_y185, ha14_y185, ha15_y185, ha24_y185, ha25_y185, ha26_y185, ha27_y185, ha28_y185, ha29_y185⟩, hEv_y185, hPt_y185, hns_y185, htp_y185⟩ := id hMvy183
              obtain ⟨-, hop_y185, hai_y185, hfa_y185, hT_y185, hT1_y185⟩ := id hEv_y185
              have e14 := e14_y185
              have e25 := e25_y185
              have e27 := e27_y185
              have e29 := e29_y185
              have hop := hop_y185
              have hai := hai_y185
              have hfa := hfa_y185
              have hT := hT_y185
              have hT1 := hT1_y185
              have hEv := hEv_y185
              have htp := htp_y185
              have hns := hns_y185
              have hPt := hPt_y185
              obtain ⟨⟨hsyy186, htyy186, hnyy186, hpyy186⟩, hlyy186⟩ := okA.at0 hA_y185
              simp only [Nat.zero_add] at hsyy186 hnyy186 hpyy186
              have hmn : ∀ s, s < 4 → 0 ≤ rvy183 (6 + 86 * s) ∧ rvy183 (6 + 86 * s) ≤ 12 := fun s hs => (hsyy186 s hs).1
              have h5 : 0 ≤ rvy183 5 ∧ rvy183 5 ≤ 6 := hpyy186
              refine z_iconst (z := -1) C dX10_compare_58 rfl ?_
              refine z_icmp_eq (tgt := 79) C dX10_compare_59 (by decide) (by omega) (by omega) (fun hby187 => ?_) (fun hby187 => ?_)
              · refine z_iconst (z := 0) C dX10_compare_79 rfl ?_
                have hMy188 : okMr cs ad gvy183 i (x + 1) Fvy183 rvy183 st op ai fa mu tb tp := okMr.upd hMvy183 hg_y185 hMvy183.2.1 (fun f _ => rfl) ha1_y185 (hA_y185.mono (by omega)) (fun j a b => by
                    exact Or.inl (by rfl))
                have hkpy189 : Fvy183 13 = F 13 := hq13vy183
                have hkpy190 : Fvy183 14 = F 14 := hq14vy183
                have hkpy191 : Fvy183 17 = F 17 := hq17vy183
                have hkpy192 : Fvy183 20 = F 20 := hq20vy183
                have hkpy193 : Fvy183 21 = F 21 := hq21vy183
                have hkpy194 : Fvy183 23 = F 23 := hq23vy183
                have hkpy195 : Fvy183 24 = F 24 := hq24vy183
                exact z_iret C hr hlk dX10_compare_80 (by decide) (by decide) ⟨0, rfl, rfl, rfl, by omega, ⟨_, _, hMy188, ⟨hkpy189, hkpy190, hkpy191, hkpy192, hkpy193, hkpy194, hkpy195⟩⟩, fun j j1 => by rw [hfvy183 _ (by omega)]; rw [hfvy34 _ (by omega)]; rw [hfvy31 _ (by omega)]; rw [hfvy28 _ (by omega)]; rw [egy25, va_up_ne _ _ (by omega)]⟩
              · refine z_aload_n C 0 dX10_compare_62 rfl ?_
                refine z_iload_n C 1 dX10_compare_63 rfl ?_
                have hMy196 : okMr cs ad gvy183 i (x) Fvy183 rvy183 st op ai fa mu tb tp := okMr.upd hMvy183 hg_y185 hMvy183.2.1 (fun f _ => rfl) ha1_y185 (hA_y185.mono (by omega)) (fun j a b => by
                    exact Or.inl (by rfl))
                refine z_cV (As := [.int (zI ((n0 : Int)))]) (rest := []) (ci := 12) C (c_X10_weakestName l D A cs tt N ad _ i hN x hx _ _ hMy196 n0 (by omega)) (lt_A0 hN rfl) hay1 hg_y185 rfl rfl mv_yX10_weakestName q_2047 hd_yX10_weakestName (by decide) (Nat.le_of_ble_eq_true rfl) (by decide) dX10_compare_64 rfl (kI0 fun vy197 gvy197 hvy197 => ?_)
                obtain ⟨hrvy197, ⟨Fvy197, rvy197, hMvy197, hFvy197⟩, hfvy197⟩ := hvy197
                have hBvy197 : (∀ f, Fvy197 f = Fvy183 f) := fun f  => (hFvy197 f )
                have hCvy197 : (∀ f, f ≠ 12 → Fvy197 f = F f) := fun f n12 => (hBvy197 f ).trans (hCvy183 f n12)
                have hq13vy197 : Fvy197 13 = F 13 := (hFvy197 13).trans hq13vy183
                have hq14vy197 : Fvy197 14 = F 14 := (hFvy197 14).trans hq14vy183
                have hq15vy197 : Fvy197 15 = F 15 := (hFvy197 15).trans hq15vy183
                have hq17vy197 : Fvy197 17 = F 17 := (hFvy197 17).trans hq17vy183
                have hq20vy197 : Fvy197 20 = F 20 := (hFvy197 20).trans hq20vy183
                have hq21vy197 : Fvy197 21 = F 21 := (hFvy197 21).trans hq21vy183
                have hq23vy197 : Fvy197 23 = F 23 := (hFvy197 23).trans hq23vy183
                have hq24vy197 : Fvy197 24 = F 24 := (hFvy197 24).trans hq24vy183
                obtain ⟨hg_y198, ⟨⟨e13_y198, e14_y198, e25_y198, e27_y198, e29_y198⟩, k15_y198, k16_y198, k17_y198, k18_y198, k19_y198, k20_y198, k23_y198, k21_y198⟩, hRD_y198, hTx_y198, hA_y198, ns_y198, nh_y198, nd_y198, rf_y198, pi_y198, te_y198, ki_y198, li_y198, ok1_y198, ok2_y198, fo_y198, dd_y198, dps_y198, ⟨ha1_y198, ha2_y198, ha3_y198, ha4_y198, ha5_y198, ha6_y198, ha7_y198, ha8_y198, ha9_y198, ha10_y198, ha11_y198, ha12_y198, ha13_y198, ha14_y198, ha15_y198, ha24_y198, ha25_y198, ha26_y198, ha27_y198, ha28_y198, ha29_y198⟩, hEv_y198, hPt_y198, hns_y198, htp_y198⟩ := id hMvy197
                obtain ⟨-, hop_y198, hai_y198, hfa_y198, hT_y198, hT1_y198⟩ := id hEv_y198
                have e14 := e14_y198
                have e25 := e25_y198
                have e27 := e27_y198
                have e29 := e29_y198
                have hop := hop_y198
                have hai := hai_y198
                have hfa := hfa_y198
                have hT := hT_y198
                have hT1 := hT1_y198
                have hEv := hEv_y198
                have htp := htp_y198
                have hns := hns_y198
                have hPt := hPt_y198
                obtain ⟨⟨hsyy199, htyy199, hnyy199, hpyy199⟩, hlyy199⟩ := okA.at0 hA_y198
                simp only [Nat.zero_add] at hsyy199 hnyy199 hpyy199
                have hmn : ∀ s, s < 4 → 0 ≤ rvy197 (6 + 86 * s) ∧ rvy197 (6 + 86 * s) ≤ 12 := fun s hs => (hsyy199 s hs).1
                have h5 : 0 ≤ rvy197 5 ∧ rvy197 5 ≤ 6 := hpyy199
                refine z_aload_n C 0 dX10_compare_67 rfl ?_
                refine z_iload_n C 2 dX10_compare_68 rfl ?_
                have hMy200 : okMr cs ad gvy197 i (x) Fvy197 rvy197 st op ai fa mu tb tp := okMr.upd hMvy197 hg_y198 hMvy197.2.1 (fun f _ => rfl) ha1_y198 (hA_y198.mono (by omega)) (fun j a b => by
                    exact Or.inl (by rfl))
                refine z_cV (As := [.int (zI ((n1 : Int)))]) (rest := [.int (zI (vy197))]) (ci := 12) C (c_X10_weakestName l D A cs tt N ad _ i hN x hx _ _ hMy200 n1 (by omega)) (lt_A0 hN rfl) hay1 hg_y198 rfl rfl mv_yX10_weakestName q_2047 hd_yX10_weakestName (by decide) (Nat.le_of_ble_eq_true rfl) (by decide) dX10_compare_69 rfl (kI0 fun vy201 gvy201 hvy201 => ?_)
                obtain ⟨hrvy201, ⟨Fvy201, rvy201, hMvy201, hFvy201⟩, hfvy201⟩ := hvy201
                have hBvy201 : (∀ f, Fvy201 f = Fvy197 f) := fun f  => (hFvy201 f )
                have hCvy201 : (∀ f, f ≠ 12 → Fvy201 f = F f) := fun f n12 => (hBvy201 f ).trans (hCvy197 f n12)
                have hq13vy201 : Fvy201 13 = F 13 := (hFvy201 13).trans hq13vy197
                have hq14vy201 : Fvy201 14 = F 14 := (hFvy201 14).trans hq14vy197
                have hq15vy201 : Fvy201 15 = F 15 := (hFvy201 15).trans hq15vy197
                have hq17vy201 : Fvy201 17 = F 17 := (hFvy201 17).trans hq17vy197
                have hq20vy201 : Fvy201 20 = F 20 := (hFvy201 20).trans hq20vy197
                have hq21vy201 : Fvy201 21 = F 21 := (hFvy201 21).trans hq21vy197
                have hq23vy201 : Fvy201 23 = F 23 := (hFvy201 23).trans hq23vy197
                have hq24vy201 : Fvy201 24 = F 24 := (hFvy201 24).trans hq24vy197
                obtain ⟨hg_y202, ⟨⟨e13_y202, e14_y202, e25_y202, e27_y202, e29_y202⟩, k15_y202, k16_y202, k17_y202, k18_y202, k19_y202, k20_y202, k23_y202, k21_y202⟩, hRD_y202, hTx_y202, hA_y202, ns_y202, nh_y202, nd_y202, rf_y202, pi_y202, te_y202, ki_y202, li_y202, ok1_y202, ok2_y202, fo_y202, dd_y202, dps_y202, ⟨ha1_y202, ha2_y202, ha3_y202, ha4_y202, ha5_y202, ha6_y202, ha7_y202, ha8_y202, ha9_y202, ha10_y202, ha11_y202, ha12_y202, ha13_y202, ha14_y202, ha15_y202, ha24_y202, ha25_y202, ha26_y202, ha27_y202, ha28_y202, ha29_y202⟩, hEv_y202, hPt_y202, hns_y202, htp_y202⟩ := id hMvy201
                obtain ⟨-, hop_y202, hai_y202, hfa_y202, hT_y202, hT1_y202⟩ := id hEv_y202
                have e14 := e14_y202
                have e25 := e25_y202
                have e27 := e27_y202
                have e29 := e29_y202
                have hop := hop_y202
                have hai := hai_y202
                have hfa := hfa_y202
                have hT := hT_y202
                have hT1 := hT1_y202
                have hEv := hEv_y202
                have htp := htp_y202
                have hns := hns_y202
                have hPt := hPt_y202
                obtain ⟨⟨hsyy203, htyy203, hnyy203, hpyy203⟩, hlyy203⟩ := okA.at0 hA_y202
                simp only [Nat.zero_add] at hsyy203 hnyy203 hpyy203
                have hmn : ∀ s, s < 4 → 0 ≤ rvy201 (6 + 86 * s) ∧ rvy201 (6 + 86 * s) ≤ 12 := fun s hs => (hsyy203 s hs).1
                have h5 : 0 ≤ rvy201 5 ∧ rvy201 5 ≤ 6 := hpyy203
                refine z_icmp_ne (tgt := 79) C dX10_compare_72 (by decide) (by omega) (by omega) (fun hby204 => ?_) (fun hby204 => ?_)
                · refine z_iconst (z := 0) C dX10_compare_79 rfl ?_
                  have hMy205 : okMr cs ad gvy201 i (x + 1) Fvy201 rvy201 st op ai fa mu tb tp := okMr.upd hMvy201 hg_y202 hMvy201.2.1 (fun f _ => rfl) ha1_y202 (hA_y202.mono (by omega)) (fun j a b => by
                      exact Or.inl (by rfl))
                  have hkpy206 : Fvy201 13 = F 13 := hq13vy201
                  have hkpy207 : Fvy201 14 = F 14 := hq14vy201
                  have hkpy208 : Fvy201 17 = F 17 := hq17vy201
                  have hkpy209 : Fvy201 20 = F 20 := hq20vy201
                  have hkpy210 : Fvy201 21 = F 21 := hq21vy201
                  have hkpy211 : Fvy201 23 = F 23 := hq23vy201
                  have hkpy212 : Fvy201 24 = F 24 := hq24vy201
                  exact z_iret C hr hlk dX10_compare_80 (by decide) (by decide) ⟨0, rfl, rfl, rfl, by omega, ⟨_, _, hMy205, ⟨hkpy206, hkpy207, hkpy208, hkpy209, hkpy210, hkpy211, hkpy212⟩⟩, fun j j1 => by rw [hfvy201 _ (by omega)]; rw [hfvy197 _ (by omega)]; rw [hfvy183 _ (by omega)]; rw [hfvy34 _ (by omega)]; rw [hfvy31 _ (by omega)]; rw [hfvy28 _ (by omega)]; rw [egy25, va_up_ne _ _ (by omega)]⟩
                · refine z_iconst (z := 1) C dX10_compare_75 rfl ?_
                  refine z_goto (tgt := 80) C dX10_compare_76 (by decide) ?_
                  have hMy213 : okMr cs ad gvy201 i (x + 1) Fvy201 rvy201 st op ai fa mu tb tp := okMr.upd hMvy201 hg_y202 hMvy201.2.1 (fun f _ => rfl) ha1_y202 (hA_y202.mono (by omega)) (fun j a b => by
                      exact Or.inl (by rfl))
                  have hkpy214 : Fvy201 13 = F 13 := hq13vy201
                  have hkpy215 : Fvy201 14 = F 14 := hq14vy201
                  have hkpy216 : Fvy201 17 = F 17 := hq17vy201
                  have hkpy217 : Fvy201 20 = F 20 := hq20vy201
                  have hkpy218 : Fvy201 21 = F 21 := hq21vy201
                  have hkpy219 : Fvy201 23 = F 23 := hq23vy201
                  have hkpy220 : Fvy201 24 = F 24 := hq24vy201
                  exact z_iret C hr hlk dX10_compare_80 (by decide) (by decide) ⟨1, rfl, rfl, rfl, by omega, ⟨_, _, hMy213, ⟨hkpy214, hkpy215, hkpy216, hkpy217, hkpy218, hkpy219, hkpy220⟩⟩, fun j j1 => by rw [hfvy201 _ (by omega)]; rw [hfvy197 _ (by omega)]; rw [hfvy183 _ (by omega)]; rw [hfvy34 _ (by omega)]; rw [hfvy31 _ (by omega)]; rw [hfvy28 _ (by omega)]; rw [egy25, va_up_ne _ _ (by omega)]⟩
          · refine z_aload_n C 0 dX10_compare_41 rfl ?_
            refine z_iload_n C 1 dX10_compare_42 rfl ?_
            refine z_iload_n C 2 dX10_compare_43 rfl ?_
            have hgy221 := up_n egy25 ha12 (ne_o (i := i) (c := 12) (d := 0) rfl)
            have hgy222 := (hfvy28 (i + 12) (ne_o (i := i) (c := 12) (d := 0) rfl)).trans hgy221
            have hgy223 := (hfvy31 (i + 12) (ne_o (i := i) (c := 12) (d := 0) rfl)).trans hgy222
            have hgy224 := (hfvy34 (i + 12) (ne_o (i := i) (c := 12) (d := 0) rfl)).trans hgy223
            refine z_cV (As := [.int (zI ((n0 : Int))), .int (zI ((n1 : Int)))]) (rest := []) (ci := 12) C (c_X10_namesInBoth l D A cs tt N ad _ i hN _ hcvy34 _ hgy224 hPt n0 n1 (by omega) (by omega)) (lt_A0 hN rfl) hay1 hcvy34 rfl rfl mv_yX10_namesInBoth q_2039 hd_yX10_namesInBoth (by decide) (Nat.le_of_ble_eq_true rfl) (by decide) dX10_compare_44 rfl (kI0 fun vy225 gvy225 hvy225 => ?_)
            obtain ⟨hvy225, rfl⟩ := hvy225
            have hgy226 := (hfvy31 (i + 1) (ne_o (i := i) (c := 1) (d := 0) rfl)).trans hgy30
            have hgy227 := (hfvy34 (i + 1) (ne_o (i := i) (c := 1) (d := 0) rfl)).trans hgy226
            have hFy228 : ∀ f, f ≠ 12 → Fvy34 f = F f := fun f n12 => ((hFvy34 f n12).trans ((hFvy31 f n12).trans ((hFvy28 f n12).trans ((uZ_n _ _ n12).trans rfl))))
            have hey229 : Fvy34 13 = F 13 := ((hFvy34 13 (by decide)).trans ((hFvy31 13 (by decide)).trans ((hFvy28 13 (by decide)).trans (fn rfl (by decide)))))
            have hey230 : Fvy34 14 = F 14 := ((hFvy34 14 (by decide)).trans ((hFvy31 14 (by decide)).trans ((hFvy28 14 (by decide)).trans (fn rfl (by decide)))))
            have hey231 : Fvy34 15 = F 15 := ((hFvy34 15 (by decide)).trans ((hFvy31 15 (by decide)).trans ((hFvy28 15 (by decide)).trans (fn rfl (by decide)))))
            have hey232 : Fvy34 16 = F 16 := ((hFvy34 16 (by decide)).trans ((hFvy31 16 (by decide)).trans ((hFvy28 16 (by decide)).trans (fn rfl (by decide)))))
            have hey233 : Fvy34 17 = F 17 := ((hFvy34 17 (by decide)).trans ((hFvy31 17 (by decide)).trans ((hFvy28 17 (by decide)).trans (fn rfl (by decide)))))
            have hey234 : Fvy34 18 = F 18 := ((hFvy34 18 (by decide)).trans ((hFvy31 18 (by decide)).trans ((hFvy28 18 (by decide)).trans (fn rfl (by decide)))))
            have hey235 : Fvy34 19 = F 19 := ((hFvy34 19 (by decide)).trans ((hFvy31 19 (by decide)).trans ((hFvy28 19 (by decide)).trans (fn rfl (by decide)))))
            have hey236 : Fvy34 20 = F 20 := ((hFvy34 20 (by decide)).trans ((hFvy31 20 (by decide)).trans ((hFvy28 20 (by decide)).trans (fn rfl (by decide)))))
            have hey237 : Fvy34 21 = F 21 := ((hFvy34 21 (by decide)).trans ((hFvy31 21 (by decide)).trans ((hFvy28 21 (by decide)).trans (fn rfl (by decide)))))
            have hey238 : Fvy34 23 = F 23 := ((hFvy34 23 (by decide)).trans ((hFvy31 23 (by decide)).trans ((hFvy28 23 (by decide)).trans (fn rfl (by decide)))))
            have hey239 : Fvy34 25 = F 25 := ((hFvy34 25 (by decide)).trans ((hFvy31 25 (by decide)).trans ((hFvy28 25 (by decide)).trans (fn rfl (by decide)))))
            have hey240 : Fvy34 27 = F 27 := ((hFvy34 27 (by decide)).trans ((hFvy31 27 (by decide)).trans ((hFvy28 27 (by decide)).trans (fn rfl (by decide)))))
            have hey241 : Fvy34 28 = F 28 := ((hFvy34 28 (by decide)).trans ((hFvy31 28 (by decide)).trans ((hFvy28 28 (by decide)).trans (fn rfl (by decide)))))
            have hey242 : Fvy34 29 = F 29 := ((hFvy34 29 (by decide)).trans ((hFvy31 29 (by decide)).trans ((hFvy28 29 (by decide)).trans (fn rfl (by decide)))))
            have hKy243 : okF Fvy34 := okF.mv hM.2.1 hey229 hey230 hey231 hey232 hey233 hey234 hey235 hey236 hey237 hey238 hey239 hey240 hey241 hey242
            have hMy244 : okMr cs ad gvy34 i (x + 1) Fvy34 r st op ai fa mu tb tp := okMr.upd hM hcvy34 hKy243 (fun f a => hFy228 f (by omega)) hgy227 (hA.mono (by omega)) (fun j a b => by
                exact Or.inl (by rw [hfvy34 _ (by omega)]; rw [hfvy31 _ (by omega)]; rw [hfvy28 _ (by omega)]; rw [egy25, va_up_ne _ _ (by omega)]))
            have hkpy245 : Fvy34 13 = F 13 := ((hFvy34 13 (by decide)).trans ((hFvy31 13 (by decide)).trans ((hFvy28 13 (by decide)).trans (fn rfl (by decide)))))
            have hkpy246 : Fvy34 14 = F 14 := ((hFvy34 14 (by decide)).trans ((hFvy31 14 (by decide)).trans ((hFvy28 14 (by decide)).trans (fn rfl (by decide)))))
            have hkpy247 : Fvy34 17 = F 17 := ((hFvy34 17 (by decide)).trans ((hFvy31 17 (by decide)).trans ((hFvy28 17 (by decide)).trans (fn rfl (by decide)))))
            have hkpy248 : Fvy34 20 = F 20 := ((hFvy34 20 (by decide)).trans ((hFvy31 20 (by decide)).trans ((hFvy28 20 (by decide)).trans (fn rfl (by decide)))))
            have hkpy249 : Fvy34 21 = F 21 := ((hFvy34 21 (by decide)).trans ((hFvy31 21 (by decide)).trans ((hFvy28 21 (by decide)).trans (fn rfl (by decide)))))
            have hkpy250 : Fvy34 23 = F 23 := ((hFvy34 23 (by decide)).trans ((hFvy31 23 (by decide)).trans ((hFvy28 23 (by decide)).trans (fn rfl (by decide)))))
            have hkpy251 : Fvy34 24 = F 24 := ((hFvy34 24 (by decide)).trans ((hFvy31 24 (by decide)).trans ((hFvy28 24 (by decide)).trans (fn rfl (by decide)))))
            exact z_iret C hr hlk dX10_compare_47 (by decide) (by decide) ⟨vy225, rfl, rfl, rfl, by omega, ⟨_, _, hMy244, ⟨hkpy245, hkpy246, hkpy247, hkpy248, hkpy249, hkpy250, hkpy251⟩⟩, fun j j1 => by rw [hfvy34 _ (by omega)]; rw [hfvy31 _ (by omega)]; rw [hfvy28 _ (by omega)]; rw [egy25, va_up_ne _ _ (by omega)]⟩
        · refine z_if_ne (tgt := 37) C dX10_compare_32 (by decide) (by omega) (fun h => absurd h (by omega)) (fun _ => ?_)
          refine z_iconst (z := 0) C dX10_compare_35 rfl ?_
          have hgy252 := (hfvy31 (i + 1) (ne_o (i := i) (c := 1) (d := 0) rfl)).trans hgy30
          have hgy253 := (hfvy34 (i + 1) (ne_o (i := i) (c := 1) (d := 0) rfl)).trans hgy252
          have hFy254 : ∀ f, f ≠ 12 → Fvy34 f = F f := fun f n12 => ((hFvy34 f n12).trans ((hFvy31 f n12).trans ((hFvy28 f n12).trans ((uZ_n _ _ n12).trans rfl))))
          have hey255 : Fvy34 13 = F 13 := ((hFvy34 13 (by decide)).trans ((hFvy31 13 (by decide)).trans ((hFvy28 13 (by decide)).trans (fn rfl (by decide)))))
          have hey256 : Fvy34 14 = F 14 := ((hFvy34 14 (by decide)).trans ((hFvy31 14 (by decide)).trans ((hFvy28 14 (by decide)).trans (fn rfl (by decide)))))
          have hey257 : Fvy34 15 = F 15 := ((hFvy34 15 (by decide)).trans ((hFvy31 15 (by decide)).trans ((hFvy28 15 (by decide)).trans (fn rfl (by decide)))))
          have hey258 : Fvy34 16 = F 16 := ((hFvy34 16 (by decide)).trans ((hFvy31 16 (by decide)).trans ((hFvy28 16 (by decide)).trans (fn rfl (by decide)))))
          have hey259 : Fvy34 17 = F 17 := ((hFvy34 17 (by decide)).trans ((hFvy31 17 (by decide)).trans ((hFvy28 17 (by decide)).trans (fn rfl (by decide)))))
          have hey260 : Fvy34 18 = F 18 := ((hFvy34 18 (by decide)).trans ((hFvy31 18 (by decide)).trans ((hFvy28 18 (by decide)).trans (fn rfl (by decide)))))
          have hey261 : Fvy34 19 = F 19 := ((hFvy34 19 (by decide)).trans ((hFvy31 19 (by decide)).trans ((hFvy28 19 (by decide)).trans (fn rfl (by decide)))))
          have hey262 : Fvy34 20 = F 20 := ((hFvy34 20 (by decide)).trans ((hFvy31 20 (by decide)).trans ((hFvy28 20 (by decide)).trans (fn rfl (by decide)))))
          have hey263 : Fvy34 21 = F 21 := ((hFvy34 21 (by decide)).trans ((hFvy31 21 (by decide)).trans ((hFvy28 21 (by decide)).trans (fn rfl (by decide)))))
          have hey264 : Fvy34 23 = F 23 := ((hFvy34 23 (by decide)).trans ((hFvy31 23 (by decide)).trans ((hFvy28 23 (by decide)).trans (fn rfl (by decide)))))
          have hey265 : Fvy34 25 = F 25 := ((hFvy34 25 (by decide)).trans ((hFvy31 25 (by decide)).trans ((hFvy28 25 (by decide)).trans (fn rfl (by decide)))))
          have hey266 : Fvy34 27 = F 27 := ((hFvy34 27 (by decide)).trans ((hFvy31 27 (by decide)).trans ((hFvy28 27 (by decide)).trans (fn rfl (by decide)))))
          have hey267 : Fvy34 28 = F 28 := ((hFvy34 28 (by decide)).trans ((hFvy31 28 (by decide)).trans ((hFvy28 28 (by decide)).trans (fn rfl (by decide)))))
          have hey268 : Fvy34 29 = F 29 := ((hFvy34 29 (by decide)).trans ((hFvy31 29 (by decide)).trans ((hFvy28 29 (by decide)).trans (fn rfl (by decide)))))
          have hKy269 : okF Fvy34 := okF.mv hM.2.1 hey255 hey256 hey257 hey258 hey259 hey260 hey261 hey262 hey263 hey264 hey265 hey266 hey267 hey268
          have hMy270 : okMr cs ad gvy34 i (x + 1) Fvy34 r st op ai fa mu tb tp := okMr.upd hM hcvy34 hKy269 (fun f a => hFy254 f (by omega)) hgy253 (hA.mono (by omega)) (fun j a b => by
              exact Or.inl (by rw [hfvy34 _ (by omega)]; rw [hfvy31 _ (by omega)]; rw [hfvy28 _ (by omega)]; rw [egy25, va_up_ne _ _ (by omega)]))
          have hkpy271 : Fvy34 13 = F 13 := ((hFvy34 13 (by decide)).trans ((hFvy31 13 (by decide)).trans ((hFvy28 13 (by decide)).trans (fn rfl (by decide)))))
          have hkpy272 : Fvy34 14 = F 14 := ((hFvy34 14 (by decide)).trans ((hFvy31 14 (by decide)).trans ((hFvy28 14 (by decide)).trans (fn rfl (by decide)))))
          have hkpy273 : Fvy34 17 = F 17 := ((hFvy34 17 (by decide)).trans ((hFvy31 17 (by decide)).trans ((hFvy28 17 (by decide)).trans (fn rfl (by decide)))))
          have hkpy274 : Fvy34 20 = F 20 := ((hFvy34 20 (by decide)).trans ((hFvy31 20 (by decide)).trans ((hFvy28 20 (by decide)).trans (fn rfl (by decide)))))
          have hkpy275 : Fvy34 21 = F 21 := ((hFvy34 21 (by decide)).trans ((hFvy31 21 (by decide)).trans ((hFvy28 21 (by decide)).trans (fn rfl (by decide)))))
          have hkpy276 : Fvy34 23 = F 23 := ((hFvy34 23 (by decide)).trans ((hFvy31 23 (by decide)).trans ((hFvy28 23 (by decide)).trans (fn rfl (by decide)))))
          have hkpy277 : Fvy34 24 = F 24 := ((hFvy34 24 (by decide)).trans ((hFvy31 24 (by decide)).trans ((hFvy28 24 (by decide)).trans (fn rfl (by decide)))))
          exact z_iret C hr hlk dX10_compare_36 (by decide) (by decide) ⟨0, rfl, rfl, rfl, by omega, ⟨_, _, hMy270, ⟨hkpy271, hkpy272, hkpy273, hkpy274, hkpy275, hkpy276, hkpy277⟩⟩, fun j j1 => by rw [hfvy34 _ (by omega)]; rw [hfvy31 _ (by omega)]; rw [hfvy28 _ (by omega)]; rw [egy25, va_up_ne _ _ (by omega)]⟩
      · refine z_iconst (z := 1) C dX10_compare_28 rfl ?_
        have hey279 : Fvy31 12 = Fvy31 12 := rfl
        refine z_cV (As := [.int (zI (0)), .int (zI (1))]) (rest := []) (ci := 12) C (c_X10_right l D A cs tt N ad _ i hN _ hcvy31 (by omega) (0) (by omega) (1) (by omega)) (lt_A0 hN rfl) hay1 hcvy31 rfl rfl mv_yX10_right q_1648 hd_yX10_right (by decide) (Nat.le_of_ble_eq_true rfl) (by decide) dX10_compare_29 rfl (kI0 fun vy278 gvy278 hvy278 => ?_)
        obtain ⟨hrvy278, ⟨Fvy278, hcvy278, htvy278, hFvy278⟩, hfvy278⟩ := hvy278
        obtain rfl : vy278 = 0 := by omega
        refine z_if_ne (tgt := 37) C dX10_compare_32 (by decide) (by omega) (fun h => absurd h (by omega)) (fun _ => ?_)
        refine z_iconst (z := 0) C dX10_compare_35 rfl ?_
        have hgy280 := (hfvy31 (i + 1) (ne_o (i := i) (c := 1) (d := 0) rfl)).trans hgy30
        have hgy281 := (hfvy278 (i + 1) (ne_o (i := i) (c := 1) (d := 0) rfl)).trans hgy280
        have hFy282 : ∀ f, f ≠ 12 → Fvy278 f = F f := fun f n12 => ((hFvy278 f n12).trans ((hFvy31 f n12).trans ((hFvy28 f n12).trans ((uZ_n _ _ n12).trans rfl))))
        have hey283 : Fvy278 13 = F 13 := ((hFvy278 13 (by decide)).trans ((hFvy31 13 (by decide)).trans ((hFvy28 13 (by decide)).trans (fn rfl (by decide)))))
        have hey284 : Fvy278 14 = F 14 := ((hFvy278 14 (by decide)).trans ((hFvy31 14 (by decide)).trans ((hFvy28 14 (by decide)).trans (fn rfl (by decide)))))
        have hey285 : Fvy278 15 = F 15 := ((hFvy278 15 (by decide)).trans ((hFvy31 15 (by decide)).trans ((hFvy28 15 (by decide)).trans (fn rfl (by decide)))))
        have hey286 : Fvy278 16 = F 16 := ((hFvy278 16 (by decide)).trans ((hFvy31 16 (by decide)).trans ((hFvy28 16 (by decide)).trans (fn rfl (by decide)))))
        have hey287 : Fvy278 17 = F 17 := ((hFvy278 17 (by decide)).trans ((hFvy31 17 (by decide)).trans ((hFvy28 17 (by decide)).trans (fn rfl (by decide)))))
        have hey288 : Fvy278 18 = F 18 := ((hFvy278 18 (by decide)).trans ((hFvy31 18 (by decide)).trans ((hFvy28 18 (by decide)).trans (fn rfl (by decide)))))
        have hey289 : Fvy278 19 = F 19 := ((hFvy278 19 (by decide)).trans ((hFvy31 19 (by decide)).trans ((hFvy28 19 (by decide)).trans (fn rfl (by decide)))))
        have hey290 : Fvy278 20 = F 20 := ((hFvy278 20 (by decide)).trans ((hFvy31 20 (by decide)).trans ((hFvy28 20 (by decide)).trans (fn rfl (by decide)))))
        have hey291 : Fvy278 21 = F 21 := ((hFvy278 21 (by decide)).trans ((hFvy31 21 (by decide)).trans ((hFvy28 21 (by decide)).trans (fn rfl (by decide)))))
        have hey292 : Fvy278 23 = F 23 := ((hFvy278 23 (by decide)).trans ((hFvy31 23 (by decide)).trans ((hFvy28 23 (by decide)).trans (fn rfl (by decide)))))
        have hey293 : Fvy278 25 = F 25 := ((hFvy278 25 (by decide)).trans ((hFvy31 25 (by decide)).trans ((hFvy28 25 (by decide)).trans (fn rfl (by decide)))))
        have hey294 : Fvy278 27 = F 27 := ((hFvy278 27 (by decide)).trans ((hFvy31 27 (by decide)).trans ((hFvy28 27 (by decide)).trans (fn rfl (by decide)))))
        have hey295 : Fvy278 28 = F 28 := ((hFvy278 28 (by decide)).trans ((hFvy31 28 (by decide)).trans ((hFvy28 28 (by decide)).trans (fn rfl (by decide)))))
        have hey296 : Fvy278 29 = F 29 := ((hFvy278 29 (by decide)).trans ((hFvy31 29 (by decide)).trans ((hFvy28 29 (by decide)).trans (fn rfl (by decide)))))
        have hKy297 : okF Fvy278 := okF.mv hM.2.1 hey283 hey284 hey285 hey286 hey287 hey288 hey289 hey290 hey291 hey292 hey293 hey294 hey295 hey296
        have hMy298 : okMr cs ad gvy278 i (x + 1) Fvy278 r st op ai fa mu tb tp := okMr.upd hM hcvy278 hKy297 (fun f a => hFy282 f (by omega)) hgy281 (hA.mono (by omega)) (fun j a b => by
            exact Or.inl (by rw [hfvy278 _ (by omega)]; rw [hfvy31 _ (by omega)]; rw [hfvy28 _ (by omega)]; rw [egy25, va_up_ne _ _ (by omega)]))
        have hkpy299 : Fvy278 13 = F 13 := ((hFvy278 13 (by decide)).trans ((hFvy31 13 (by decide)).trans ((hFvy28 13 (by decide)).trans (fn rfl (by decide)))))
        have hkpy300 : Fvy278 14 = F 14 := ((hFvy278 14 (by decide)).trans ((hFvy31 14 (by decide)).trans ((hFvy28 14 (by decide)).trans (fn rfl (by decide)))))
        have hkpy301 : Fvy278 17 = F 17 := ((hFvy278 17 (by decide)).trans ((hFvy31 17 (by decide)).trans ((hFvy28 17 (by decide)).trans (fn rfl (by decide)))))
        have hkpy302 : Fvy278 20 = F 20 := ((hFvy278 20 (by decide)).trans ((hFvy31 20 (by decide)).trans ((hFvy28 20 (by decide)).trans (fn rfl (by decide)))))
        have hkpy303 : Fvy278 21 = F 21 := ((hFvy278 21 (by decide)).trans ((hFvy31 21 (by decide)).trans ((hFvy28 21 (by decide)).trans (fn rfl (by decide)))))
        have hkpy304 : Fvy278 23 = F 23 := ((hFvy278 23 (by decide)).trans ((hFvy31 23 (by decide)).trans ((hFvy28 23 (by decide)).trans (fn rfl (by decide)))))
        have hkpy305 : Fvy278 24 = F 24 := ((hFvy278 24 (by decide)).trans ((hFvy31 24 (by decide)).trans ((hFvy28 24 (by decide)).trans (fn rfl (by decide)))))
        exact z_iret C hr hlk dX10_compare_36 (by decide) (by decide) ⟨0, rfl, rfl, rfl, by omega, ⟨_, _, hMy298, ⟨hkpy299, hkpy300, hkpy301, hkpy302, hkpy303, hkpy304, hkpy305⟩⟩, fun j j1 => by rw [hfvy278 _ (by omega)]; rw [hfvy31 _ (by omega)]; rw [hfvy28 _ (by omega)]; rw [egy25, va_up_ne _ _ (by omega)]⟩
    · refine z_if_eq (tgt := 35) C dX10_compare_18 (by decide) (by omega) (fun _ => ?_) (fun h => absurd h (by omega))
      refine z_iconst (z := 0) C dX10_compare_35 rfl ?_
      have hgy306 := (hfvy31 (i + 1) (ne_o (i := i) (c := 1) (d := 0) rfl)).trans hgy30
      have hFy307 : ∀ f, f ≠ 12 → Fvy31 f = F f := fun f n12 => ((hFvy31 f n12).trans ((hFvy28 f n12).trans ((uZ_n _ _ n12).trans rfl)))
      have hey308 : Fvy31 13 = F 13 := ((hFvy31 13 (by decide)).trans ((hFvy28 13 (by decide)).trans (fn rfl (by decide))))
      have hey309 : Fvy31 14 = F 14 := ((hFvy31 14 (by decide)).trans ((hFvy28 14 (by decide)).trans (fn rfl (by decide))))
      have hey310 : Fvy31 15 = F 15 := ((hFvy31 15 (by decide)).trans ((hFvy28 15 (by decide)).trans (fn rfl (by decide))))
      have hey311 : Fvy31 16 = F 16 := ((hFvy31 16 (by decide)).trans ((hFvy28 16 (by decide)).trans (fn rfl (by decide))))
      have hey312 : Fvy31 17 = F 17 := ((hFvy31 17 (by decide)).trans ((hFvy28 17 (by decide)).trans (fn rfl (by decide))))
      have hey313 : Fvy31 18 = F 18 := ((hFvy31 18 (by decide)).trans ((hFvy28 18 (by decide)).trans (fn rfl (by decide))))
      have hey314 : Fvy31 19 = F 19 := ((hFvy31 19 (by decide)).trans ((hFvy28 19 (by decide)).trans (fn rfl (by decide))))
      have hey315 : Fvy31 20 = F 20 := ((hFvy31 20 (by decide)).trans ((hFvy28 20 (by decide)).trans (fn rfl (by decide))))
      have hey316 : Fvy31 21 = F 21 := ((hFvy31 21 (by decide)).trans ((hFvy28 21 (by decide)).trans (fn rfl (by decide))))
      have hey317 : Fvy31 23 = F 23 := ((hFvy31 23 (by decide)).trans ((hFvy28 23 (by decide)).trans (fn rfl (by decide))))
      have hey318 : Fvy31 25 = F 25 := ((hFvy31 25 (by decide)).trans ((hFvy28 25 (by decide)).trans (fn rfl (by decide))))
      have hey319 : Fvy31 27 = F 27 := ((hFvy31 27 (by decide)).trans ((hFvy28 27 (by decide)).trans (fn rfl (by decide))))
      have hey320 : Fvy31 28 = F 28 := ((hFvy31 28 (by decide)).trans ((hFvy28 28 (by decide)).trans (fn rfl (by decide))))
      have hey321 : Fvy31 29 = F 29 := ((hFvy31 29 (by decide)).trans ((hFvy28 29 (by decide)).trans (fn rfl (by decide))))
      have hKy322 : okF Fvy31 := okF.mv hM.2.1 hey308 hey309 hey310 hey311 hey312 hey313 hey314 hey315 hey316 hey317 hey318 hey319 hey320 hey321
      have hMy323 : okMr cs ad gvy31 i (x + 1) Fvy31 r st op ai fa mu tb tp := okMr.upd hM hcvy31 hKy322 (fun f a => hFy307 f (by omega)) hgy306 (hA.mono (by omega)) (fun j a b => by
          exact Or.inl (by rw [hfvy31 _ (by omega)]; rw [hfvy28 _ (by omega)]; rw [egy25, va_up_ne _ _ (by omega)]))
      have hkpy324 : Fvy31 13 = F 13 := ((hFvy31 13 (by decide)).trans ((hFvy28 13 (by decide)).trans (fn rfl (by decide))))
      have hkpy325 : Fvy31 14 = F 14 := ((hFvy31 14 (by decide)).trans ((hFvy28 14 (by decide)).trans (fn rfl (by decide))))
      have hkpy326 : Fvy31 17 = F 17 := ((hFvy31 17 (by decide)).trans ((hFvy28 17 (by decide)).trans (fn rfl (by decide))))
      have hkpy327 : Fvy31 20 = F 20 := ((hFvy31 20 (by decide)).trans ((hFvy28 20 (by decide)).trans (fn rfl (by decide))))
      have hkpy328 : Fvy31 21 = F 21 := ((hFvy31 21 (by decide)).trans ((hFvy28 21 (by decide)).trans (fn rfl (by decide))))
      have hkpy329 : Fvy31 23 = F 23 := ((hFvy31 23 (by decide)).trans ((hFvy28 23 (by decide)).trans (fn rfl (by decide))))
      have hkpy330 : Fvy31 24 = F 24 := ((hFvy31 24 (by decide)).trans ((hFvy28 24 (by decide)).trans (fn rfl (by decide))))
      exact z_iret C hr hlk dX10_compare_36 (by decide) (by decide) ⟨0, rfl, rfl, rfl, by omega, ⟨_, _, hMy323, ⟨hkpy324, hkpy325, hkpy326, hkpy327, hkpy328, hkpy329, hkpy330⟩⟩, fun j j1 => by rw [hfvy31 _ (by omega)]; rw [hfvy28 _ (by omega)]; rw [egy25, va_up_ne _ _ (by omega)]⟩
  · refine z_if_eq (tgt := 35) C dX10_compare_10 (by decide) (by omega) (fun _ => ?_) (fun h => absurd h (by omega))
    refine z_iconst (z := 0) C dX10_compare_35 rfl ?_
    have hgy331 := (hfvy28 (i + 1) (ne_o (i := i) (c := 1) (d := 0) rfl)).trans hgy27
    have hFy332 : ∀ f, f ≠ 12 → Fvy28 f = F f := fun f n12 => ((hFvy28 f n12).trans ((uZ_n _ _ n12).trans rfl))
    have hey333 : Fvy28 13 = F 13 := ((hFvy28 13 (by decide)).trans (fn rfl (by decide)))
    have hey334 : Fvy28 14 = F 14 := ((hFvy28 14 (by decide)).trans (fn rfl (by decide)))
    have hey335 : Fvy28 15 = F 15 := ((hFvy28 15 (by decide)).trans (fn rfl (by decide)))
    have hey336 : Fvy28 16 = F 16 := ((hFvy28 16 (by decide)).trans (fn rfl (by decide)))
    have hey337 : Fvy28 17 = F 17 := ((hFvy28 17 (by decide)).trans (fn rfl (by decide)))
    have hey338 : Fvy28 18 = F 18 := ((hFvy28 18 (by decide)).trans (fn rfl (by decide)))
    have hey339 : Fvy28 19 = F 19 := ((hFvy28 19 (by decide)).trans (fn rfl (by decide)))
    have hey340 : Fvy28 20 = F 20 := ((hFvy28 20 (by decide)).trans (fn rfl (by decide)))
    have hey341 : Fvy28 21 = F 21 := ((hFvy28 21 (by decide)).trans (fn rfl (by decide)))
    have hey342 : Fvy28 23 = F 23 := ((hFvy28 23 (by decide)).trans (fn rfl (by decide)))
    have hey343 : Fvy28 25 = F 25 := ((hFvy28 25 (by decide)).trans (fn rfl (by decide)))
    have hey344 : Fvy28 27 = F 27 := ((hFvy28 27 (by decide)).trans (fn rfl (by decide)))
    have hey345 : Fvy28 28 = F 28 := ((hFvy28 28 (by decide)).trans (fn rfl (by decide)))
    have hey346 : Fvy28 29 = F 29 := ((hFvy28 29 (by decide)).trans (fn rfl (by decide)))
    have hKy347 : okF Fvy28 := okF.mv hM.2.1 hey333 hey334 hey335 hey336 hey337 hey338 hey339 hey340 hey341 hey342 hey343 hey344 hey345 hey346
    have hMy348 : okMr cs ad gvy28 i (x + 1) Fvy28 r st op ai fa mu tb tp := okMr.upd hM hcvy28 hKy347 (fun f a => hFy332 f (by omega)) hgy331 (hA.mono (by omega)) (fun j a b => by
        exact Or.inl (by rw [hfvy28 _ (by omega)]; rw [egy25, va_up_ne _ _ (by omega)]))
    have hkpy349 : Fvy28 13 = F 13 := ((hFvy28 13 (by decide)).trans (fn rfl (by decide)))
    have hkpy350 : Fvy28 14 = F 14 := ((hFvy28 14 (by decide)).trans (fn rfl (by decide)))
    have hkpy351 : Fvy28 17 = F 17 := ((hFvy28 17 (by decide)).trans (fn rfl (by decide)))
    have hkpy352 : Fvy28 20 = F 20 := ((hFvy28 20 (by decide)).trans (fn rfl (by decide)))
    have hkpy353 : Fvy28 21 = F 21 := ((hFvy28 21 (by decide)).trans (fn rfl (by decide)))
    have hkpy354 : Fvy28 23 = F 23 := ((hFvy28 23 (by decide)).trans (fn rfl (by decide)))
    have hkpy355 : Fvy28 24 = F 24 := ((hFvy28 24 (by decide)).trans (fn rfl (by decide)))
    exact z_iret C hr hlk dX10_compare_36 (by decide) (by decide) ⟨0, rfl, rfl, rfl, by omega, ⟨_, _, hMy348, ⟨hkpy349, hkpy350, hkpy351, hkpy352, hkpy353, hkpy354, hkpy355⟩⟩, fun j j1 => by rw [hfvy28 _ (by omega)]; rw [egy25, va_up_ne _ _ (by omega)]⟩

set_option maxRecDepth 100000 in
set_option maxHeartbeats 4000000 in
theorem c_X10_compare_ab (l : Launch) (D : va_G) (A : Nat → Prop) (cs : Nat → ClassId) (tt : Nat) (N : Nat) (ad : Nat → Nat) (g : Nat → va_E) (i : Nat) (hN : i + 30 ≤ N) (x : Int) (hx : 0 ≤ x ∧ x ≤ 512) (F r : Nat → Int) {st op ai fa mu tb tp : Nat → Int} (hM : okMr cs ad g i x F r st op ai fa mu tb tp) (n0 : Nat) (hn0 : n0 < 6) (z1 : Int) (hz1 : -2147483648 ≤ z1 ∧ z1 ≤ 2147483647) (ho1 : z1 < 0 ∨ 5 < z1) (z2 : Int) (hz2 : -2147483648 ≤ z2 ∧ z2 ≤ 2147483647) : zM l yX10_compare cX10_compare 4 (some .int) ({ frames := 10, cells := 0, slots := 0, locals := 600 } : Room) D A cs tt N ad g [.ref (ad i), .int (zI ((n0 : Int))), .int (zI (z1)), .int (zI (z2))] (rI0 N ad fun q g' => (-2147483648 ≤ q ∧ q ≤ 2147483647) ∧ (∃ F' r' : Nat → Int, okMr cs ad g' i (x + 1) F' r' st op ai fa mu tb tp ∧ (F' 13 = F 13 ∧ F' 14 = F 14 ∧ F' 17 = F 17 ∧ F' 20 = F 20 ∧ F' 21 = F 21 ∧ F' 23 = F 23 ∧ F' 24 = F 24)) ∧ ∀ j, j < i ∨ i + 30 ≤ j → g' j = g j) := by
  obtain ⟨hg, ⟨⟨e13, e14, e25, e27, e29⟩, k15, k16, k17, k18, k19, k20, k23, k21⟩, hRD, hTx, hA, ns, nh, nd, rf, pi, te, ki, li, ok1, ok2, fo, dd, dps, ⟨ha1, ha2, ha3, ha4, ha5, ha6, ha7, ha8, ha9, ha10, ha11, ha12, ha13, ha14, ha15, ha24, ha25, ha26, ha27, ha28, ha29⟩, hEv, hPt, hns, htp⟩ := id hM
  obtain ⟨-, hop, hai, hfa, hT, hT1⟩ := id hEv
  have hay1 : zAt ad (i) (ad i) := rfl
  have hay2 : zAt ad (i + 1) (ad (i + 1)) := rfl
  have hay3 : zAt ad (i + 2) (ad (i + 2)) := rfl
  have hay4 : zAt ad (i + 3) (ad (i + 3)) := rfl
  have hay5 : zAt ad (i + 4) (ad (i + 4)) := rfl
  have hay6 : zAt ad (i + 5) (ad (i + 5)) := rfl
  have hay7 : zAt ad (i + 6) (ad (i + 6)) := rfl
  have hay8 : zAt ad (i + 7) (ad (i + 7)) := rfl
  have hay9 : zAt ad (i + 8) (ad (i + 8)) := rfl
  have hay10 : zAt ad (i + 9) (ad (i + 9)) := rfl
  have hay11 : zAt ad (i + 10) (ad (i + 10)) := rfl
  have hay12 : zAt ad (i + 11) (ad (i + 11)) := rfl
  have hay13 : zAt ad (i + 12) (ad (i + 12)) := rfl
  have hay14 : zAt ad (i + 13) (ad (i + 13)) := rfl
  have hay15 : zAt ad (i + 14) (ad (i + 14)) := rfl
  have hay16 : zAt ad (i + 15) (ad (i + 15)) := rfl
  have hay17 : zAt ad (i + 24) (ad (i + 24)) := rfl
  have hay18 : zAt ad (i + 25) (ad (i + 25)) := rfl
  have hay19 : zAt ad (i + 26) (ad (i + 26)) := rfl
  have hay20 : zAt ad (i + 27) (ad (i + 27)) := rfl
  have hay21 : zAt ad (i + 28) (ad (i + 28)) := rfl
  have hay22 : zAt ad (i + 29) (ad (i + 29)) := rfl
  obtain ⟨⟨hsyy23, htyy23, hnyy23, hpyy23⟩, hlyy23⟩ := okA.at0 hA
  simp only [Nat.zero_add] at hsyy23 hnyy23 hpyy23
  have hmn : ∀ s, s < 4 → 0 ≤ r (6 + 86 * s) ∧ r (6 + 86 * s) ≤ 12 := fun s hs => (hsyy23 s hs).1
  have h5 : 0 ≤ r 5 ∧ r 5 ≤ 6 := hpyy23
  refine z_of (by decide) (Nat.le_of_ble_eq_true rfl) ?_
  intro pZ eZ sZ mZ below meth cZ C hr hlk hnm
  refine z_lv (lv' := [(0, .ref (ad i)), (1, .int (zI ((n0 : Int)))), (2, .int (zI (z1))), (3, .int (zI (z2)))]) [0, 1, 2, 3] rfl ?_
  refine z_aload_n C 0 dX10_compare_0 rfl ?_
  refine z_iconst (z := 0) C dX10_compare_1 rfl ?_
  refine z_put (fs' := mF ad (i) (uZ F 12 (0))) C (lt_A0 hN rfl) hay1 hg tyX10 tyX10_ok nmX10 rfl inA_X10 12 (by decide) q_1471 rfl rfl rfl rfl (Nat.le_of_ble_eq_true rfl) rfl dX10_compare_2 (fun gy24 egy25 => ?_)
  have hgy26 := up_s egy25
  refine z_aload_n C 0 dX10_compare_5 rfl ?_
  refine z_iload_n C 1 dX10_compare_6 rfl ?_
  have hgy27 := up_n egy25 ha1 (ne_o (i := i) (c := 1) (d := 0) rfl)
  have hey29 : (uZ F 12 (0)) 12 = 0 := (uZ_s _ _ _)
  refine z_cV (As := [.int (zI ((n0 : Int)))]) (rest := []) (ci := 12) C (c_X10_isPit l D A cs tt N ad _ i hN _ hgy26 _ hgy27 (by omega) h5 ((n0 : Int)) (by omega)) (lt_A0 hN rfl) hay1 hgy26 rfl rfl mv_yX10_isPit q_2027 hd_yX10_isPit (by decide) (Nat.le_of_ble_eq_true rfl) (by decide) dX10_compare_7 rfl (kI0 fun vy28 gvy28 hvy28 => ?_)
  obtain ⟨hrvy28, ⟨Fvy28, hcvy28, htvy28, hFvy28⟩, hfvy28⟩ := hvy28
  rcases (show vy28 = 1 ∨ vy28 = 0 by omega) with rfl | rfl
  · have hxvy28 := hrvy28.2 rfl
    refine z_if_eq (tgt := 35) C dX10_compare_10 (by decide) (by omega) (fun h => absurd h (by omega)) (fun _ => ?_)
    refine z_aload_n C 0 dX10_compare_13 rfl ?_
    refine z_iload_n C 2 dX10_compare_14 rfl ?_
    have hgy30 := (hfvy28 (i + 1) (ne_o (i := i) (c := 1) (d := 0) rfl)).trans hgy27
    have hey32 : Fvy28 12 = Fvy28 12 := rfl
    refine z_cV (As := [.int (zI (z1))]) (rest := []) (ci := 12) C (c_X10_isPit l D A cs tt N ad _ i hN _ hcvy28 _ hgy30 (by omega) h5 (z1) (by omega)) (lt_A0 hN rfl) hay1 hcvy28 rfl rfl mv_yX10_isPit q_2027 hd_yX10_isPit (by decide) (Nat.le_of_ble_eq_true rfl) (by decide) dX10_compare_15 rfl (kI0 fun vy31 gvy31 hvy31 => ?_)
    obtain ⟨hrvy31, ⟨Fvy31, hcvy31, htvy31, hFvy31⟩, hfvy31⟩ := hvy31
    obtain rfl : vy31 = 0 := by omega
    refine z_if_eq (tgt := 35) C dX10_compare_18 (by decide) (by omega) (fun _ => ?_) (fun h => absurd h (by omega))
    refine z_iconst (z := 0) C dX10_compare_35 rfl ?_
    have hgy33 := (hfvy31 (i + 1) (ne_o (i := i) (c := 1) (d := 0) rfl)).trans hgy30
    have hFy34 : ∀ f, f ≠ 12 → Fvy31 f = F f := fun f n12 => ((hFvy31 f n12).trans ((hFvy28 f n12).trans ((uZ_n _ _ n12).trans rfl)))
    have hey35 : Fvy31 13 = F 13 := ((hFvy31 13 (by decide)).trans ((hFvy28 13 (by decide)).trans (fn rfl (by decide))))
    have hey36 : Fvy31 14 = F 14 := ((hFvy31 14 (by decide)).trans ((hFvy28 14 (by decide)).trans (fn rfl (by decide))))
    have hey37 : Fvy31 15 = F 15 := ((hFvy31 15 (by decide)).trans ((hFvy28 15 (by decide)).trans (fn rfl (by decide))))
    have hey38 : Fvy31 16 = F 16 := ((hFvy31 16 (by decide)).trans ((hFvy28 16 (by decide)).trans (fn rfl (by decide))))
    have hey39 : Fvy31 17 = F 17 := ((hFvy31 17 (by decide)).trans ((hFvy28 17 (by decide)).trans (fn rfl (by decide))))
    have hey40 : Fvy31 18 = F 18 := ((hFvy31 18 (by decide)).trans ((hFvy28 18 (by decide)).trans (fn rfl (by decide))))
    have hey41 : Fvy31 19 = F 19 := ((hFvy31 19 (by decide)).trans ((hFvy28 19 (by decide)).trans (fn rfl (by decide))))
    have hey42 : Fvy31 20 = F 20 := ((hFvy31 20 (by decide)).trans ((hFvy28 20 (by decide)).trans (fn rfl (by decide))))
    have hey43 : Fvy31 21 = F 21 := ((hFvy31 21 (by decide)).trans ((hFvy28 21 (by decide)).trans (fn rfl (by decide))))
    have hey44 : Fvy31 23 = F 23 := ((hFvy31 23 (by decide)).trans ((hFvy28 23 (by decide)).trans (fn rfl (by decide))))
    have hey45 : Fvy31 25 = F 25 := ((hFvy31 25 (by decide)).trans ((hFvy28 25 (by decide)).trans (fn rfl (by decide))))
    have hey46 : Fvy31 27 = F 27 := ((hFvy31 27 (by decide)).trans ((hFvy28 27 (by decide)).trans (fn rfl (by decide))))
    have hey47 : Fvy31 28 = F 28 := ((hFvy31 28 (by decide)).trans ((hFvy28 28 (by decide)).trans (fn rfl (by decide))))
    have hey48 : Fvy31 29 = F 29 := ((hFvy31 29 (by decide)).trans ((hFvy28 29 (by decide)).trans (fn rfl (by decide))))
    have hKy49 : okF Fvy31 := okF.mv hM.2.1 hey35 hey36 hey37 hey38 hey39 hey40 hey41 hey42 hey43 hey44 hey45 hey46 hey47 hey48
    have hMy50 : okMr cs ad gvy31 i (x + 1) Fvy31 r st op ai fa mu tb tp := okMr.upd hM hcvy31 hKy49 (fun f a => hFy34 f (by omega)) hgy33 (hA.mono (by omega)) (fun j a b => by
        exact Or.inl (by rw [hfvy31 _ (by omega)]; rw [hfvy28 _ (by omega)]; rw [egy25, va_up_ne _ _ (by omega)]))
    have hkpy51 : Fvy31 13 = F 13 := ((hFvy31 13 (by decide)).trans ((hFvy28 13 (by decide)).trans (fn rfl (by decide))))
    have hkpy52 : Fvy31 14 = F 14 := ((hFvy31 14 (by decide)).trans ((hFvy28 14 (by decide)).trans (fn rfl (by decide))))
    have hkpy53 : Fvy31 17 = F 17 := ((hFvy31 17 (by decide)).trans ((hFvy28 17 (by decide)).trans (fn rfl (by decide))))
    have hkpy54 : Fvy31 20 = F 20 := ((hFvy31 20 (by decide)).trans ((hFvy28 20 (by decide)).trans (fn rfl (by decide))))
    have hkpy55 : Fvy31 21 = F 21 := ((hFvy31 21 (by decide)).trans ((hFvy28 21 (by decide)).trans (fn rfl (by decide))))
    have hkpy56 : Fvy31 23 = F 23 := ((hFvy31 23 (by decide)).trans ((hFvy28 23 (by decide)).trans (fn rfl (by decide))))
    have hkpy57 : Fvy31 24 = F 24 := ((hFvy31 24 (by decide)).trans ((hFvy28 24 (by decide)).trans (fn rfl (by decide))))
    exact z_iret C hr hlk dX10_compare_36 (by decide) (by decide) ⟨0, rfl, rfl, rfl, by omega, ⟨_, _, hMy50, ⟨hkpy51, hkpy52, hkpy53, hkpy54, hkpy55, hkpy56, hkpy57⟩⟩, fun j j1 => by rw [hfvy31 _ (by omega)]; rw [hfvy28 _ (by omega)]; rw [egy25, va_up_ne _ _ (by omega)]⟩
  · refine z_if_eq (tgt := 35) C dX10_compare_10 (by decide) (by omega) (fun _ => ?_) (fun h => absurd h (by omega))
    refine z_iconst (z := 0) C dX10_compare_35 rfl ?_
    have hgy58 := (hfvy28 (i + 1) (ne_o (i := i) (c := 1) (d := 0) rfl)).trans hgy27
    have hFy59 : ∀ f, f ≠ 12 → Fvy28 f = F f := fun f n12 => ((hFvy28 f n12).trans ((uZ_n _ _ n12).trans rfl))
    have hey60 : Fvy28 13 = F 13 := ((hFvy28 13 (by decide)).trans (fn rfl (by decide)))
    have hey61 : Fvy28 14 = F 14 := ((hFvy28 14 (by decide)).trans (fn rfl (by decide)))
    have hey62 : Fvy28 15 = F 15 := ((hFvy28 15 (by decide)).trans (fn rfl (by decide)))
    have hey63 : Fvy28 16 = F 16 := ((hFvy28 16 (by decide)).trans (fn rfl (by decide)))
    have hey64 : Fvy28 17 = F 17 := ((hFvy28 17 (by decide)).trans (fn rfl (by decide)))
    have hey65 : Fvy28 18 = F 18 := ((hFvy28 18 (by decide)).trans (fn rfl (by decide)))
    have hey66 : Fvy28 19 = F 19 := ((hFvy28 19 (by decide)).trans (fn rfl (by decide)))
    have hey67 : Fvy28 20 = F 20 := ((hFvy28 20 (by decide)).trans (fn rfl (by decide)))
    have hey68 : Fvy28 21 = F 21 := ((hFvy28 21 (by decide)).trans (fn rfl (by decide)))
    have hey69 : Fvy28 23 = F 23 := ((hFvy28 23 (by decide)).trans (fn rfl (by decide)))
    have hey70 : Fvy28 25 = F 25 := ((hFvy28 25 (by decide)).trans (fn rfl (by decide)))
    have hey71 : Fvy28 27 = F 27 := ((hFvy28 27 (by decide)).trans (fn rfl (by decide)))
    have hey72 : Fvy28 28 = F 28 := ((hFvy28 28 (by decide)).trans (fn rfl (by decide)))
    have hey73 : Fvy28 29 = F 29 := ((hFvy28 29 (by decide)).trans (fn rfl (by decide)))
    have hKy74 : okF Fvy28 := okF.mv hM.2.1 hey60 hey61 hey62 hey63 hey64 hey65 hey66 hey67 hey68 hey69 hey70 hey71 hey72 hey73
    have hMy75 : okMr cs ad gvy28 i (x + 1) Fvy28 r st op ai fa mu tb tp := okMr.upd hM hcvy28 hKy74 (fun f a => hFy59 f (by omega)) hgy58 (hA.mono (by omega)) (fun j a b => by
        exact Or.inl (by rw [hfvy28 _ (by omega)]; rw [egy25, va_up_ne _ _ (by omega)]))
    have hkpy76 : Fvy28 13 = F 13 := ((hFvy28 13 (by decide)).trans (fn rfl (by decide)))
    have hkpy77 : Fvy28 14 = F 14 := ((hFvy28 14 (by decide)).trans (fn rfl (by decide)))
    have hkpy78 : Fvy28 17 = F 17 := ((hFvy28 17 (by decide)).trans (fn rfl (by decide)))
    have hkpy79 : Fvy28 20 = F 20 := ((hFvy28 20 (by decide)).trans (fn rfl (by decide)))
    have hkpy80 : Fvy28 21 = F 21 := ((hFvy28 21 (by decide)).trans (fn rfl (by decide)))
    have hkpy81 : Fvy28 23 = F 23 := ((hFvy28 23 (by decide)).trans (fn rfl (by decide)))
    have hkpy82 : Fvy28 24 = F 24 := ((hFvy28 24 (by decide)).trans (fn rfl (by decide)))
    exact z_iret C hr hlk dX10_compare_36 (by decide) (by decide) ⟨0, rfl, rfl, rfl, by omega, ⟨_, _, hMy75, ⟨hkpy76, hkpy77, hkpy78, hkpy79, hkpy80, hkpy81, hkpy82⟩⟩, fun j j1 => by rw [hfvy28 _ (by omega)]; rw [egy25, va_up_ne _ _ (by omega)]⟩

set_option maxRecDepth 100000 in
set_option maxHeartbeats 4000000 in
theorem c_X10_compare_ba (l : Launch) (D : va_G) (A : Nat → Prop) (cs : Nat → ClassId) (tt : Nat) (N : Nat) (ad : Nat → Nat) (g : Nat → va_E) (i : Nat) (hN : i + 30 ≤ N) (x : Int) (hx : 0 ≤ x ∧ x ≤ 512) (F r : Nat → Int) {st op ai fa mu tb tp : Nat → Int} (hM : okMr cs ad g i x F r st op ai fa mu tb tp) (z : Int) (hz : -2147483648 ≤ z ∧ z ≤ 2147483647) (ho0 : z < 0 ∨ 5 < z) (n1 : Nat) (hn1 : n1 < 6) (z2 : Int) (hz2 : -2147483648 ≤ z2 ∧ z2 ≤ 2147483647) : zM l yX10_compare cX10_compare 4 (some .int) ({ frames := 10, cells := 0, slots := 0, locals := 600 } : Room) D A cs tt N ad g [.ref (ad i), .int (zI (z)), .int (zI ((n1 : Int))), .int (zI (z2))] (rI0 N ad fun q g' => (-2147483648 ≤ q ∧ q ≤ 2147483647) ∧ (∃ F' r' : Nat → Int, okMr cs ad g' i (x + 1) F' r' st op ai fa mu tb tp ∧ (F' 13 = F 13 ∧ F' 14 = F 14 ∧ F' 17 = F 17 ∧ F' 20 = F 20 ∧ F' 21 = F 21 ∧ F' 23 = F 23 ∧ F' 24 = F 24)) ∧ ∀ j, j < i ∨ i + 30 ≤ j → g' j = g j) := by
  obtain ⟨hg, ⟨⟨e13, e14, e25, e27, e29⟩, k15, k16, k17, k18, k19, k20, k23, k21⟩, hRD, hTx, hA, ns, nh, nd, rf, pi, te, ki, li, ok1, ok2, fo, dd, dps, ⟨ha1, ha2, ha3, ha4, ha5, ha6, ha7, ha8, ha9, ha10, ha11, ha12, ha13, ha14, ha15, ha24, ha25, ha26, ha27, ha28, ha29⟩, hEv, hPt, hns, htp⟩ := id hM
  obtain ⟨-, hop, hai, hfa, hT, hT1⟩ := id hEv
  have hay1 : zAt ad (i) (ad i) := rfl
  have hay2 : zAt ad (i + 1) (ad (i + 1)) := rfl
  have hay3 : zAt ad (i + 2) (ad (i + 2)) := rfl
  have hay4 : zAt ad (i + 3) (ad (i + 3)) := rfl
  have hay5 : zAt ad (i + 4) (ad (i + 4)) := rfl
  have hay6 : zAt ad (i + 5) (ad (i + 5)) := rfl
  have hay7 : zAt ad (i + 6) (ad (i + 6)) := rfl
  have hay8 : zAt ad (i + 7) (ad (i + 7)) := rfl
  have hay9 : zAt ad (i + 8) (ad (i + 8)) := rfl
  have hay10 : zAt ad (i + 9) (ad (i + 9)) := rfl
  have hay11 : zAt ad (i + 10) (ad (i + 10)) := rfl
  have hay12 : zAt ad (i + 11) (ad (i + 11)) := rfl
  have hay13 : zAt ad (i + 12) (ad (i + 12)) := rfl
  have hay14 : zAt ad (i + 13) (ad (i + 13)) := rfl
  have hay15 : zAt ad (i + 14) (ad (i + 14)) := rfl
  have hay16 : zAt ad (i + 15) (ad (i + 15)) := rfl
  have hay17 : zAt ad (i + 24) (ad (i + 24)) := rfl
  have hay18 : zAt ad (i + 25) (ad (i + 25)) := rfl
  have hay19 : zAt ad (i + 26) (ad (i + 26)) := rfl
  have hay20 : zAt ad (i + 27) (ad (i + 27)) := rfl
  have hay21 : zAt ad (i + 28) (ad (i + 28)) := rfl
  have hay22 : zAt ad (i + 29) (ad (i + 29)) := rfl
  obtain ⟨⟨hsyy23, htyy23, hnyy23, hpyy23⟩, hlyy23⟩ := okA.at0 hA
  simp only [Nat.zero_add] at hsyy23 hnyy23 hpyy23
  have hmn : ∀ s, s < 4 → 0 ≤ r (6 + 86 * s) ∧ r (6 + 86 * s) ≤ 12 := fun s hs => (hsyy23 s hs).1
  have h5 : 0 ≤ r 5 ∧ r 5 ≤ 6 := hpyy23
  refine z_of (by decide) (Nat.le_of_ble_eq_true rfl) ?_
  intro pZ eZ sZ mZ below meth cZ C hr hlk hnm
  refine z_lv (lv' := [(0, .ref (ad i)), (1, .int (zI (z))), (2, .int (zI ((n1 : Int)))), (3, .int (zI (z2)))]) [0, 1, 2, 3] rfl ?_
  refine z_aload_n C 0 dX10_compare_0 rfl ?_
  refine z_iconst (z := 0) C dX10_compare_1 rfl ?_
  refine z_put (fs' := mF ad (i) (uZ F 12 (0))) C (lt_A0 hN rfl) hay1 hg tyX10 tyX10_ok nmX10 rfl inA_X10 12 (by decide) q_1471 rfl rfl rfl rfl (Nat.le_of_ble_eq_true rfl) rfl dX10_compare_2 (fun gy24 egy25 => ?_)
  have hgy26 := up_s egy25
  refine z_aload_n C 0 dX10_compare_5 rfl ?_
  refine z_iload_n C 1 dX10_compare_6 rfl ?_
  have hgy27 := up_n egy25 ha1 (ne_o (i := i) (c := 1) (d := 0) rfl)
  have hey29 : (uZ F 12 (0)) 12 = 0 := (uZ_s _ _ _)
  refine z_cV (As := [.int (zI (z))]) (rest := []) (ci := 12) C (c_X10_isPit l D A cs tt N ad _ i hN _ hgy26 _ hgy27 (by omega) h5 (z) (by omega)) (lt_A0 hN rfl) hay1 hgy26 rfl rfl mv_yX10_isPit q_2027 hd_yX10_isPit (by decide) (Nat.le_of_ble_eq_true rfl) (by decide) dX10_compare_7 rfl (kI0 fun vy28 gvy28 hvy28 => ?_)
  obtain ⟨hrvy28, ⟨Fvy28, hcvy28, htvy28, hFvy28⟩, hfvy28⟩ := hvy28
  obtain rfl : vy28 = 0 := by omega
  refine z_if_eq (tgt := 35) C dX10_compare_10 (by decide) (by omega) (fun _ => ?_) (fun h => absurd h (by omega))
  refine z_iconst (z := 0) C dX10_compare_35 rfl ?_
  have hgy30 := (hfvy28 (i + 1) (ne_o (i := i) (c := 1) (d := 0) rfl)).trans hgy27
  have hFy31 : ∀ f, f ≠ 12 → Fvy28 f = F f := fun f n12 => ((hFvy28 f n12).trans ((uZ_n _ _ n12).trans rfl))
  have hey32 : Fvy28 13 = F 13 := ((hFvy28 13 (by decide)).trans (fn rfl (by decide)))
  have hey33 : Fvy28 14 = F 14 := ((hFvy28 14 (by decide)).trans (fn rfl (by decide)))
  have hey34 : Fvy28 15 = F 15 := ((hFvy28 15 (by decide)).trans (fn rfl (by decide)))
  have hey35 : Fvy28 16 = F 16 := ((hFvy28 16 (by decide)).trans (fn rfl (by decide)))
  have hey36 : Fvy28 17 = F 17 := ((hFvy28 17 (by decide)).trans (fn rfl (by decide)))
  have hey37 : Fvy28 18 = F 18 := ((hFvy28 18 (by decide)).trans (fn rfl (by decide)))
  have hey38 : Fvy28 19 = F 19 := ((hFvy28 19 (by decide)).trans (fn rfl (by decide)))
  have hey39 : Fvy28 20 = F 20 := ((hFvy28 20 (by decide)).trans (fn rfl (by decide)))
  have hey40 : Fvy28 21 = F 21 := ((hFvy28 21 (by decide)).trans (fn rfl (by decide)))
  have hey41 : Fvy28 23 = F 23 := ((hFvy28 23 (by decide)).trans (fn rfl (by decide)))
  have hey42 : Fvy28 25 = F 25 := ((hFvy28 25 (by decide)).trans (fn rfl (by decide)))
  have hey43 : Fvy28 27 = F 27 := ((hFvy28 27 (by decide)).trans (fn rfl (by decide)))
  have hey44 : Fvy28 28 = F 28 := ((hFvy28 28 (by decide)).trans (fn rfl (by decide)))
  have hey45 : Fvy28 29 = F 29 := ((hFvy28 29 (by decide)).trans (fn rfl (by decide)))
  have hKy46 : okF Fvy28 := okF.mv hM.2.1 hey32 hey33 hey34 hey35 hey36 hey37 hey38 hey39 hey40 hey41 hey42 hey43 hey44 hey45
  have hMy47 : okMr cs ad gvy28 i (x + 1) Fvy28 r st op ai fa mu tb tp := okMr.upd hM hcvy28 hKy46 (fun f a => hFy31 f (by omega)) hgy30 (hA.mono (by omega)) (fun j a b => by
      exact Or.inl (by rw [hfvy28 _ (by omega)]; rw [egy25, va_up_ne _ _ (by omega)]))
  have hkpy48 : Fvy28 13 = F 13 := ((hFvy28 13 (by decide)).trans (fn rfl (by decide)))
  have hkpy49 : Fvy28 14 = F 14 := ((hFvy28 14 (by decide)).trans (fn rfl (by decide)))
  have hkpy50 : Fvy28 17 = F 17 := ((hFvy28 17 (by decide)).trans (fn rfl (by decide)))
  have hkpy51 : Fvy28 20 = F 20 := ((hFvy28 20 (by decide)).trans (fn rfl (by decide)))
  have hkpy52 : Fvy28 21 = F 21 := ((hFvy28 21 (by decide)).trans (fn rfl (by decide)))
  have hkpy53 : Fvy28 23 = F 23 := ((hFvy28 23 (by decide)).trans (fn rfl (by decide)))
  have hkpy54 : Fvy28 24 = F 24 := ((hFvy28 24 (by decide)).trans (fn rfl (by decide)))
  exact z_iret C hr hlk dX10_compare_36 (by decide) (by decide) ⟨0, rfl, rfl, rfl, by omega, ⟨_, _, hMy47, ⟨hkpy48, hkpy49, hkpy50, hkpy51, hkpy52, hkpy53, hkpy54⟩⟩, fun j j1 => by rw [hfvy28 _ (by omega)]; rw [egy25, va_up_ne _ _ (by omega)]⟩

set_option maxRecDepth 100000 in
set_option maxHeartbeats 4000000 in
theorem c_X10_compare_bb (l : Launch) (D : va_G) (A : Nat → Prop) (cs : Nat → ClassId) (tt : Nat) (N : Nat) (ad : Nat → Nat) (g : Nat → va_E) (i : Nat) (hN : i + 30 ≤ N) (x : Int) (hx : 0 ≤ x ∧ x ≤ 512) (F r : Nat → Int) {st op ai fa mu tb tp : Nat → Int} (hM : okMr cs ad g i x F r st op ai fa mu tb tp) (z : Int) (hz : -2147483648 ≤ z ∧ z ≤ 2147483647) (ho0 : z < 0 ∨ 5 < z) (z1 : Int) (hz1 : -2147483648 ≤ z1 ∧ z1 ≤ 2147483647) (ho1 : z1 < 0 ∨ 5 < z1) (z2 : Int) (hz2 : -2147483648 ≤ z2 ∧ z2 ≤ 2147483647) : zM l yX10_compare cX10_compare 4 (some .int) ({ frames := 10, cells := 0, slots := 0, locals := 600 } : Room) D A cs tt N ad g [.ref (ad i), .int (zI (z)), .int (zI (z1)), .int (zI (z2))] (rI0 N ad fun q g' => (-2147483648 ≤ q ∧ q ≤ 2147483647) ∧ (∃ F' r' : Nat → Int, okMr cs ad g' i (x + 1) F' r' st op ai fa mu tb tp ∧ (F' 13 = F 13 ∧ F' 14 = F 14 ∧ F' 17 = F 17 ∧ F' 20 = F 20 ∧ F' 21 = F 21 ∧ F' 23 = F 23 ∧ F' 24 = F 24)) ∧ ∀ j, j < i ∨ i + 30 ≤ j → g' j = g j) := by
  obtain ⟨hg, ⟨⟨e13, e14, e25, e27, e29⟩, k15, k16, k17, k18, k19, k20, k23, k21⟩, hRD, hTx, hA, ns, nh, nd, rf, pi, te, ki, li, ok1, ok2, fo, dd, dps, ⟨ha1, ha2, ha3, ha4, ha5, ha6, ha7, ha8, ha9, ha10, ha11, ha12, ha13, ha14, ha15, ha24, ha25, ha26, ha27, ha28, ha29⟩, hEv, hPt, hns, htp⟩ := id hM
  obtain ⟨-, hop, hai, hfa, hT, hT1⟩ := id hEv
  have hay1 : zAt ad (i) (ad i) := rfl
  have hay2 : zAt ad (i + 1) (ad (i + 1)) := rfl
  have hay3 : zAt ad (i + 2) (ad (i + 2)) := rfl
  have hay4 : zAt ad (i + 3) (ad (i + 3)) := rfl
  have hay5 : zAt ad (i + 4) (ad (i + 4)) := rfl
  have hay6 : zAt ad (i + 5) (ad (i + 5)) := rfl
  have hay7 : zAt ad (i + 6) (ad (i + 6)) := rfl
  have hay8 : zAt ad (i + 7) (ad (i + 7)) := rfl
  have hay9 : zAt ad (i + 8) (ad (i + 8)) := rfl
  have hay10 : zAt ad (i + 9) (ad (i + 9)) := rfl
  have hay11 : zAt ad (i + 10) (ad (i + 10)) := rfl
  have hay12 : zAt ad (i + 11) (ad (i + 11)) := rfl
  have hay13 : zAt ad (i + 12) (ad (i + 12)) := rfl
  have hay14 : zAt ad (i + 13) (ad (i + 13)) := rfl
  have hay15 : zAt ad (i + 14) (ad (i + 14)) := rfl
  have hay16 : zAt ad (i + 15) (ad (i + 15)) := rfl
  have hay17 : zAt ad (i + 24) (ad (i + 24)) := rfl
  have hay18 : zAt ad (i + 25) (ad (i + 25)) := rfl
  have hay19 : zAt ad (i + 26) (ad (i + 26)) := rfl
  have hay20 : zAt ad (i + 27) (ad (i + 27)) := rfl
  have hay21 : zAt ad (i + 28) (ad (i + 28)) := rfl
  have hay22 : zAt ad (i + 29) (ad (i + 29)) := rfl
  obtain ⟨⟨hsyy23, htyy23, hnyy23, hpyy23⟩, hlyy23⟩ := okA.at0 hA
  simp only [Nat.zero_add] at hsyy23 hnyy23 hpyy23
  have hmn : ∀ s, s < 4 → 0 ≤ r (6 + 86 * s) ∧ r (6 + 86 * s) ≤ 12 := fun s hs => (hsyy23 s hs).1
  have h5 : 0 ≤ r 5 ∧ r 5 ≤ 6 := hpyy23
  refine z_of (by decide) (Nat.le_of_ble_eq_true rfl) ?_
  intro pZ eZ sZ mZ below meth cZ C hr hlk hnm
  refine z_lv (lv' := [(0, .ref (ad i)), (1, .int (zI (z))), (2, .int (zI (z1))), (3, .int (zI (z2)))]) [0, 1, 2, 3] rfl ?_
  refine z_aload_n C 0 dX10_compare_0 rfl ?_
  refine z_iconst (z := 0) C dX10_compare_1 rfl ?_
  refine z_put (fs' := mF ad (i) (uZ F 12 (0))) C (lt_A0 hN rfl) hay1 hg tyX10 tyX10_ok nmX10 rfl inA_X10 12 (by decide) q_1471 rfl rfl rfl rfl (Nat.le_of_ble_eq_true rfl) rfl dX10_compare_2 (fun gy24 egy25 => ?_)
  have hgy26 := up_s egy25
  refine z_aload_n C 0 dX10_compare_5 rfl ?_
  refine z_iload_n C 1 dX10_compare_6 rfl ?_
  have hgy27 := up_n egy25 ha1 (ne_o (i := i) (c := 1) (d := 0) rfl)
  have hey29 : (uZ F 12 (0)) 12 = 0 := (uZ_s _ _ _)
  refine z_cV (As := [.int (zI (z))]) (rest := []) (ci := 12) C (c_X10_isPit l D A cs tt N ad _ i hN _ hgy26 _ hgy27 (by omega) h5 (z) (by omega)) (lt_A0 hN rfl) hay1 hgy26 rfl rfl mv_yX10_isPit q_2027 hd_yX10_isPit (by decide) (Nat.le_of_ble_eq_true rfl) (by decide) dX10_compare_7 rfl (kI0 fun vy28 gvy28 hvy28 => ?_)
  obtain ⟨hrvy28, ⟨Fvy28, hcvy28, htvy28, hFvy28⟩, hfvy28⟩ := hvy28
  obtain rfl : vy28 = 0 := by omega
  refine z_if_eq (tgt := 35) C dX10_compare_10 (by decide) (by omega) (fun _ => ?_) (fun h => absurd h (by omega))
  refine z_iconst (z := 0) C dX10_compare_35 rfl ?_
  have hgy30 := (hfvy28 (i + 1) (ne_o (i := i) (c := 1) (d := 0) rfl)).trans hgy27
  have hFy31 : ∀ f, f ≠ 12 → Fvy28 f = F f := fun f n12 => ((hFvy28 f n12).trans ((uZ_n _ _ n12).trans rfl))
  have hey32 : Fvy28 13 = F 13 := ((hFvy28 13 (by decide)).trans (fn rfl (by decide)))
  have hey33 : Fvy28 14 = F 14 := ((hFvy28 14 (by decide)).trans (fn rfl (by decide)))
  have hey34 : Fvy28 15 = F 15 := ((hFvy28 15 (by decide)).trans (fn rfl (by decide)))
  have hey35 : Fvy28 16 = F 16 := ((hFvy28 16 (by decide)).trans (fn rfl (by decide)))
  have hey36 : Fvy28 17 = F 17 := ((hFvy28 17 (by decide)).trans (fn rfl (by decide)))
  have hey37 : Fvy28 18 = F 18 := ((hFvy28 18 (by decide)).trans (fn rfl (by decide)))
  have hey38 : Fvy28 19 = F 19 := ((hFvy28 19 (by decide)).trans (fn rfl (by decide)))
  have hey39 : Fvy28 20 = F 20 := ((hFvy28 20 (by decide)).trans (fn rfl (by decide)))
  have hey40 : Fvy28 21 = F 21 := ((hFvy28 21 (by decide)).trans (fn rfl (by decide)))
  have hey41 : Fvy28 23 = F 23 := ((hFvy28 23 (by decide)).trans (fn rfl (by decide)))
  have hey42 : Fvy28 25 = F 25 := ((hFvy28 25 (by decide)).trans (fn rfl (by decide)))
  have hey43 : Fvy28 27 = F 27 := ((hFvy28 27 (by decide)).trans (fn rfl (by decide)))
  have hey44 : Fvy28 28 = F 28 := ((hFvy28 28 (by decide)).trans (fn rfl (by decide)))
  have hey45 : Fvy28 29 = F 29 := ((hFvy28 29 (by decide)).trans (fn rfl (by decide)))
  have hKy46 : okF Fvy28 := okF.mv hM.2.1 hey32 hey33 hey34 hey35 hey36 hey37 hey38 hey39 hey40 hey41 hey42 hey43 hey44 hey45
  have hMy47 : okMr cs ad gvy28 i (x + 1) Fvy28 r st op ai fa mu tb tp := okMr.upd hM hcvy28 hKy46 (fun f a => hFy31 f (by omega)) hgy30 (hA.mono (by omega)) (fun j a b => by
      exact Or.inl (by rw [hfvy28 _ (by omega)]; rw [egy25, va_up_ne _ _ (by omega)]))
  have hkpy48 : Fvy28 13 = F 13 := ((hFvy28 13 (by decide)).trans (fn rfl (by decide)))
  have hkpy49 : Fvy28 14 = F 14 := ((hFvy28 14 (by decide)).trans (fn rfl (by decide)))
  have hkpy50 : Fvy28 17 = F 17 := ((hFvy28 17 (by decide)).trans (fn rfl (by decide)))
  have hkpy51 : Fvy28 20 = F 20 := ((hFvy28 20 (by decide)).trans (fn rfl (by decide)))
  have hkpy52 : Fvy28 21 = F 21 := ((hFvy28 21 (by decide)).trans (fn rfl (by decide)))
  have hkpy53 : Fvy28 23 = F 23 := ((hFvy28 23 (by decide)).trans (fn rfl (by decide)))
  have hkpy54 : Fvy28 24 = F 24 := ((hFvy28 24 (by decide)).trans (fn rfl (by decide)))
  exact z_iret C hr hlk dX10_compare_36 (by decide) (by decide) ⟨0, rfl, rfl, rfl, by omega, ⟨_, _, hMy47, ⟨hkpy48, hkpy49, hkpy50, hkpy51, hkpy52, hkpy53, hkpy54⟩⟩, fun j j1 => by rw [hfvy28 _ (by omega)]; rw [egy25, va_up_ne _ _ (by omega)]⟩

set_option maxRecDepth 100000 in
set_option maxHeartbeats 4000000 in
theorem c_X10_compare (l : Launch) (D : va_G) (A : Nat → Prop) (cs : Nat → ClassId) (tt : Nat) (N : Nat) (ad : Nat → Nat) (g : Nat → va_E) (i : Nat) (hN : i + 30 ≤ N) (x : Int) (hx : 0 ≤ x ∧ x ≤ 512) (F r : Nat → Int) {st op ai fa mu tb tp : Nat → Int} (hM : okMr cs ad g i x F r st op ai fa mu tb tp) (z : Int) (hz : -2147483648 ≤ z ∧ z ≤ 2147483647) (z1 : Int) (hz1 : -2147483648 ≤ z1 ∧ z1 ≤ 2147483647) (z2 : Int) (hz2 : -2147483648 ≤ z2 ∧ z2 ≤ 2147483647) : zM l yX10_compare cX10_compare 4 (some .int) ({ frames := 10, cells := 0, slots := 0, locals := 600 } : Room) D A cs tt N ad g [.ref (ad i), .int (zI (z)), .int (zI (z1)), .int (zI (z2))] (rI0 N ad fun q g' => (-2147483648 ≤ q ∧ q ≤ 2147483647) ∧ (∃ F' r' : Nat → Int, okMr cs ad g' i (x + 1) F' r' st op ai fa mu tb tp ∧ (F' 13 = F 13 ∧ F' 14 = F 14 ∧ F' 17 = F 17 ∧ F' 20 = F 20 ∧ F' 21 = F 21 ∧ F' 23 = F 23 ∧ F' 24 = F 24)) ∧ ∀ j, j < i ∨ i + 30 ≤ j → g' j = g j) := by
  by_cases hk0 : 0 ≤ z ∧ z ≤ 5
  · obtain ⟨n0, rfl⟩ : ∃ n : Nat, z = (n : Int) := ⟨z.toNat, by omega⟩
    by_cases hk1 : 0 ≤ z1 ∧ z1 ≤ 5
    · obtain ⟨n1, rfl⟩ : ∃ n : Nat, z1 = (n : Int) := ⟨z1.toNat, by omega⟩
      exact c_X10_compare_aa l D A cs tt N ad g i hN x hx F r hM n0 (by omega) n1 (by omega) z2 hz2
    · exact c_X10_compare_ab l D A cs tt N ad g i hN x hx F r hM n0 (by omega) z1 hz1 (by omega) z2 hz2
  · by_cases hk1 : 0 ≤ z1 ∧ z1 ≤ 5
    · obtain ⟨n1, rfl⟩ : ∃ n : Nat, z1 = (n : Int) := ⟨z1.toNat, by omega⟩
      exact c_X10_compare_ba l D A cs tt N ad g i hN x hx F r hM z hz (by omega) n1 (by omega) z2 hz2
    · exact c_X10_compare_bb l D A cs tt N ad g i hN x hx F r hM z hz (by omega) z1 hz1 (by omega) z2 hz2

set_option maxRecDepth 100000 in
set_option maxHeartbeats 4000000 in
theorem c_X10_nearest_a (l : Launch) (D : va_G) (A : Nat → Prop) (cs : Nat → ClassId) (tt : Nat) (N : Nat) (ad : Nat → Nat) (g : Nat → va_E) (i : Nat) (hN : i + 30 ≤ N) (x : Int) (hx : 0 ≤ x ∧ x ≤ 512) (F r : Nat → Int) {st op ai fa mu tb tp : Nat → Int} (hM : okMr cs ad g i x F r st op ai fa mu tb tp) (n0 : Nat) (hn0 : n0 < 6) : zM l yX10_nearest cX10_nearest 6 (some .int) ({ frames := 3, cells := 0, slots := 0, locals := 180 } : Room) D A cs tt N ad g [.ref (ad i), .int (zI ((n0 : Int)))] (rI0 N ad fun q g' => (-2147483648 ≤ q ∧ q ≤ 2147483647) ∧ (∃ F' r' : Nat → Int, okMr cs ad g' i (x + 1) F' r' st op ai fa mu tb tp ∧ (F' 13 = F 13 ∧ F' 14 = F 14 ∧ F' 17 = F 17 ∧ F' 20 = F 20 ∧ F' 21 = F 21 ∧ F' 23 = F 23 ∧ F' 24 = F 24)) ∧ ∀ j, j < i ∨ i + 30 ≤ j → g' j = g j) := by
  obtain ⟨hg, ⟨⟨e13, e14, e25, e27, e29⟩, k15, k16, k17, k18, k19, k20, k23, k21⟩, hRD, hTx, hA, ns, nh, nd, rf, pi, te, ki, li, ok1, ok2, fo, dd, dps, ⟨ha1, ha2, ha3, ha4, ha5, ha6, ha7, ha8, ha9, ha10, ha11, ha12, ha13, ha14, ha15, ha24, ha25, ha26, ha27, ha28, ha29⟩, hEv, hPt, hns, htp⟩ := id hM
  obtain ⟨-, hop, hai, hfa, hT, hT1⟩ := id hEv
  have hay1 : zAt ad (i) (ad i) := rfl
  have hay2 : zAt ad (i + 1) (ad (i + 1)) := rfl
  have hay3 : zAt ad (i + 2) (ad (i + 2)) := rfl
  have hay4 : zAt ad (i + 3) (ad (i + 3)) := rfl
  have hay5 : zAt ad (i + 4) (ad (i + 4)) := rfl
  have hay6 : zAt ad (i + 5) (ad (i + 5)) := rfl
  have hay7 : zAt ad (i + 6) (ad (i + 6)) := rfl
  have hay8 : zAt ad (i + 7) (ad (i + 7)) := rfl
  have hay9 : zAt ad (i + 8) (ad (i + 8)) := rfl
  have hay10 : zAt ad (i + 9) (ad (i + 9)) := rfl
  have hay11 : zAt ad (i + 10) (ad (i + 10)) := rfl
  have hay12 : zAt ad (i + 11) (ad (i + 11)) := rfl
  have hay13 : zAt ad (i + 12) (ad (i + 12)) := rfl
  have hay14 : zAt ad (i + 13) (ad (i + 13)) := rfl
  have hay15 : zAt ad (i + 14) (ad (i + 14)) := rfl
  have hay16 : zAt ad (i + 15) (ad (i + 15)) := rfl
  have hay17 : zAt ad (i + 24) (ad (i + 24)) := rfl
  have hay18 : zAt ad (i + 25) (ad (i + 25)) := rfl
  have hay19 : zAt ad (i + 26) (ad (i + 26)) := rfl
  have hay20 : zAt ad (i + 27) (ad (i + 27)) := rfl
  have hay21 : zAt ad (i + 28) (ad (i + 28)) := rfl
  have hay22 : zAt ad (i + 29) (ad (i + 29)) := rfl
  obtain ⟨⟨hsyy23, htyy23, hnyy23, hpyy23⟩, hlyy23⟩ := okA.at0 hA
  simp only [Nat.zero_add] at hsyy23 hnyy23 hpyy23
  have hmn : ∀ s, s < 4 → 0 ≤ r (6 + 86 * s) ∧ r (6 + 86 * s) ≤ 12 := fun s hs => (hsyy23 s hs).1
  have h5 : 0 ≤ r 5 ∧ r 5 ≤ 6 := hpyy23
  refine z_of (by decide) (Nat.le_of_ble_eq_true rfl) ?_
  intro pZ eZ sZ mZ below meth cZ C hr hlk hnm
  refine z_lv (lv' := [(0, .ref (ad i)), (1, .int (zI ((n0 : Int))))]) [0, 1] rfl ?_
  refine z_aload_n C 0 dX10_nearest_0 rfl ?_
  refine z_iconst (z := 0) C dX10_nearest_1 rfl ?_
  refine z_put (fs' := mF ad (i) (uZ F 12 (0))) C (lt_A0 hN rfl) hay1 hg tyX10 tyX10_ok nmX10 rfl inA_X10 12 (by decide) q_1471 rfl rfl rfl rfl (Nat.le_of_ble_eq_true rfl) rfl dX10_nearest_2 (fun gy24 egy25 => ?_)
  have hgy26 := up_s egy25
  refine z_aload_n C 0 dX10_nearest_5 rfl ?_
  refine z_iload_n C 1 dX10_nearest_6 rfl ?_
  have hgy27 := up_n egy25 ha1 (ne_o (i := i) (c := 1) (d := 0) rfl)
  have hey29 : (uZ F 12 (0)) 12 = 0 := (uZ_s _ _ _)
  refine z_cV (As := [.int (zI ((n0 : Int)))]) (rest := []) (ci := 12) C (c_X10_isPit l D A cs tt N ad _ i hN _ hgy26 _ hgy27 (by omega) h5 ((n0 : Int)) (by omega)) (lt_A0 hN rfl) hay1 hgy26 rfl rfl mv_yX10_isPit q_2027 hd_yX10_isPit (by decide) (Nat.le_of_ble_eq_true rfl) (by decide) dX10_nearest_7 rfl (kI0 fun vy28 gvy28 hvy28 => ?_)
  obtain ⟨hrvy28, ⟨Fvy28, hcvy28, htvy28, hFvy28⟩, hfvy28⟩ := hvy28
  rcases (show vy28 = 1 ∨ vy28 = 0 by omega) with rfl | rfl
  · have hxvy28 := hrvy28.2 rfl
    refine z_if_ne (tgt := 15) C dX10_nearest_10 (by decide) (by omega) (fun _ => ?_) (fun h => absurd h (by omega))
    refine z_iconst (z := -1) C dX10_nearest_15 rfl ?_
    refine z_istore_n (lv' := [(2, .int (zI (-1))), (0, .ref (ad i)), (1, .int (zI ((n0 : Int))))]) C dX10_nearest_16 rfl (by decide) rfl ?_
    refine z_iconst (z := 0) C dX10_nearest_17 rfl ?_
    refine z_istore_n (lv' := [(3, .int (zI (0))), (2, .int (zI (-1))), (0, .ref (ad i)), (1, .int (zI ((n0 : Int))))]) C dX10_nearest_18 rfl (by decide) rfl ?_
    refine z_aload_n C 2 dX10_nearest_19 rfl ?_
    refine z_aload_n C 2 dX10_nearest_20 rfl ?_
    refine z_iload_n C 3 dX10_nearest_21 rfl ?_
    have hgy30 := up_n egy25 ha12 (ne_o (i := i) (c := 12) (d := 0) rfl)
    have hgy31 := (hfvy28 (i + 12) (ne_o (i := i) (c := 12) (d := 0) rfl)).trans hgy30
    have hpkn0 := okPt.at hPt (k := n0) (by omega)
    refine z_cV (As := [.int (zI ((n0 : Int)))]) (rest := [.ref (ad i)]) (ci := 12) C (c_X10_pitMany l D A cs tt N ad _ i hN _ hcvy28 _ hgy31 hPt n0 (by omega)) (lt_A0 hN rfl) hay1 hcvy28 rfl rfl mv_yX10_pitMany q_2031 hd_yX10_pitMany (by decide) (Nat.le_of_ble_eq_true rfl) (by decide) dX10_nearest_22 rfl (kI0 fun vy32 gvy32 hvy32 => ?_)
    obtain ⟨rfl, rfl⟩ := hvy32
    refine z_put (fs' := mF ad (i) (uZ Fvy28 55 (pi (90 * n0 + 2)))) C (lt_A0 hN rfl) hay1 hcvy28 tyX10 tyX10_ok nmX10 rfl inA_X10 55 (by decide) q_1514 rfl rfl rfl rfl (Nat.le_of_ble_eq_true rfl) rfl dX10_nearest_25 (fun gy33 egy34 => ?_)
    have hgy35 := up_s egy34
    refine z_aload_n C 2 dX10_nearest_28 rfl ?_
    refine z_iload_n C 3 dX10_nearest_29 rfl ?_
    refine z_aload_n C 2 dX10_nearest_30 rfl ?_
    refine z_get (v := .ref (ad (i + 25))) C (lt_A0 hN rfl) hay1 hgy35 rfl inA_X10 52 (by decide) q_1511 rfl rfl dX10_nearest_31 ?_
    have hgy36 := up_n egy34 hgy31 (ne_o (i := i) (c := 12) (d := 0) rfl)
    have hgy37 := up_n egy25 ha25 (ne_o (i := i) (c := 25) (d := 0) rfl)
    have hgy38 := (hfvy28 (i + 25) (ne_o (i := i) (c := 25) (d := 0) rfl)).trans hgy37
    have hgy39 := up_n egy34 hgy38 (ne_o (i := i) (c := 25) (d := 0) rfl)
    refine z_cV (As := [.int (zI ((n0 : Int))), .ref (ad (i + 25))]) (rest := []) (ci := 12) C (c_X10_laysPit25 l D A cs tt N ad _ i hN _ hgy35 _ hgy36 hPt _ hgy39 n0 (by omega)) (lt_A0 hN rfl) hay1 hgy35 rfl rfl mv_yX10_laysPit q_2051 hd_yX10_laysPit (by decide) (Nat.le_of_ble_eq_true rfl) (by decide) dX10_nearest_34 rfl (kV0 fun gvy40 hvy40 => ?_)
    obtain ⟨⟨tvy40, hdvy40⟩, hfvy40⟩ := hvy40
    refine z_iconst (z := 0) C dX10_nearest_37 rfl ?_
    refine z_istore (lv' := [(4, .int (zI (0))), (3, .int (zI (0))), (2, .int (zI (-1))), (0, .ref (ad i)), (1, .int (zI ((n0 : Int))))]) C dX10_nearest_38 (by decide) rfl ?_
    have lp1 : ∀ (n9 : Nat) (it : Int) (fw : Int) (ss : Int) (F9 : Nat → Int) (r9 : Nat → Int) (g1 : Nat → va_E), (5 - ss).toNat = n9 → (okMr cs ad g1 i x F9 r9 st op ai fa mu tb tp) → ((∀ f, f ≠ 12 → f ≠ 55 → f ≠ 56 → F9 f = F f)) → (∀ j, j < i ∨ i + 30 ≤ j → g1 j = g j) → (-2147483648 ≤ it ∧ it ≤ 2147483647) → (-2147483648 ≤ fw ∧ fw ≤ 2147483647) → (0 ≤ ss ∧ ss ≤ F 13) → (0 ≤ F9 55 ∧ F9 55 ≤ 12) → zV pZ l eZ ({ frames := 3, cells := 0, slots := 0, locals := 180 } : Room) sZ mZ ([.ref (ad i), .int (zI ((n0 : Int)))] : List Value).toArray below meth cZ (MQ below (zPost D A (rI0 N ad fun q g' => (-2147483648 ≤ q ∧ q ≤ 2147483647) ∧ (∃ F' r' : Nat → Int, okMr cs ad g' i (x + 1) F' r' st op ai fa mu tb tp ∧ (F' 13 = F 13 ∧ F' 14 = F 14 ∧ F' 17 = F 17 ∧ F' 20 = F 20 ∧ F' 21 = F 21 ∧ F' 23 = F 23 ∧ F' 24 = F 24)) ∧ ∀ j, j < i ∨ i + 30 ≤ j → g' j = g j)) ([.ref (ad i), .int (zI ((n0 : Int)))] : List Value).toArray sZ ({ frames := 3, cells := 0, slots := 0, locals := 180 } : Room).cells ({ frames := 3, cells := 0, slots := 0, locals := 180 } : Room).slots A) D A 6 (N) ad g1 (0) (0) 40 [(0, .ref (ad i)), (2, .int (zI (it))), (3, .int (zI (fw))), (4, .int (zI (ss)))] [] := by
      intro n9
      induction n9 using Nat.strongRecOn with
      | ind n9 ih_lp1 =>
        intro it fw ss F9 r9 g1 hm9 fM fF f3 hvlp10 hvlp11 hvlp12 hvlp13
        obtain ⟨hg_y41, ⟨⟨e13_y41, e14_y41, e25_y41, e27_y41, e29_y41⟩, k15_y41, k16_y41, k17_y41, k18_y41, k19_y41, k20_y41, k23_y41, k21_y41⟩, hRD_y41, hTx_y41, hA_y41, ns_y41, nh_y41, nd_y41, rf_y41, pi_y41, te_y41, ki_y41, li_y41, ok1_y41, ok2_y41, fo_y41, dd_y41, dps_y41, ⟨ha1_y41, ha2_y41, ha3_y41, ha4_y41, ha5_y41, ha6_y41, ha7_y41, ha8_y41, ha9_y41, ha10_y41, ha11_y41, ha12_y41, ha13_y41, ha14_y41, ha15_y41, ha24_y41, ha25_y41, ha26_y41, ha27_y41, ha28_y41, ha29_y41⟩, hEv_y41, hPt_y41, hns_y41, htp_y41⟩ := id fM
        obtain ⟨-, hop_y41, hai_y41, hfa_y41, hT_y41, hT1_y41⟩ := id hEv_y41
        have e14 := e14_y41
        have e25 := e25_y41
        have e27 := e27_y41
        have e29 := e29_y41
        have hop := hop_y41
        have hai := hai_y41
        have hfa := hfa_y41
        have hT := hT_y41
        have hT1 := hT1_y41
        have hEv := hEv_y41
        have htp := htp_y41
        have hns := hns_y41
        have hPt := hPt_y41
        have hay42 : zAt ad (i) (ad i) := rfl
        have hay43 : zAt ad (i + 1) (ad (i + 1)) := rfl
        have hay44 : zAt ad (i + 2) (ad (i + 2)) := rfl
        have hay45 : zAt ad (i + 3) (ad (i + 3)) := rfl
        have hay46 : zAt ad (i + 4) (ad (i + 4)) := rfl
        have hay47 : zAt ad (i + 5) (ad (i + 5)) := rfl
        have hay48 : zAt ad (i + 6) (ad (i + 6)) := rfl
        have hay49 : zAt ad (i + 7) (ad (i + 7)) := rfl
        have hay50 : zAt ad (i + 8) (ad (i + 8)) := rfl
        have hay51 : zAt ad (i + 9) (ad (i + 9)) := rfl
        have hay52 : zAt ad (i + 10) (ad (i + 10)) := rfl
        have hay53 : zAt ad (i + 11) (ad (i + 11)) := rfl
        have hay54 : zAt ad (i + 12) (ad (i + 12)) := rfl
        have hay55 : zAt ad (i + 13) (ad (i + 13)) := rfl
        have hay56 : zAt ad (i + 14) (ad (i + 14)) := rfl
        have hay57 : zAt ad (i + 15) (ad (i + 15)) := rfl
        have hay58 : zAt ad (i + 24) (ad (i + 24)) := rfl
        have hay59 : zAt ad (i + 25) (ad (i + 25)) := rfl
        have hay60 : zAt ad (i + 26) (ad (i + 26)) := rfl
        have hay61 : zAt ad (i + 27) (ad (i + 27)) := rfl
        have hay62 : zAt ad (i + 28) (ad (i + 28)) := rfl
        have hay63 : zAt ad (i + 29) (ad (i + 29)) := rfl
        obtain ⟨⟨hsyy64, htyy64, hnyy64, hpyy64⟩, hlyy64⟩ := okA.at0 hA_y41
        simp only [Nat.zero_add] at hsyy64 hnyy64 hpyy64
        have hmn : ∀ s, s < 4 → 0 ≤ r9 (6 + 86 * s) ∧ r9 (6 + 86 * s) ≤ 12 := fun s hs => (hsyy64 s hs).1
        have h5 : 0 ≤ r9 5 ∧ r9 5 ≤ 6 := hpyy64
        have h13e : F9 13 = F 13 := fF 13 (by decide) (by decide) (by decide)
        have h14e : F9 14 = F 14 := fF 14 (by decide) (by decide) (by decide)
        have h17e : F9 17 = F 17 := fF 17 (by decide) (by decide) (by decide)
        have h20e : F9 20 = F 20 := fF 20 (by decide) (by decide) (by decide)
        have h21e : F9 21 = F 21 := fF 21 (by decide) (by decide) (by decide)
        have h23e : F9 23 = F 23 := fF 23 (by decide) (by decide) (by decide)
        have h24e : F9 24 = F 24 := fF 24 (by decide) (by decide) (by decide)
        refine z_iload C 3 dX10_nearest_40 rfl ?_
        refine z_aload_n C 0 dX10_nearest_42 rfl ?_
        refine z_get (v := .int (zI (F9 13))) C (lt_A0 hN rfl) hay42 hg_y41 rfl inA_X10 13 (by decide) q_1472 rfl (fv (F := F9) (f := 13) rfl) dX10_nearest_43 ?_
        refine z_icmp_ge (tgt := 128) C dX10_nearest_46 (by decide) (by omega) (by omega) (fun hby65 => ?_) (fun hby65 => ?_)
        · refine z_iload_n C 1 dX10_nearest_128 rfl ?_
          have hMy66 : okMr cs ad g1 i (x + 1) F9 r9 st op ai fa mu tb tp := okMr.upd fM hg_y41 fM.2.1 (fun f _ => rfl) ha1_y41 (hA_y41.mono (by omega)) (fun j a b => by
              exact Or.inl (by rfl))
          have hkpy67 : F9 13 = F9 13 := rfl
          have hkpy68 : F9 14 = F9 14 := rfl
          have hkpy69 : F9 17 = F9 17 := rfl
          have hkpy70 : F9 20 = F9 20 := rfl
          have hkpy71 : F9 21 = F9 21 := rfl
          have hkpy72 : F9 23 = F9 23 := rfl
          have hkpy73 : F9 24 = F9 24 := rfl
          exact z_iret C hr hlk dX10_nearest_129 (by decide) (by decide) ⟨it, rfl, rfl, rfl, by omega, ⟨_, _, hMy66, ⟨(by omega), (by omega), (by omega), (by omega), (by omega), (by omega), (by omega)⟩⟩, fun j j1 => by exact f3 j j1⟩
        · refine z_aload_n C 0 dX10_nearest_49 rfl ?_
          refine z_aload_n C 0 dX10_nearest_50 rfl ?_
          refine z_iconst (z := 0) C dX10_nearest_51 rfl ?_
          refine z_iload C 3 dX10_nearest_52 rfl ?_
          obtain ⟨ny74, hny74⟩ : ∃ n9 : Nat, ss = (n9 : Int) := ⟨(ss).toNat, by omega⟩
          rw [hny74]
          obtain ⟨py75, hpy75⟩ : ∃ p9 : Nat, 0 + 6 + 86 * ny74 = p9 := ⟨_, rfl⟩
          have hmpy75 := hmn ny74 (by omega)
          rw [show 6 + 86 * ny74 = py75 by omega] at hmpy75
          have hmyy76 := ((okA.at0 hA_y41).1.1 ny74 (by omega)).1
          rw [hpy75] at hmyy76
          refine z_cV (As := [.int (zI (0)), .int (zI ((ny74 : Int)))]) (rest := [.ref (ad i)]) (ci := 12) C (c_X10_many l D A cs tt N ad _ i hN _ hg_y41 _ ha1_y41 0 ny74 py75 hpy75 (by omega) (by omega)) (lt_A0 hN rfl) hay42 hg_y41 rfl rfl mv_yX10_many q_1733 hd_yX10_many (by decide) (Nat.le_of_ble_eq_true rfl) (by decide) dX10_nearest_54 rfl (kI0 fun vy77 gvy77 hvy77 => ?_)
          obtain ⟨rfl, rfl⟩ := hvy77
          refine z_put (fs' := mF ad (i) (uZ F9 56 (r9 (py75)))) C (lt_A0 hN rfl) hay42 hg_y41 tyX10 tyX10_ok nmX10 rfl inA_X10 56 (by decide) q_1515 rfl rfl rfl rfl (Nat.le_of_ble_eq_true rfl) rfl dX10_nearest_57 (fun gy78 egy79 => ?_)
          have hgy80 := up_s egy79
          refine z_iconst (z := 0) C dX10_nearest_60 rfl ?_
          refine z_istore (lv' := [(5, .int (zI (0))), (0, .ref (ad i)), (2, .int (zI (it))), (3, .int (zI (fw))), (4, .int (zI ((ny74 : Int))))]) C dX10_nearest_61 (by decide) rfl ?_
          have lp2 : ∀ (n9 : Nat) (ll : Int) (F9b : Nat → Int) (r9b : Nat → Int) (g1 : Nat → va_E), (13 - ll).toNat = n9 → (okMr cs ad g1 i x F9b r9b st op ai fa mu tb tp) → ((∀ f, f ≠ 12 → f ≠ 55 → f ≠ 56 → F9b f = F f)) → (∀ j, j < i ∨ i + 30 ≤ j → g1 j = g j) → (0 ≤ ll ∧ ll ≤ 12) → ((0 ≤ F9b 56 ∧ F9b 56 ≤ 12) ∧ 0 ≤ F9b 55 ∧ F9b 55 ≤ 12) → zV pZ l eZ ({ frames := 3, cells := 0, slots := 0, locals := 180 } : Room) sZ mZ ([.ref (ad i), .int (zI ((n0 : Int)))] : List Value).toArray below meth cZ (MQ below (zPost D A (rI0 N ad fun q g' => (-2147483648 ≤ q ∧ q ≤ 2147483647) ∧ (∃ F' r' : Nat → Int, okMr cs ad g' i (x + 1) F' r' st op ai fa mu tb tp ∧ (F' 13 = F 13 ∧ F' 14 = F 14 ∧ F' 17 = F 17 ∧ F' 20 = F 20 ∧ F' 21 = F 21 ∧ F' 23 = F 23 ∧ F' 24 = F 24)) ∧ ∀ j, j < i ∨ i + 30 ≤ j → g' j = g j)) ([.ref (ad i), .int (zI ((n0 : Int)))] : List Value).toArray sZ ({ frames := 3, cells := 0, slots := 0, locals := 180 } : Room).cells ({ frames := 3, cells := 0, slots := 0, locals := 180 } : Room).slots A) D A 6 (N) ad g1 (0) (0) 63 [(0, .ref (ad i)), (2, .int (zI (it))), (3, .int (zI (fw))), (4, .int (zI ((ny74 : Int)))), (5, .int (zI (ll)))] [] := by
            intro n9
            induction n9 using Nat.strongRecOn with
            | ind n9 ih_lp2 =>
              intro ll F9b r9b g1 hm9 fMb fFb f3 hvlp20 hvlp21
              obtain ⟨hg_y81, ⟨⟨e13_y81, e14_y81, e25_y81, e27_y81, e29_y81⟩, k15_y81, k16_y81, k17_y81, k18_y81, k19_y81, k20_y81, k23_y81, k21_y81⟩, hRD_y81, hTx_y81, hA_y81, ns_y81, nh_y81, nd_y81, rf_y81, pi_y81, te_y81, ki_y81, li_y81, ok1_y81, ok2_y81, fo_y81, dd_y81, dps_y81, ⟨ha1_y81, ha2_y81, ha3_y81, ha4_y81, ha5_y81, ha6_y81, ha7_y81, ha8_y81, ha9_y81, ha10_y81, ha11_y81, ha12_y81, ha13_y81, ha14_y81, ha15_y81, ha24_y81, ha25_y81, ha26_y81, ha27_y81, ha28_y81, ha29_y81⟩, hEv_y81, hPt_y81, hns_y81, htp_y81⟩ := id fMb
              obtain ⟨-, hop_y81, hai_y81, hfa_y81, hT_y81, hT1_y81⟩ := id hEv_y81
              have e14 := e14_y81
              have e25 := e25_y81
              have e27 := e27_y81
              have e29 := e29_y81
              have hop := hop_y81
              have hai := hai_y81
              have hfa := hfa_y81
              have hT := hT_y81
              have hT1 := hT1_y81
              have hEv := hEv_y81
              have htp := htp_y81
              have hns := hns_y81
              have hPt := hPt_y81
              have hay82 : zAt ad (i) (ad i) := rfl
              have hay83 : zAt ad (i + 1) (ad (i + 1)) := rfl
              have hay84 : zAt ad (i + 2) (ad (i + 2)) := rfl
              have hay85 : zAt ad (i + 3) (ad (i + 3)) := rfl
              have hay86 : zAt ad (i + 4) (ad (i + 4)) := rfl
              have hay87 : zAt ad (i + 5) (ad (i + 5)) := rfl
              have hay88 : zAt ad (i + 6) (ad (i + 6)) := rfl
              have hay89 : zAt ad (i + 7) (ad (i + 7)) := rfl
              have hay90 : zAt ad (i + 8) (ad (i + 8)) := rfl
              have hay91 : zAt ad (i + 9) (ad (i + 9)) := rfl
              have hay92 : zAt ad (i + 10) (ad (i + 10)) := rfl
              have hay93 : zAt ad (i + 11) (ad (i + 11)) := rfl
              have hay94 : zAt ad (i + 12) (ad (i + 12)) := rfl
              have hay95 : zAt ad (i + 13) (ad (i + 13)) := rfl
              have hay96 : zAt ad (i + 14) (ad (i + 14)) := rfl
              have hay97 : zAt ad (i + 15) (ad (i + 15)) := rfl
              have hay98 : zAt ad (i + 24) (ad (i + 24)) := rfl
              have hay99 : zAt ad (i + 25) (ad (i + 25)) := rfl
              have hay100 : zAt ad (i + 26) (ad (i + 26)) := rfl
              have hay101 : zAt ad (i + 27) (ad (i + 27)) := rfl
              have hay102 : zAt ad (i + 28) (ad (i + 28)) := rfl
              have hay103 : zAt ad (i + 29) (ad (i + 29)) := rfl
              obtain ⟨⟨hsyy104, htyy104, hnyy104, hpyy104⟩, hlyy104⟩ := okA.at0 hA_y81
              simp only [Nat.zero_add] at hsyy104 hnyy104 hpyy104
              have hmn : ∀ s, s < 4 → 0 ≤ r9b (6 + 86 * s) ∧ r9b (6 + 86 * s) ≤ 12 := fun s hs => (hsyy104 s hs).1
              have h5 : 0 ≤ r9b 5 ∧ r9b 5 ≤ 6 := hpyy104
              have h13be : F9b 13 = F 13 := fFb 13 (by decide) (by decide) (by decide)
              have h14be : F9b 14 = F 14 := fFb 14 (by decide) (by decide) (by decide)
              have h17be : F9b 17 = F 17 := fFb 17 (by decide) (by decide) (by decide)
              have h20be : F9b 20 = F 20 := fFb 20 (by decide) (by decide) (by decide)
              have h21be : F9b 21 = F 21 := fFb 21 (by decide) (by decide) (by decide)
              have h23be : F9b 23 = F 23 := fFb 23 (by decide) (by decide) (by decide)
              have h24be : F9b 24 = F 24 := fFb 24 (by decide) (by decide) (by decide)
              refine z_iload C 4 dX10_nearest_63 rfl ?_
              refine z_aload_n C 0 dX10_nearest_65 rfl ?_
              refine z_get (v := .int (zI (F9b 56))) C (lt_A0 hN rfl) hay82 hg_y81 rfl inA_X10 56 (by decide) q_1515 rfl (fv (F := F9b) (f := 56) rfl) dX10_nearest_66 ?_
              refine z_icmp_ge (tgt := 95) C dX10_nearest_69 (by decide) (by omega) (by omega) (fun hby105 => ?_) (fun hby105 => ?_)
              · refine z_aload_n C 0 dX10_nearest_95 rfl ?_
                refine z_iconst (z := 0) C dX10_nearest_96 rfl ?_
                have hey107 : F9b 55 = F9b 55 := rfl
                have hey108 : F9b 56 = F9b 56 := rfl
                refine z_cV (As := [.int (zI (0))]) (rest := []) (ci := 12) C (c_X10_folds l D A cs tt N ad _ i hN _ hg_y81 _ ha25_y81 _ ha26_y81 _ ha27_y81 (by omega) (by omega) (0) (by omega)) (lt_A0 hN rfl) hay82 hg_y81 rfl rfl mv_yX10_folds q_2055 hd_yX10_folds (by decide) (Nat.le_of_ble_eq_true rfl) (by decide) dX10_nearest_97 rfl (kI0 fun vy106 gvy106 hvy106 => ?_)
                obtain ⟨hrvy106, ⟨tvy106, hdvy106⟩, hfvy106⟩ := hvy106
                refine z_istore (lv' := [(5, .int (zI (vy106))), (0, .ref (ad i)), (2, .int (zI (it))), (3, .int (zI (fw))), (4, .int (zI ((ny74 : Int))))]) C dX10_nearest_100 (by decide) rfl ?_
                refine z_iload_n C 2 dX10_nearest_102 rfl ?_
                refine z_iconst (z := -1) C dX10_nearest_103 rfl ?_
                refine z_icmp_eq (tgt := 116) C dX10_nearest_104 (by decide) (by omega) (by omega) (fun hby109 => ?_) (fun hby109 => ?_)
                · refine z_iload C 4 dX10_nearest_116 rfl ?_
                  refine z_istore_n (lv' := [(2, .int (zI ((ny74 : Int)))), (5, .int (zI (vy106))), (0, .ref (ad i)), (3, .int (zI (fw))), (4, .int (zI ((ny74 : Int))))]) C dX10_nearest_118 rfl (by decide) rfl ?_
                  refine z_iload C 1 dX10_nearest_119 rfl ?_
                  refine z_istore_n (lv' := [(3, .int (zI (vy106))), (2, .int (zI ((ny74 : Int)))), (5, .int (zI (vy106))), (0, .ref (ad i)), (4, .int (zI ((ny74 : Int))))]) C dX10_nearest_121 rfl (by decide) rfl ?_
                  refine z_iinc (z := (ny74 : Int) + 1) (lv' := [(4, .int (zI ((ny74 : Int) + 1))), (3, .int (zI (vy106))), (2, .int (zI ((ny74 : Int)))), (5, .int (zI (vy106))), (0, .ref (ad i))]) (j := 4) C dX10_nearest_122 rfl rfl (by decide) rfl ?_
                  refine z_goto (tgt := 40) C dX10_nearest_125 (by decide) ?_
                  have hgy110 := (hfvy106 (i) (ne_o (i := i) (c := 0) (d := 27) rfl)).trans hg_y81
                  have hgy111 := (hfvy106 (i + 1) (ne_o (i := i) (c := 1) (d := 27) rfl)).trans ha1_y81
                  have hMy112 : okMr cs ad gvy106 i (x) F9b r9b st op ai fa mu tb tp := okMr.upd fMb hgy110 fMb.2.1 (fun f _ => rfl) hgy111 (hA_y81.mono (by omega)) (fun j a b => by
                      by_cases e0 : j = i + 27
                      · exact Or.inr ⟨27, _, e0, lsP.l (by decide), by rw [e0]; exact hdvy106⟩
                      exact Or.inl (by rw [hfvy106 _ (by omega)]))
                  have hFF : (∀ f, f ≠ 12 → f ≠ 55 → f ≠ 56 → F9b f = F f) := fun f n12 n55 n56 => fFb f n12 n55 n56
                  have hey113 : F9b 13 = F9b 13 := rfl
                  have hey114 : F9b 14 = F9b 14 := rfl
                  have hey115 : F9b 55 = F9b 55 := rfl
                  refine z_lv (lv' := [(0, .ref (ad i)), (2, .int (zI ((ny74 : Int)))), (3, .int (zI (vy106))), (4, .int (zI ((ny74 : Int) + 1)))]) [4, 2, 1, 0] rfl ?_
                  exact ih_lp1 _ (by omega) ((ny74 : Int)) (vy106) ((ny74 : Int) + 1) _ _ gvy106 rfl hMy112 hFF (fun j j1 => by rw [hfvy106 _ (by omega)]; exact f3 j j1) (by omega) (by omega) (by omega) (by omega)
                · refine z_iload C 0 dX10_nearest_107 rfl ?_
                  refine z_iload_n C 3 dX10_nearest_109 rfl ?_
                  refine z_icmp_lt (tgt := 116) C dX10_nearest_110 (by decide) (by omega) (by omega) (fun hby116 => ?_) (fun hby116 => ?_)
                  · refine z_iload C 4 dX10_nearest_116 rfl ?_
                    refine z_istore_n (lv' := [(2, .int (zI ((ny74 : Int)))), (5, .int (zI (vy106))), (0, .ref (ad i)), (3, .int (zI (fw))), (4, .int (zI ((ny74 : Int))))]) C dX10_nearest_118 rfl (by decide) rfl ?_
                    refine z_iload C 1 dX10_nearest_119 rfl ?_
                    refine z_istore_n (lv' := [(3, .int (zI (vy106))), (2, .int (zI ((ny74 : Int)))), (5, .int (zI (vy106))), (0, .ref (ad i)), (4, .int (zI ((ny74 : Int))))]) C dX10_nearest_121 rfl (by decide) rfl ?_
                    refine z_iinc (z := (ny74 : Int) + 1) (lv' := [(4, .int (zI ((ny74 : Int) + 1))), (3, .int (zI (vy106))), (2, .int (zI ((ny74 : Int)))), (5, .int (zI (vy106))), (0, .ref (ad i))]) (j := 4) C dX10_nearest_122 rfl rfl (by decide) rfl ?_
                    refine z_goto (tgt := 40) C dX10_nearest_125 (by decide) ?_
                    have hgy117 := (hfvy106 (i) (ne_o (i := i) (c := 0) (d := 27) rfl)).trans hg_y81
                    have hgy118 := (hfvy106 (i + 1) (ne_o (i := i) (c := 1) (d := 27) rfl)).trans ha1_y81
                    have hMy119 : okMr cs ad gvy106 i (x) F9b r9b st op ai fa mu tb tp := okMr.upd fMb hgy117 fMb.2.1 (fun f _ => rfl) hgy118 (hA_y81.mono (by omega)) (fun j a b => by
                        by_cases e0 : j = i + 27
                        · exact Or.inr ⟨27, _, e0, lsP.l (by decide), by rw [e0]; exact hdvy106⟩
                        exact Or.inl (by rw [hfvy106 _ (by omega)]))
                    have hFF : (∀ f, f ≠ 12 → f ≠ 55 → f ≠ 56 → F9b f = F f) := fun f n12 n55 n56 => fFb f n12 n55 n56
                    have hey120 : F9b 13 = F9b 13 := rfl
                    have hey121 : F9b 14 = F9b 14 := rfl
                    have hey122 : F9b 55 = F9b 55 := rfl
                    refine z_lv (lv' := [(0, .ref (ad i)), (2, .int (zI ((ny74 : Int)))), (3, .int (zI (vy106))), (4, .int (zI ((ny74 : Int) + 1)))]) [4, 2, 1, 0] rfl ?_
                    exact ih_lp1 _ (by omega) ((ny74 : Int)) (vy106) ((ny74 : Int) + 1) _ _ gvy106 rfl hMy119 hFF (fun j j1 => by rw [hfvy106 _ (by omega)]; exact f3 j j1) (by omega) (by omega) (by omega) (by omega)
                  · refine z_goto (tgt := 122) C dX10_nearest_113 (by decide) ?_
                    refine z_iinc (z := (ny74 : Int) + 1) (lv' := [(4, .int (zI ((ny74 : Int) + 1))), (5, .int (zI (vy106))), (0, .ref (ad i)), (2, .int (zI (it))), (3, .int (zI (fw)))]) (j := 4) C dX10_nearest_122 rfl rfl (by decide) rfl ?_
                    refine z_goto (tgt := 40) C dX10_nearest_125 (by decide) ?_
                    have hgy123 := (hfvy106 (i) (ne_o (i := i) (c := 0) (d := 27) rfl)).trans hg_y81
                    have hgy124 := (hfvy106 (i + 1) (ne_o (i := i) (c := 1) (d := 27) rfl)).trans ha1_y81
                    have hMy125 : okMr cs ad gvy106 i (x) F9b r9b st op ai fa mu tb tp := okMr.upd fMb hgy123 fMb.2.1 (fun f _ => rfl) hgy124 (hA_y81.mono (by omega)) (fun j a b => by
                        by_cases e0 : j = i + 27
                        · exact Or.inr ⟨27, _, e0, lsP.l (by decide), by rw [e0]; exact hdvy106⟩
                        exact Or.inl (by rw [hfvy106 _ (by omega)]))
                    have hFF : (∀ f, f ≠ 12 → f ≠ 55 → f ≠ 56 → F9b f = F f) := fun f n12 n55 n56 => fFb f n12 n55 n56
                    have hey126 : F9b 13 = F9b 13 := rfl
                    have hey127 : F9b 14 = F9b 14 := rfl
                    have hey128 : F9b 55 = F9b 55 := rfl
                    refine z_lv (lv' := [(0, .ref (ad i)), (2, .int (zI (it))), (3, .int (zI (fw))), (4, .int (zI ((ny74 : Int) + 1)))]) [2, 3, 4, 0] rfl ?_
                    exact ih_lp1 _ (by omega) (it) (fw) ((ny74 : Int) + 1) _ _ gvy106 rfl hMy125 hFF (fun j j1 => by rw [hfvy106 _ (by omega)]; exact f3 j j1) (by omega) (by omega) (by omega) (by omega)
              · refine z_aload_n C 0 dX10_nearest_72 rfl ?_
                refine z_get (v := .ref (ad (i + 26))) C (lt_A0 hN rfl) hay82 hg_y81 rfl inA_X10 53 (by decide) q_1512 rfl rfl dX10_nearest_73 ?_
                refine z_iload C 4 dX10_nearest_76 rfl ?_
                refine z_aload_n C 0 dX10_nearest_78 rfl ?_
                refine z_iconst (z := 0) C dX10_nearest_79 rfl ?_
                refine z_iload C 3 dX10_nearest_80 rfl ?_
                refine z_iload C 4 dX10_nearest_82 rfl ?_
                refine z_iconst (z := 0) C dX10_nearest_84 rfl ?_
                obtain ⟨py129, hpy129⟩ : ∃ p9 : Nat, 0 + 6 + 86 * ny74 = p9 := ⟨_, rfl⟩
                obtain ⟨ky130, hky130⟩ : ∃ k9 : Nat, (ll) = (k9 : Int) := ⟨((ll) : Int).toNat, by omega⟩
                obtain ⟨qy131, hqy131⟩ : ∃ q9 : Nat, py129 + 2 + 7 * ky130 = q9 := ⟨_, rfl⟩
                refine z_cV (As := [.int (zI (0)), .int (zI ((ny74 : Int))), .int (zI (ll)), .int (zI (0))]) (rest := [.int (zI (ll)), .ref (ad (i + 26))]) (ci := 12) C (c_X10_of l D A cs tt N ad _ i hN _ hg_y81 _ ha1_y81 0 ny74 py129 hpy129 (by omega) (by omega) (ll) (0) (qy131) (by omega) (by omega) (by omega)) (lt_A0 hN rfl) hay82 hg_y81 rfl rfl mv_yX10_of q_1749 hd_yX10_of (by decide) (Nat.le_of_ble_eq_true rfl) (by decide) dX10_nearest_85 rfl (kI0 fun vy132 gvy132 hvy132 => ?_)
                obtain ⟨rfl, rfl⟩ := hvy132
                refine z_iast C (lt_A (c := 26) hN rfl) hay100 ha26_y81 ((ll).toNat) (by omega) (by omega) (by decide) dX10_nearest_88 (fun gy133 egy134 => ?_)
                have hgy135 := up_s egy134
                refine z_iinc (z := ll + 1) (lv' := [(5, .int (zI (ll + 1))), (0, .ref (ad i)), (2, .int (zI (it))), (3, .int (zI (fw))), (4, .int (zI ((ny74 : Int))))]) (j := 4) C dX10_nearest_89 rfl rfl (by decide) rfl ?_
                refine z_goto (tgt := 63) C dX10_nearest_92 (by decide) ?_
                have hgy136 := up_n egy134 hg_y81 (ne_o (i := i) (c := 0) (d := 26) rfl)
                have hgy137 := up_n egy134 ha1_y81 (ne_o (i := i) (c := 1) (d := 26) rfl)
                have hMy138 : okMr cs ad gy133 i (x) F9b r9b st op ai fa mu tb tp := okMr.upd fMb hgy136 fMb.2.1 (fun f _ => rfl) hgy137 (hA_y81.mono (by omega)) (fun j a b => by
                    by_cases e0 : j = i + 26
                    · exact Or.inr ⟨26, _, e0, lsP.l (by decide), by rw [e0]; exact hgy135⟩
                    exact Or.inl (by rw [egy134, va_up_ne _ _ (by omega)]))
                have hFFb : (∀ f, f ≠ 12 → f ≠ 55 → f ≠ 56 → F9b f = F f) := fun f n12 n55 n56 => fFb f n12 n55 n56
                have hey139 : F9b 13 = F9b 13 := rfl
                have hey140 : F9b 14 = F9b 14 := rfl
                have hey141 : F9b 55 = F9b 55 := rfl
                have hey142 : F9b 56 = F9b 56 := rfl
                refine z_lv (lv' := [(0, .ref (ad i)), (2, .int (zI (it))), (3, .int (zI (fw))), (4, .int (zI ((ny74 : Int)))), (5, .int (zI (ll + 1)))]) [1, 2, 3, 4, 0] rfl ?_
                exact ih_lp2 _ (by omega) (ll + 1) _ _ gy133 rfl hMy138 hFFb (fun j j1 => by rw [egy134, va_up_ne _ _ (by omega)]; exact f3 j j1) (by omega) (by omega)
          have hgy143 := up_n egy79 ha1_y41 (ne_o (i := i) (c := 1) (d := 0) rfl)
          have hFy144 : ∀ f, f ≠ 56 → (uZ F9 56 (r9 (py75))) f = F9 f := fun f n56 => ((uZ_n _ _ n56).trans rfl)
          have hey145 : (uZ F9 56 (r9 (py75))) 13 = F9 13 := (fn rfl (by decide))
          have hey146 : (uZ F9 56 (r9 (py75))) 14 = F9 14 := (fn rfl (by decide))
          have hey147 : (uZ F9 56 (r9 (py75))) 15 = F9 15 := (fn rfl (by decide))
          have hey148 : (uZ F9 56 (r9 (py75))) 16 = F9 16 := (fn rfl (by decide))
          have hey149 : (uZ F9 56 (r9 (py75))) 17 = F9 17 := (fn rfl (by decide))
          have hey150 : (uZ F9 56 (r9 (py75))) 18 = F9 18 := (fn rfl (by decide))
          have hey151 : (uZ F9 56 (r9 (py75))) 19 = F9 19 := (fn rfl (by decide))
          have hey152 : (uZ F9 56 (r9 (py75))) 20 = F9 20 := (fn rfl (by decide))
          have hey153 : (uZ F9 56 (r9 (py75))) 21 = F9 21 := (fn rfl (by decide))
          have hey154 : (uZ F9 56 (r9 (py75))) 23 = F9 23 := (fn rfl (by decide))
          have hey155 : (uZ F9 56 (r9 (py75))) 25 = F9 25 := (fn rfl (by decide))
          have hey156 : (uZ F9 56 (r9 (py75))) 27 = F9 27 := (fn rfl (by decide))
          have hey157 : (uZ F9 56 (r9 (py75))) 28 = F9 28 := (fn rfl (by decide))
          have hey158 : (uZ F9 56 (r9 (py75))) 29 = F9 29 := (fn rfl (by decide))
          have hKy159 : okF (uZ F9 56 (r9 (py75))) := okF.mv fM.2.1 hey145 hey146 hey147 hey148 hey149 hey150 hey151 hey152 hey153 hey154 hey155 hey156 hey157 hey158
          have hMy160 : okMr cs ad gy78 i (x) (uZ F9 56 (r9 (py75))) r9 st op ai fa mu tb tp := okMr.upd fM hgy80 hKy159 (fun f a => hFy144 f (by omega)) hgy143 (hA_y41.mono (by omega)) (fun j a b => by
              exact Or.inl (by rw [egy79, va_up_ne _ _ (by omega)]))
          have hFy161 : ∀ f, f ≠ 56 → (uZ F9 56 (r9 (py75))) f = F9 f := fun f n56 => ((uZ_n _ _ n56).trans rfl)
          have hFFb : (∀ f, f ≠ 12 → f ≠ 55 → f ≠ 56 → (uZ F9 56 (r9 (py75))) f = F f) := fun f n12 n55 n56 => (hFy161 f n56).trans (fF f n12 n55 n56)
          have hey162 : (uZ F9 56 (r9 (py75))) 13 = F9 13 := (fn rfl (by decide))
          have hey163 : (uZ F9 56 (r9 (py75))) 14 = F9 14 := (fn rfl (by decide))
          have hey164 : (uZ F9 56 (r9 (py75))) 55 = F9 55 := (fn rfl (by decide))
          have hey165 : (uZ F9 56 (r9 (py75))) 56 = r9 (py75) := (uZ_s _ _ _)
          refine z_lv (lv' := [(0, .ref (ad i)), (2, .int (zI (it))), (3, .int (zI (fw))), (4, .int (zI ((ny74 : Int)))), (5, .int (zI (0)))]) [1, 2, 3, 4, 0] rfl ?_
          exact lp2 _ (0) _ _ gy78 rfl hMy160 hFFb (fun j j1 => by rw [egy79, va_up_ne _ _ (by omega)]; exact f3 j j1) (by omega) (by omega)
    have hgy166 := (hfvy40 (i) (ne_o (i := i) (c := 0) (d := 25) rfl)).trans hgy35
    have hgy167 := (hfvy28 (i + 1) (ne_o (i := i) (c := 1) (d := 0) rfl)).trans hgy27
    have hgy168 := up_n egy34 hgy167 (ne_o (i := i) (c := 1) (d := 0) rfl)
    have hgy169 := (hfvy40 (i + 1) (ne_o (i := i) (c := 1) (d := 25) rfl)).trans hgy168
    have hFy170 : ∀ f, f ≠ 12 → f ≠ 55 → (uZ Fvy28 55 (pi (90 * n0 + 2))) f = F f := fun f n12 n55 => ((uZ_n _ _ n55).trans ((hFvy28 f n12).trans ((uZ_n _ _ n12).trans rfl)))
    have hey171 : (uZ Fvy28 55 (pi (90 * n0 + 2))) 13 = F 13 := (fn ((hFvy28 13 (by decide)).trans (fn rfl (by decide))) (by decide))
    have hey172 : (uZ Fvy28 55 (pi (90 * n0 + 2))) 14 = F 14 := (fn ((hFvy28 14 (by decide)).trans (fn rfl (by decide))) (by decide))
    have hey173 : (uZ Fvy28 55 (pi (90 * n0 + 2))) 15 = F 15 := (fn ((hFvy28 15 (by decide)).trans (fn rfl (by decide))) (by decide))
    have hey174 : (uZ Fvy28 55 (pi (90 * n0 + 2))) 16 = F 16 := (fn ((hFvy28 16 (by decide)).trans (fn rfl (by decide))) (by decide))
    have hey175 : (uZ Fvy28 55 (pi (90 * n0 + 2))) 17 = F 17 := (fn ((hFvy28 17 (by decide)).trans (fn rfl (by decide))) (by decide))
    have hey176 : (uZ Fvy28 55 (pi (90 * n0 + 2))) 18 = F 18 := (fn ((hFvy28 18 (by decide)).trans (fn rfl (by decide))) (by decide))
    have hey177 : (uZ Fvy28 55 (pi (90 * n0 + 2))) 19 = F 19 := (fn ((hFvy28 19 (by decide)).trans (fn rfl (by decide))) (by decide))
    have hey178 : (uZ Fvy28 55 (pi (90 * n0 + 2))) 20 = F 20 := (fn ((hFvy28 20 (by decide)).trans (fn rfl (by decide))) (by decide))
    have hey179 : (uZ Fvy28 55 (pi (90 * n0 + 2))) 21 = F 21 := (fn ((hFvy28 21 (by decide)).trans (fn rfl (by decide))) (by decide))
    have hey180 : (uZ Fvy28 55 (pi (90 * n0 + 2))) 23 = F 23 := (fn ((hFvy28 23 (by decide)).trans (fn rfl (by decide))) (by decide))
    have hey181 : (uZ Fvy28 55 (pi (90 * n0 + 2))) 25 = F 25 := (fn ((hFvy28 25 (by decide)).trans (fn rfl (by decide))) (by decide))
    have hey182 : (uZ Fvy28 55 (pi (90 * n0 + 2))) 27 = F 27 := (fn ((hFvy28 27 (by decide)).trans (fn rfl (by decide))) (by decide))
    have hey183 : (uZ Fvy28 55 (pi (90 * n0 + 2))) 28 = F 28 := (fn ((hFvy28 28 (by decide)).trans (fn rfl (by decide))) (by decide))
    have hey184 : (uZ Fvy28 55 (pi (90 * n0 + 2))) 29 = F 29 := (fn ((hFvy28 29 (by decide)).trans (fn rfl (by decide))) (by decide))
    have hKy185 : okF (uZ Fvy28 55 (pi (90 * n0 + 2))) := okF.mv hM.2.1 hey171 hey172 hey173 hey174 hey175 hey176 hey177 hey178 hey179 hey180 hey181 hey182 hey183 hey184
    have hMy186 : okMr cs ad gvy40 i (x) (uZ Fvy28 55 (pi (90 * n0 + 2))) r st op ai fa mu tb tp := okMr.upd hM hgy166 hKy185 (fun f a => hFy170 f (by omega) (by omega)) hgy169 (hA.mono (by omega)) (fun j a b => by
        by_cases e0 : j = i + 25
        · exact Or.inr ⟨25, _, e0, lsP.l (by decide), by rw [e0]; exact hdvy40⟩
        exact Or.inl (by rw [hfvy40 _ (by omega)]; rw [egy34, va_up_ne _ _ (by omega)]; rw [hfvy28 _ (by omega)]; rw [egy25, va_up_ne _ _ (by omega)]))
    have hFy187 : ∀ f, f ≠ 12 → f ≠ 55 → (uZ Fvy28 55 (pi (90 * n0 + 2))) f = F f := fun f n12 n55 => ((uZ_n _ _ n55).trans ((hFvy28 f n12).trans ((uZ_n _ _ n12).trans rfl)))
    have hFF : (∀ f, f ≠ 12 → f ≠ 55 → f ≠ 56 → (uZ Fvy28 55 (pi (90 * n0 + 2))) f = F f) := fun f n12 n55 n56 => (hFy187 f n12 n55)
    have hey188 : (uZ Fvy28 55 (pi (90 * n0 + 2))) 13 = F 13 := (fn ((hFvy28 13 (by decide)).trans (fn rfl (by decide))) (by decide))
    have hey189 : (uZ Fvy28 55 (pi (90 * n0 + 2))) 14 = F 14 := (fn ((hFvy28 14 (by decide)).trans (fn rfl (by decide))) (by decide))
    have hey190 : (uZ Fvy28 55 (pi (90 * n0 + 2))) 55 = pi (90 * n0 + 2) := (uZ_s _ _ _)
    refine z_lv (lv' := [(0, .ref (ad i)), (2, .int (zI (-1))), (3, .int (zI (0))), (4, .int (zI (0)))]) [3, 2, 1, 0] rfl ?_
    exact lp1 _ (-1) (0) (0) _ _ gvy40 rfl hMy186 hFF (fun j j1 => by rw [hfvy40 _ (by omega)]; rw [egy34, va_up_ne _ _ (by omega)]; rw [hfvy28 _ (by omega)]; rw [egy25, va_up_ne _ _ (by omega)]) (by omega) (by omega) (by omega) (by omega)
  · refine z_if_ne (tgt := 15) C dX10_nearest_10 (by decide) (by omega) (fun h => absurd h (by omega)) (fun _ => ?_)
    refine z_iconst (z := 0) C dX10_nearest_13 rfl ?_
    have hgy191 := (hfvy28 (i + 1) (ne_o (i := i) (c := 1) (d := 0) rfl)).trans hgy27
    have hFy192 : ∀ f, f ≠ 12 → Fvy28 f = F f := fun f n12 => ((hFvy28 f n12).trans ((uZ_n _ _ n12).trans rfl))
    have hey193 : Fvy28 13 = F 13 := ((hFvy28 13 (by decide)).trans (fn rfl (by decide)))
    have hey194 : Fvy28 14 = F 14 := ((hFvy28 14 (by decide)).trans (fn rfl (by decide)))
    have hey195 : Fvy28 15 = F 15 := ((hFvy28 15 (by decide)).trans (fn rfl (by decide)))
    have hey196 : Fvy28 16 = F 16 := ((hFvy28 16 (by decide)).trans (fn rfl (by decide)))
    have hey197 : Fvy28 17 = F 17 := ((hFvy28 17 (by decide)).trans (fn rfl (by decide)))
    have hey198 : Fvy28 18 = F 18 := ((hFvy28 18 (by decide)).trans (fn rfl (by decide)))
    have hey199 : Fvy28 19 = F 19 := ((hFvy28 19 (by decide)).trans (fn rfl (by decide)))
    have hey200 : Fvy28 20 = F 20 := ((hFvy28 20 (by decide)).trans (fn rfl (by decide)))
    have hey201 : Fvy28 21 = F 21 := ((hFvy28 21 (by decide)).trans (fn rfl (by decide)))
    have hey202 : Fvy28 23 = F 23 := ((hFvy28 23 (by decide)).trans (fn rfl (by decide)))
    have hey203 : Fvy28 25 = F 25 := ((hFvy28 25 (by decide)).trans (fn rfl (by decide)))
    have hey204 : Fvy28 27 = F 27 := ((hFvy28 27 (by decide)).trans (fn rfl (by decide)))
    have hey205 : Fvy28 28 = F 28 := ((hFvy28 28 (by decide)).trans (fn rfl (by decide)))
    have hey206 : Fvy28 29 = F 29 := ((hFvy28 29 (by decide)).trans (fn rfl (by decide)))
    have hKy207 : okF Fvy28 := okF.mv hM.2.1 hey193 hey194 hey195 hey196 hey197 hey198 hey199 hey200 hey201 hey202 hey203 hey204 hey205 hey206
    have hMy208 : okMr cs ad gvy28 i (x + 1) Fvy28 r st op ai fa mu tb tp := okMr.upd hM hcvy28 hKy207 (fun f a => hFy192 f (by omega)) hgy191 (hA.mono (by omega)) (fun j a b => by
        exact Or.inl (by rw [hfvy28 _ (by omega)]; rw [egy25, va_up_ne _ _ (by omega)]))
    have hkpy209 : Fvy28 13 = F 13 := ((hFvy28 13 (by decide)).trans (fn rfl (by decide)))
    have hkpy210 : Fvy28 14 = F 14 := ((hFvy28 14 (by decide)).trans (fn rfl (by decide)))
    have hkpy211 : Fvy28 17 = F 17 := ((hFvy28 17 (by decide)).trans (fn rfl (by decide)))
    have hkpy212 : Fvy28 20 = F 20 := ((hFvy28 20 (by decide)).trans (fn rfl (by decide)))
    have hkpy213 : Fvy28 21 = F 21 := ((hFvy28 21 (by decide)).trans (fn rfl (by decide)))
    have hkpy214 : Fvy28 23 = F 23 := ((hFvy28 23 (by decide)).trans (fn rfl (by decide)))
    have hkpy215 : Fvy28 24 = F 24 := ((hFvy28 24 (by decide)).trans (fn rfl (by decide)))
    exact z_iret C hr hlk dX10_nearest_14 (by decide) (by decide) ⟨0, rfl, rfl, rfl, by omega, ⟨_, _, hMy208, ⟨hkpy209, hkpy210, hkpy211, hkpy212, hkpy213, hkpy214, hkpy215⟩⟩, fun j j1 => by rw [hfvy28 _ (by omega)]; rw [egy25, va_up_ne _ _ (by omega)]⟩

set_option maxRecDepth 100000 in
set_option maxHeartbeats 4000000 in
theorem c_X10_nearest_b (l : Launch) (D : va_G) (A : Nat → Prop) (cs : Nat → ClassId) (tt : Nat) (N : Nat) (ad : Nat → Nat) (g : Nat → va_E) (i : Nat) (hN : i + 30 ≤ N) (x : Int) (hx : 0 ≤ x ∧ x ≤ 512) (F r : Nat → Int) {st op ai fa mu tb tp : Nat → Int} (hM : okMr cs ad g i x F r st op ai fa mu tb tp) (z : Int) (hz : -2147483648 ≤ z ∧ z ≤ 2147483647) (ho0 : z < 0 ∨ 5 < z) : zM l yX10_nearest cX10_nearest 6 (some .int) ({ frames := 3, cells := 0, slots := 0, locals := 180 } : Room) D A cs tt N ad g [.ref (ad i), .int (zI (z))] (rI0 N ad fun q g' => (-2147483648 ≤ q ∧ q ≤ 2147483647) ∧ (∃ F' r' : Nat → Int, okMr cs ad g' i (x + 1) F' r' st op ai fa mu tb tp ∧ (F' 13 = F 13 ∧ F' 14 = F 14 ∧ F' 17 = F 17 ∧ F' 20 = F 20 ∧ F' 21 = F 21 ∧ F' 23 = F 23 ∧ F' 24 = F 24)) ∧ ∀ j, j < i ∨ i + 30 ≤ j → g' j = g j) := by
  obtain ⟨hg, ⟨⟨e13, e14, e25, e27, e29⟩, k15, k16, k17, k18, k19, k20, k23, k21⟩, hRD, hTx, hA, ns, nh, nd, rf, pi, te, ki, li, ok1, ok2, fo, dd, dps, ⟨ha1, ha2, ha3, ha4, ha5, ha6, ha7, ha8, ha9, ha10, ha11, ha12, ha13, ha14, ha15, ha24, ha25, ha26, ha27, ha28, ha29⟩, hEv, hPt, hns, htp⟩ := id hM
  obtain ⟨-, hop, hai, hfa, hT, hT1⟩ := id hEv
  have hay1 : zAt ad (i) (ad i) := rfl
  have hay2 : zAt ad (i + 1) (ad (i + 1)) := rfl
  have hay3 : zAt ad (i + 2) (ad (i + 2)) := rfl
  have hay4 : zAt ad (i + 3) (ad (i + 3)) := rfl
  have hay5 : zAt ad (i + 4) (ad (i + 4)) := rfl
  have hay6 : zAt ad (i + 5) (ad (i + 5)) := rfl
  have hay7 : zAt ad (i + 6) (ad (i + 6)) := rfl
  have hay8 : zAt ad (i + 7) (ad (i + 7)) := rfl
  have hay9 : zAt ad (i + 8) (ad (i + 8)) := rfl
  have hay10 : zAt ad (i + 9) (ad (i + 9)) := rfl
  have hay11 : zAt ad (i + 10) (ad (i + 10)) := rfl
  have hay12 : zAt ad (i + 11) (ad (i + 11)) := rfl
  have hay13 : zAt ad (i + 12) (ad (i + 12)) := rfl
  have hay14 : zAt ad (i + 13) (ad (i + 13)) := rfl
  have hay15 : zAt ad (i + 14) (ad (i + 14)) := rfl
  have hay16 : zAt ad (i + 15) (ad (i + 15)) := rfl
  have hay17 : zAt ad (i + 24) (ad (i + 24)) := rfl
  have hay18 : zAt ad (i + 25) (ad (i + 25)) := rfl
  have hay19 : zAt ad (i + 26) (ad (i + 26)) := rfl
  have hay20 : zAt ad (i + 27) (ad (i + 27)) := rfl
  have hay21 : zAt ad (i + 28) (ad (i + 28)) := rfl
  have hay22 : zAt ad (i + 29) (ad (i + 29)) := rfl
  obtain ⟨⟨hsyy23, htyy23, hnyy23, hpyy23⟩, hlyy23⟩ := okA.at0 hA
  simp only [Nat.zero_add] at hsyy23 hnyy23 hpyy23
  have hmn : ∀ s, s < 4 → 0 ≤ r (6 + 86 * s) ∧ r (6 + 86 * s) ≤ 12 := fun s hs => (hsyy23 s hs).1
  have h5 : 0 ≤ r 5 ∧ r 5 ≤ 6 := hpyy23
  refine z_of (by decide) (Nat.le_of_ble_eq_true rfl) ?_
  intro pZ eZ sZ mZ below meth cZ C hr hlk hnm
  refine z_lv (lv' := [(0, .ref (ad i)), (1, .int (zI (z)))]) [0, 1] rfl ?_
  refine z_aload_n C 0 dX10_nearest_0 rfl ?_
  refine z_iconst (z := 0) C dX10_nearest_1 rfl ?_
  refine z_put (fs' := mF ad (i) (uZ F 12 (0))) C (lt_A0 hN rfl) hay1 hg tyX10 tyX10_ok nmX10 rfl inA_X10 12 (by decide) q_1471 rfl rfl rfl rfl (Nat.le_of_ble_eq_true rfl) rfl dX10_nearest_2 (fun gy24 egy25 => ?_)
  have hgy26 := up_s egy25
  refine z_aload_n C 0 dX10_nearest_5 rfl ?_
  refine z_iload_n C 1 dX10_nearest_6 rfl ?_
  have hgy27 := up_n egy25 ha1 (ne_o (i := i) (c := 1) (d := 0) rfl)
  have hey29 : (uZ F 12 (0)) 12 = 0 := (uZ_s _ _ _)
  refine z_cV (As := [.int (zI (z))]) (rest := []) (ci := 12) C (c_X10_isPit l D A cs tt N ad _ i hN _ hgy26 _ hgy27 (by omega) h5 (z) (by omega)) (lt_A0 hN rfl) hay1 hgy26 rfl rfl mv_yX10_isPit q_2027 hd_yX10_isPit (by decide) (Nat.le_of_ble_eq_true rfl) (by decide) dX10_nearest_7 rfl (kI0 fun vy28 gvy28 hvy28 => ?_)
  obtain ⟨hrvy28, ⟨Fvy28, hcvy28, htvy28, hFvy28⟩, hfvy28⟩ := hvy28
  obtain rfl : vy28 = 0 := by omega
  refine z_if_ne (tgt := 15) C dX10_nearest_10 (by decide) (by omega) (fun h => absurd h (by omega)) (fun _ => ?_)
  refine z_iconst (z := 0) C dX10_nearest_13 rfl ?_
  have hgy30 := (hfvy28 (i + 1) (ne_o (i := i) (c := 1) (d := 0) rfl)).trans hgy27
  have hFy31 : ∀ f, f ≠ 12 → Fvy28 f = F f := fun f n12 => ((hFvy28 f n12).trans ((uZ_n _ _ n12).trans rfl))
  have hey32 : Fvy28 13 = F 13 := ((hFvy28 13 (by decide)).trans (fn rfl (by decide)))
  have hey33 : Fvy28 14 = F 14 := ((hFvy28 14 (by decide)).trans (fn rfl (by decide)))
  have hey34 : Fvy28 15 = F 15 := ((hFvy28 15 (by decide)).trans (fn rfl (by decide)))
  have hey35 : Fvy28 16 = F 16 := ((hFvy28 16 (by decide)).trans (fn rfl (by decide)))
  have hey36 : Fvy28 17 = F 17 := ((hFvy28 17 (by decide)).trans (fn rfl (by decide)))
  have hey37 : Fvy28 18 = F 18 := ((hFvy28 18 (by decide)).trans (fn rfl (by decide)))
  have hey38 : Fvy28 19 = F 19 := ((hFvy28 19 (by decide)).trans (fn rfl (by decide)))
  have hey39 : Fvy28 20 = F 20 := ((hFvy28 20 (by decide)).trans (fn rfl (by decide)))
  have hey40 : Fvy28 21 = F 21 := ((hFvy28 21 (by decide)).trans (fn rfl (by decide)))
  have hey41 : Fvy28 23 = F 23 := ((hFvy28 23 (by decide)).trans (fn rfl (by decide)))
  have hey42 : Fvy28 25 = F 25 := ((hFvy28 25 (by decide)).trans (fn rfl (by decide)))
  have hey43 : Fvy28 27 = F 27 := ((hFvy28 27 (by decide)).trans (fn rfl (by decide)))
  have hey44 : Fvy28 28 = F 28 := ((hFvy28 28 (by decide)).trans (fn rfl (by decide)))
  have hey45 : Fvy28 29 = F 29 := ((hFvy28 29 (by decide)).trans (fn rfl (by decide)))
  have hKy46 : okF Fvy28 := okF.mv hM.2.1 hey32 hey33 hey34 hey35 hey36 hey37 hey38 hey39 hey40 hey41 hey42 hey43 hey44 hey45
  have hMy47 : okMr cs ad gvy28 i (x + 1) Fvy28 r st op ai fa mu tb tp := okMr.upd hM hcvy28 hKy46 (fun f a => hFy31 f (by omega)) hgy30 (hA.mono (by omega)) (fun j a b => by
      exact Or.inl (by rw [hfvy28 _ (by omega)]; rw [egy25, va_up_ne _ _ (by omega)]))
  have hkpy48 : Fvy28 13 = F 13 := ((hFvy28 13 (by decide)).trans (fn rfl (by decide)))
  have hkpy49 : Fvy28 14 = F 14 := ((hFvy28 14 (by decide)).trans (fn rfl (by decide)))
  have hkpy50 : Fvy28 17 = F 17 := ((hFvy28 17 (by decide)).trans (fn rfl (by decide)))
  have hkpy51 : Fvy28 20 = F 20 := ((hFvy28 20 (by decide)).trans (fn rfl (by decide)))
  have hkpy52 : Fvy28 21 = F 21 := ((hFvy28 21 (by decide)).trans (fn rfl (by decide)))
  have hkpy53 : Fvy28 23 = F 23 := ((hFvy28 23 (by decide)).trans (fn rfl (by decide)))
  have hkpy54 : Fvy28 24 = F 24 := ((hFvy28 24 (by decide)).trans (fn rfl (by decide)))
  exact z_iret C hr hlk dX10_nearest_14 (by decide) (by decide) ⟨0, rfl, rfl, rfl, by omega, ⟨_, _, hMy47, ⟨hkpy48, hkpy49, hkpy50, hkpy51, hkpy52, hkpy53, hkpy54⟩⟩, fun j j1 => by rw [hfvy28 _ (by omega)]; rw [egy25, va_up_ne _ _ (by omega)]⟩

set_option maxRecDepth 100000 in
set_option maxHeartbeats 4000000 in
theorem c_X10_nearest (l : Launch) (D : va_G) (A : Nat → Prop) (cs : Nat → ClassId) (tt : Nat) (N : Nat) (ad : Nat → Nat) (g : Nat → va_E) (i : Nat) (hN : i + 30 ≤ N) (x : Int) (hx : 0 ≤ x ∧ x ≤ 512) (F r : Nat → Int) {st op ai fa mu tb tp : Nat → Int} (hM : okMr cs ad g i x F r st op ai fa mu tb tp) (z : Int) (hz : -2147483648 ≤ z ∧ z ≤ 2147483647) : zM l yX10_nearest cX10_nearest 6 (some .int) ({ frames := 3, cells := 0, slots := 0, locals := 180 } : Room) D A cs tt N ad g [.ref (ad i), .int (zI (z))] (rI0 N ad fun q g' => (-2147483648 ≤ q ∧ q ≤ 2147483647) ∧ (∃ F' r' : Nat → Int, okMr cs ad g' i (x + 1) F' r' st op ai fa mu tb tp ∧ (F' 13 = F 13 ∧ F' 14 = F 14 ∧ F' 17 = F 17 ∧ F' 20 = F 20 ∧ F' 21 = F 21 ∧ F' 23 = F 23 ∧ F' 24 = F 24)) ∧ ∀ j, j < i ∨ i + 30 ≤ j → g' j = g j) := by
  by_cases hk0 : 0 ≤ z ∧ z ≤ 5
  · obtain ⟨n0, rfl⟩ : ∃ n : Nat, z = (n : Int) := ⟨z.toNat, by omega⟩
    exact c_X10_nearest_a l D A cs tt N ad g i hN x hx F r hM n0 (by omega) 
  · exact c_X10_nearest_b l D A cs tt N ad g i hN x hx F r hM z hz (by omega)
end
section
-- 99m.words.lean.txt
-- words of refimg
theorem q_1477 : (Jvm.Cond.fieldLink "SnowRecorderModel" (469 : Nat) "SnowRecorderModel" "imageActs" "I") ∈ AW := AW_m7 37 (by decide +kernel) (by decide +kernel)
theorem q_1478 : (Jvm.Cond.fieldLink "SnowRecorderModel" (472 : Nat) "SnowRecorderModel" "imageFirst" "I") ∈ AW := AW_m7 38 (by decide +kernel) (by decide +kernel)
theorem q_1479 : (Jvm.Cond.fieldLink "SnowRecorderModel" (475 : Nat) "SnowRecorderModel" "imageNotes" "I") ∈ AW := AW_m7 39 (by decide +kernel) (by decide +kernel)
theorem q_1480 : (Jvm.Cond.fieldLink "SnowRecorderModel" (333 : Nat) "SnowRecorderModel" "hasImage" "I") ∈ AW := AW_m7 40 (by decide +kernel) (by decide +kernel)
end
section
-- 99n.dec.lean.txt
-- decode rows of refimg
theorem dX10_pit_0 : decode cX10_pit 0 = .ok (.aload_n 0, 1) := by decide +kernel
theorem dX10_pit_1 : decode cX10_pit 1 = .ok (.iconst 0, 1) := by decide +kernel
theorem dX10_pit_2 : decode cX10_pit 2 = .ok (.putfield 110, 3) := by decide +kernel
theorem dX10_pit_5 : decode cX10_pit 5 = .ok (.iload_n 1, 1) := by decide +kernel
theorem dX10_pit_6 : decode cX10_pit 6 = .ok (.iconst 0, 1) := by decide +kernel
theorem dX10_pit_7 : decode cX10_pit 7 = .ok (.aload_n 0, 1) := by decide +kernel
theorem dX10_pit_8 : decode cX10_pit 8 = .ok (.getfield 198, 3) := by decide +kernel
theorem dX10_pit_11 : decode cX10_pit 11 = .ok (.iconst 1, 1) := by decide +kernel
theorem dX10_pit_12 : decode cX10_pit 12 = .ok (.isub, 1) := by decide +kernel
theorem dX10_pit_13 : decode cX10_pit 13 = .ok (.invokestatic 281, 3) := by decide +kernel
theorem dX10_pit_16 : decode cX10_pit 16 = .ok (.ifCond .eq 14, 3) := by decide +kernel
theorem dX10_pit_19 : decode cX10_pit 19 = .ok (.aload_n 0, 1) := by decide +kernel
theorem dX10_pit_20 : decode cX10_pit 20 = .ok (.getfield 9, 3) := by decide +kernel
theorem dX10_pit_23 : decode cX10_pit 23 = .ok (.iconst 5, 1) := by decide +kernel
theorem dX10_pit_24 : decode cX10_pit 24 = .ok (.iaload, 1) := by decide +kernel
theorem dX10_pit_25 : decode cX10_pit 25 = .ok (.bipush 6, 2) := by decide +kernel
theorem dX10_pit_27 : decode cX10_pit 27 = .ok (.if_icmp .ne 9, 3) := by decide +kernel
theorem dX10_pit_36 : decode cX10_pit 36 = .ok (.aload_n 0, 1) := by decide +kernel
theorem dX10_pit_37 : decode cX10_pit 37 = .ok (.invokevirtual 397, 3) := by decide +kernel
theorem dX10_pit_40 : decode cX10_pit 40 = .ok (.bipush 90, 2) := by decide +kernel
theorem dX10_pit_42 : decode cX10_pit 42 = .ok (.aload_n 0, 1) := by decide +kernel
theorem dX10_pit_43 : decode cX10_pit 43 = .ok (.getfield 9, 3) := by decide +kernel
theorem dX10_pit_46 : decode cX10_pit 46 = .ok (.iconst 5, 1) := by decide +kernel
theorem dX10_pit_47 : decode cX10_pit 47 = .ok (.iaload, 1) := by decide +kernel
theorem dX10_pit_48 : decode cX10_pit 48 = .ok (.imul, 1) := by decide +kernel
theorem dX10_pit_49 : decode cX10_pit 49 = .ok (.istore_n 2, 1) := by decide +kernel
theorem dX10_pit_50 : decode cX10_pit 50 = .ok (.aload_n 0, 1) := by decide +kernel
theorem dX10_pit_51 : decode cX10_pit 51 = .ok (.getfield 43, 3) := by decide +kernel
theorem dX10_pit_54 : decode cX10_pit 54 = .ok (.iload_n 2, 1) := by decide +kernel
theorem dX10_pit_55 : decode cX10_pit 55 = .ok (.iload_n 1, 1) := by decide +kernel
theorem dX10_pit_56 : decode cX10_pit 56 = .ok (.iastore, 1) := by decide +kernel
theorem dX10_pit_57 : decode cX10_pit 57 = .ok (.aload_n 0, 1) := by decide +kernel
theorem dX10_pit_58 : decode cX10_pit 58 = .ok (.getfield 43, 3) := by decide +kernel
theorem dX10_pit_61 : decode cX10_pit 61 = .ok (.iload_n 2, 1) := by decide +kernel
theorem dX10_pit_62 : decode cX10_pit 62 = .ok (.iconst 1, 1) := by decide +kernel
theorem dX10_pit_63 : decode cX10_pit 63 = .ok (.iadd, 1) := by decide +kernel
theorem dX10_pit_64 : decode cX10_pit 64 = .ok (.aload_n 0, 1) := by decide +kernel
theorem dX10_pit_65 : decode cX10_pit 65 = .ok (.getfield 9, 3) := by decide +kernel
theorem dX10_pit_68 : decode cX10_pit 68 = .ok (.iconst 0, 1) := by decide +kernel
theorem dX10_pit_69 : decode cX10_pit 69 = .ok (.iaload, 1) := by decide +kernel
theorem dX10_pit_70 : decode cX10_pit 70 = .ok (.iastore, 1) := by decide +kernel
theorem dX10_pit_71 : decode cX10_pit 71 = .ok (.aload_n 0, 1) := by decide +kernel
theorem dX10_pit_72 : decode cX10_pit 72 = .ok (.getfield 43, 3) := by decide +kernel
theorem dX10_pit_75 : decode cX10_pit 75 = .ok (.iload_n 2, 1) := by decide +kernel
theorem dX10_pit_76 : decode cX10_pit 76 = .ok (.iconst 2, 1) := by decide +kernel
theorem dX10_pit_77 : decode cX10_pit 77 = .ok (.iadd, 1) := by decide +kernel
theorem dX10_pit_78 : decode cX10_pit 78 = .ok (.aload_n 0, 1) := by decide +kernel
theorem dX10_pit_79 : decode cX10_pit 79 = .ok (.iconst 0, 1) := by decide +kernel
theorem dX10_pit_80 : decode cX10_pit 80 = .ok (.iload_n 1, 1) := by decide +kernel
theorem dX10_pit_81 : decode cX10_pit 81 = .ok (.invokevirtual 121, 3) := by decide +kernel
theorem dX10_pit_84 : decode cX10_pit 84 = .ok (.iastore, 1) := by decide +kernel
theorem dX10_pit_85 : decode cX10_pit 85 = .ok (.iconst 0, 1) := by decide +kernel
theorem dX10_pit_86 : decode cX10_pit 86 = .ok (.istore_n 3, 1) := by decide +kernel
theorem dX10_pit_87 : decode cX10_pit 87 = .ok (.iload_n 3, 1) := by decide +kernel
theorem dX10_pit_88 : decode cX10_pit 88 = .ok (.bipush 84, 2) := by decide +kernel
theorem dX10_pit_90 : decode cX10_pit 90 = .ok (.if_icmp .ge 35, 3) := by decide +kernel
theorem dX10_pit_125 : decode cX10_pit 125 = .ok (.aload_n 0, 1) := by decide +kernel
theorem dX10_pit_126 : decode cX10_pit 126 = .ok (.getfield 9, 3) := by decide +kernel
theorem dX10_pit_129 : decode cX10_pit 129 = .ok (.iconst 5, 1) := by decide +kernel
theorem dX10_pit_130 : decode cX10_pit 130 = .ok (.dup2, 1) := by decide +kernel
theorem dX10_pit_131 : decode cX10_pit 131 = .ok (.iaload, 1) := by decide +kernel
theorem dX10_pit_132 : decode cX10_pit 132 = .ok (.iconst 1, 1) := by decide +kernel
theorem dX10_pit_133 : decode cX10_pit 133 = .ok (.iadd, 1) := by decide +kernel
theorem dX10_pit_134 : decode cX10_pit 134 = .ok (.iastore, 1) := by decide +kernel
theorem dX10_pit_135 : decode cX10_pit 135 = .ok (.aload_n 0, 1) := by decide +kernel
theorem dX10_pit_136 : decode cX10_pit 136 = .ok (.getfield 9, 3) := by decide +kernel
theorem dX10_pit_139 : decode cX10_pit 139 = .ok (.iconst 5, 1) := by decide +kernel
theorem dX10_pit_140 : decode cX10_pit 140 = .ok (.iaload, 1) := by decide +kernel
theorem dX10_pit_141 : decode cX10_pit 141 = .ok (.ireturn, 1) := by decide +kernel
theorem dX10_pit_93 : decode cX10_pit 93 = .ok (.aload_n 0, 1) := by decide +kernel
theorem dX10_pit_94 : decode cX10_pit 94 = .ok (.getfield 43, 3) := by decide +kernel
theorem dX10_pit_97 : decode cX10_pit 97 = .ok (.iload_n 2, 1) := by decide +kernel
theorem dX10_pit_98 : decode cX10_pit 98 = .ok (.iconst 3, 1) := by decide +kernel
theorem dX10_pit_99 : decode cX10_pit 99 = .ok (.iadd, 1) := by decide +kernel
theorem dX10_pit_100 : decode cX10_pit 100 = .ok (.iload_n 3, 1) := by decide +kernel
theorem dX10_pit_101 : decode cX10_pit 101 = .ok (.iadd, 1) := by decide +kernel
theorem dX10_pit_102 : decode cX10_pit 102 = .ok (.aload_n 0, 1) := by decide +kernel
theorem dX10_pit_103 : decode cX10_pit 103 = .ok (.getfield 9, 3) := by decide +kernel
theorem dX10_pit_106 : decode cX10_pit 106 = .ok (.bipush 6, 2) := by decide +kernel
theorem dX10_pit_108 : decode cX10_pit 108 = .ok (.bipush 86, 2) := by decide +kernel
theorem dX10_pit_110 : decode cX10_pit 110 = .ok (.iload_n 1, 1) := by decide +kernel
theorem dX10_pit_111 : decode cX10_pit 111 = .ok (.imul, 1) := by decide +kernel
theorem dX10_pit_112 : decode cX10_pit 112 = .ok (.iadd, 1) := by decide +kernel
theorem dX10_pit_113 : decode cX10_pit 113 = .ok (.iconst 2, 1) := by decide +kernel
theorem dX10_pit_114 : decode cX10_pit 114 = .ok (.iadd, 1) := by decide +kernel
theorem dX10_pit_115 : decode cX10_pit 115 = .ok (.iload_n 3, 1) := by decide +kernel
theorem dX10_pit_116 : decode cX10_pit 116 = .ok (.iadd, 1) := by decide +kernel
theorem dX10_pit_117 : decode cX10_pit 117 = .ok (.iaload, 1) := by decide +kernel
theorem dX10_pit_118 : decode cX10_pit 118 = .ok (.iastore, 1) := by decide +kernel
theorem dX10_pit_119 : decode cX10_pit 119 = .ok (.iinc 3 1, 3) := by decide +kernel
theorem dX10_pit_122 : decode cX10_pit 122 = .ok (.goto (-35), 3) := by decide +kernel
theorem dX10_pit_30 : decode cX10_pit 30 = .ok (.aload_n 0, 1) := by decide +kernel
theorem dX10_pit_31 : decode cX10_pit 31 = .ok (.iconst 1, 1) := by decide +kernel
theorem dX10_pit_32 : decode cX10_pit 32 = .ok (.invokevirtual 394, 3) := by decide +kernel
theorem dX10_pit_35 : decode cX10_pit 35 = .ok (.ireturn, 1) := by decide +kernel
theorem dX10_image_0 : decode cX10_image 0 = .ok (.aload_n 0, 1) := by decide +kernel
theorem dX10_image_1 : decode cX10_image 1 = .ok (.iconst 0, 1) := by decide +kernel
theorem dX10_image_2 : decode cX10_image 2 = .ok (.putfield 110, 3) := by decide +kernel
theorem dX10_image_5 : decode cX10_image 5 = .ok (.aload_n 0, 1) := by decide +kernel
theorem dX10_image_6 : decode cX10_image 6 = .ok (.iconst 0, 1) := by decide +kernel
theorem dX10_image_7 : decode cX10_image 7 = .ok (.sipush 14700, 3) := by decide +kernel
theorem dX10_image_10 : decode cX10_image 10 = .ok (.sipush 350, 3) := by decide +kernel
theorem dX10_image_13 : decode cX10_image 13 = .ok (.invokevirtual 391, 3) := by decide +kernel
theorem dX10_image_16 : decode cX10_image 16 = .ok (.aload_n 0, 1) := by decide +kernel
theorem dX10_image_17 : decode cX10_image 17 = .ok (.sipush 700, 3) := by decide +kernel
theorem dX10_image_20 : decode cX10_image 20 = .ok (.sipush 15050, 3) := by decide +kernel
theorem dX10_image_23 : decode cX10_image 23 = .ok (.sipush 14000, 3) := by decide +kernel
theorem dX10_image_26 : decode cX10_image 26 = .ok (.invokevirtual 391, 3) := by decide +kernel
theorem dX10_image_29 : decode cX10_image 29 = .ok (.aload_n 0, 1) := by decide +kernel
theorem dX10_image_30 : decode cX10_image 30 = .ok (.aload_n 0, 1) := by decide +kernel
theorem dX10_image_31 : decode cX10_image 31 = .ok (.getfield 342, 3) := by decide +kernel
theorem dX10_image_34 : decode cX10_image 34 = .ok (.putfield 469, 3) := by decide +kernel
theorem dX10_image_37 : decode cX10_image 37 = .ok (.aload_n 0, 1) := by decide +kernel
theorem dX10_image_38 : decode cX10_image 38 = .ok (.aload_n 0, 1) := by decide +kernel
theorem dX10_image_39 : decode cX10_image 39 = .ok (.getfield 339, 3) := by decide +kernel
theorem dX10_image_42 : decode cX10_image 42 = .ok (.putfield 472, 3) := by decide +kernel
theorem dX10_image_45 : decode cX10_image 45 = .ok (.aload_n 0, 1) := by decide +kernel
theorem dX10_image_46 : decode cX10_image 46 = .ok (.aload_n 0, 1) := by decide +kernel
theorem dX10_image_47 : decode cX10_image 47 = .ok (.getfield 336, 3) := by decide +kernel
theorem dX10_image_50 : decode cX10_image 50 = .ok (.putfield 475, 3) := by decide +kernel
theorem dX10_image_53 : decode cX10_image 53 = .ok (.iconst 0, 1) := by decide +kernel
theorem dX10_image_54 : decode cX10_image 54 = .ok (.istore_n 1, 1) := by decide +kernel
theorem dX10_image_55 : decode cX10_image 55 = .ok (.iload_n 1, 1) := by decide +kernel
theorem dX10_image_56 : decode cX10_image 56 = .ok (.sipush 540, 3) := by decide +kernel
theorem dX10_image_59 : decode cX10_image 59 = .ok (.if_icmp .ge 25, 3) := by decide +kernel
theorem dX10_image_84 : decode cX10_image 84 = .ok (.iconst 0, 1) := by decide +kernel
theorem dX10_image_85 : decode cX10_image 85 = .ok (.istore_n 1, 1) := by decide +kernel
theorem dX10_image_86 : decode cX10_image 86 = .ok (.iload_n 1, 1) := by decide +kernel
theorem dX10_image_87 : decode cX10_image 87 = .ok (.bipush 8, 2) := by decide +kernel
theorem dX10_image_89 : decode cX10_image 89 = .ok (.if_icmp .ge 54, 3) := by decide +kernel
theorem dX10_image_143 : decode cX10_image 143 = .ok (.iconst 0, 1) := by decide +kernel
theorem dX10_image_144 : decode cX10_image 144 = .ok (.istore_n 1, 1) := by decide +kernel
theorem dX10_image_145 : decode cX10_image 145 = .ok (.iload_n 1, 1) := by decide +kernel
theorem dX10_image_146 : decode cX10_image 146 = .ok (.iconst 3, 1) := by decide +kernel
theorem dX10_image_147 : decode cX10_image 147 = .ok (.if_icmp .ge 23, 3) := by decide +kernel
theorem dX10_image_170 : decode cX10_image 170 = .ok (.aload_n 0, 1) := by decide +kernel
theorem dX10_image_171 : decode cX10_image 171 = .ok (.iconst 1, 1) := by decide +kernel
theorem dX10_image_172 : decode cX10_image 172 = .ok (.putfield 333, 3) := by decide +kernel
theorem dX10_image_175 : decode cX10_image 175 = .ok (.return_, 1) := by decide +kernel
theorem dX10_image_150 : decode cX10_image 150 = .ok (.aload_n 0, 1) := by decide +kernel
theorem dX10_image_151 : decode cX10_image 151 = .ok (.getfield 40, 3) := by decide +kernel
theorem dX10_image_154 : decode cX10_image 154 = .ok (.iconst 3, 1) := by decide +kernel
theorem dX10_image_155 : decode cX10_image 155 = .ok (.iload_n 1, 1) := by decide +kernel
theorem dX10_image_156 : decode cX10_image 156 = .ok (.iadd, 1) := by decide +kernel
theorem dX10_image_157 : decode cX10_image 157 = .ok (.aload_n 0, 1) := by decide +kernel
theorem dX10_image_158 : decode cX10_image 158 = .ok (.getfield 40, 3) := by decide +kernel
theorem dX10_image_161 : decode cX10_image 161 = .ok (.iload_n 1, 1) := by decide +kernel
theorem dX10_image_162 : decode cX10_image 162 = .ok (.iaload, 1) := by decide +kernel
theorem dX10_image_163 : decode cX10_image 163 = .ok (.iastore, 1) := by decide +kernel
theorem dX10_image_164 : decode cX10_image 164 = .ok (.iinc 1 1, 3) := by decide +kernel
theorem dX10_image_167 : decode cX10_image 167 = .ok (.goto (-22), 3) := by decide +kernel
theorem dX10_image_92 : decode cX10_image 92 = .ok (.aload_n 0, 1) := by decide +kernel
theorem dX10_image_93 : decode cX10_image 93 = .ok (.getfield 31, 3) := by decide +kernel
theorem dX10_image_96 : decode cX10_image 96 = .ok (.bipush 8, 2) := by decide +kernel
theorem dX10_image_98 : decode cX10_image 98 = .ok (.iload_n 1, 1) := by decide +kernel
theorem dX10_image_99 : decode cX10_image 99 = .ok (.iadd, 1) := by decide +kernel
theorem dX10_image_100 : decode cX10_image 100 = .ok (.aload_n 0, 1) := by decide +kernel
theorem dX10_image_101 : decode cX10_image 101 = .ok (.getfield 31, 3) := by decide +kernel
theorem dX10_image_104 : decode cX10_image 104 = .ok (.iload_n 1, 1) := by decide +kernel
theorem dX10_image_105 : decode cX10_image 105 = .ok (.iaload, 1) := by decide +kernel
theorem dX10_image_106 : decode cX10_image 106 = .ok (.iastore, 1) := by decide +kernel
theorem dX10_image_107 : decode cX10_image 107 = .ok (.aload_n 0, 1) := by decide +kernel
theorem dX10_image_108 : decode cX10_image 108 = .ok (.getfield 34, 3) := by decide +kernel
theorem dX10_image_111 : decode cX10_image 111 = .ok (.bipush 8, 2) := by decide +kernel
theorem dX10_image_113 : decode cX10_image 113 = .ok (.iload_n 1, 1) := by decide +kernel
theorem dX10_image_114 : decode cX10_image 114 = .ok (.iadd, 1) := by decide +kernel
theorem dX10_image_115 : decode cX10_image 115 = .ok (.aload_n 0, 1) := by decide +kernel
theorem dX10_image_116 : decode cX10_image 116 = .ok (.getfield 34, 3) := by decide +kernel
theorem dX10_image_119 : decode cX10_image 119 = .ok (.iload_n 1, 1) := by decide +kernel
theorem dX10_image_120 : decode cX10_image 120 = .ok (.iaload, 1) := by decide +kernel
theorem dX10_image_121 : decode cX10_image 121 = .ok (.iastore, 1) := by decide +kernel
theorem dX10_image_122 : decode cX10_image 122 = .ok (.aload_n 0, 1) := by decide +kernel
theorem dX10_image_123 : decode cX10_image 123 = .ok (.getfield 37, 3) := by decide +kernel
theorem dX10_image_126 : decode cX10_image 126 = .ok (.bipush 8, 2) := by decide +kernel
theorem dX10_image_128 : decode cX10_image 128 = .ok (.iload_n 1, 1) := by decide +kernel
theorem dX10_image_129 : decode cX10_image 129 = .ok (.iadd, 1) := by decide +kernel
theorem dX10_image_130 : decode cX10_image 130 = .ok (.aload_n 0, 1) := by decide +kernel
theorem dX10_image_131 : decode cX10_image 131 = .ok (.getfield 37, 3) := by decide +kernel
theorem dX10_image_134 : decode cX10_image 134 = .ok (.iload_n 1, 1) := by decide +kernel
theorem dX10_image_135 : decode cX10_image 135 = .ok (.iaload, 1) := by decide +kernel
theorem dX10_image_136 : decode cX10_image 136 = .ok (.iastore, 1) := by decide +kernel
theorem dX10_image_137 : decode cX10_image 137 = .ok (.iinc 1 1, 3) := by decide +kernel
theorem dX10_image_140 : decode cX10_image 140 = .ok (.goto (-54), 3) := by decide +kernel
theorem dX10_image_62 : decode cX10_image 62 = .ok (.aload_n 0, 1) := by decide +kernel
theorem dX10_image_63 : decode cX10_image 63 = .ok (.getfield 43, 3) := by decide +kernel
theorem dX10_image_66 : decode cX10_image 66 = .ok (.sipush 540, 3) := by decide +kernel
theorem dX10_image_69 : decode cX10_image 69 = .ok (.iload_n 1, 1) := by decide +kernel
theorem dX10_image_70 : decode cX10_image 70 = .ok (.iadd, 1) := by decide +kernel
theorem dX10_image_71 : decode cX10_image 71 = .ok (.aload_n 0, 1) := by decide +kernel
theorem dX10_image_72 : decode cX10_image 72 = .ok (.getfield 43, 3) := by decide +kernel
theorem dX10_image_75 : decode cX10_image 75 = .ok (.iload_n 1, 1) := by decide +kernel
theorem dX10_image_76 : decode cX10_image 76 = .ok (.iaload, 1) := by decide +kernel
theorem dX10_image_77 : decode cX10_image 77 = .ok (.iastore, 1) := by decide +kernel
theorem dX10_image_78 : decode cX10_image 78 = .ok (.iinc 1 1, 3) := by decide +kernel
theorem dX10_image_81 : decode cX10_image 81 = .ok (.goto (-26), 3) := by decide +kernel
theorem dX10_restore_0 : decode cX10_restore 0 = .ok (.aload_n 0, 1) := by decide +kernel
theorem dX10_restore_1 : decode cX10_restore 1 = .ok (.iconst 0, 1) := by decide +kernel
theorem dX10_restore_2 : decode cX10_restore 2 = .ok (.putfield 110, 3) := by decide +kernel
theorem dX10_restore_5 : decode cX10_restore 5 = .ok (.aload_n 0, 1) := by decide +kernel
theorem dX10_restore_6 : decode cX10_restore 6 = .ok (.getfield 333, 3) := by decide +kernel
theorem dX10_restore_9 : decode cX10_restore 9 = .ok (.ifCond .ne 5, 3) := by decide +kernel
theorem dX10_restore_14 : decode cX10_restore 14 = .ok (.aload_n 0, 1) := by decide +kernel
theorem dX10_restore_15 : decode cX10_restore 15 = .ok (.sipush 14700, 3) := by decide +kernel
theorem dX10_restore_18 : decode cX10_restore 18 = .ok (.iconst 0, 1) := by decide +kernel
theorem dX10_restore_19 : decode cX10_restore 19 = .ok (.sipush 350, 3) := by decide +kernel
theorem dX10_restore_22 : decode cX10_restore 22 = .ok (.invokevirtual 391, 3) := by decide +kernel
theorem dX10_restore_25 : decode cX10_restore 25 = .ok (.aload_n 0, 1) := by decide +kernel
theorem dX10_restore_26 : decode cX10_restore 26 = .ok (.sipush 15050, 3) := by decide +kernel
theorem dX10_restore_29 : decode cX10_restore 29 = .ok (.sipush 700, 3) := by decide +kernel
theorem dX10_restore_32 : decode cX10_restore 32 = .ok (.sipush 14000, 3) := by decide +kernel
theorem dX10_restore_35 : decode cX10_restore 35 = .ok (.invokevirtual 391, 3) := by decide +kernel
theorem dX10_restore_38 : decode cX10_restore 38 = .ok (.aload_n 0, 1) := by decide +kernel
theorem dX10_restore_39 : decode cX10_restore 39 = .ok (.aload_n 0, 1) := by decide +kernel
theorem dX10_restore_40 : decode cX10_restore 40 = .ok (.getfield 469, 3) := by decide +kernel
theorem dX10_restore_43 : decode cX10_restore 43 = .ok (.putfield 342, 3) := by decide +kernel
theorem dX10_restore_46 : decode cX10_restore 46 = .ok (.aload_n 0, 1) := by decide +kernel
theorem dX10_restore_47 : decode cX10_restore 47 = .ok (.aload_n 0, 1) := by decide +kernel
theorem dX10_restore_48 : decode cX10_restore 48 = .ok (.getfield 472, 3) := by decide +kernel
theorem dX10_restore_51 : decode cX10_restore 51 = .ok (.putfield 339, 3) := by decide +kernel
theorem dX10_restore_54 : decode cX10_restore 54 = .ok (.aload_n 0, 1) := by decide +kernel
theorem dX10_restore_55 : decode cX10_restore 55 = .ok (.aload_n 0, 1) := by decide +kernel
theorem dX10_restore_56 : decode cX10_restore 56 = .ok (.getfield 475, 3) := by decide +kernel
theorem dX10_restore_59 : decode cX10_restore 59 = .ok (.putfield 336, 3) := by decide +kernel
theorem dX10_restore_62 : decode cX10_restore 62 = .ok (.iconst 0, 1) := by decide +kernel
theorem dX10_restore_63 : decode cX10_restore 63 = .ok (.istore_n 1, 1) := by decide +kernel
theorem dX10_restore_64 : decode cX10_restore 64 = .ok (.iload_n 1, 1) := by decide +kernel
theorem dX10_restore_65 : decode cX10_restore 65 = .ok (.sipush 540, 3) := by decide +kernel
theorem dX10_restore_68 : decode cX10_restore 68 = .ok (.if_icmp .ge 25, 3) := by decide +kernel
theorem dX10_restore_93 : decode cX10_restore 93 = .ok (.iconst 0, 1) := by decide +kernel
theorem dX10_restore_94 : decode cX10_restore 94 = .ok (.istore_n 1, 1) := by decide +kernel
theorem dX10_restore_95 : decode cX10_restore 95 = .ok (.iload_n 1, 1) := by decide +kernel
theorem dX10_restore_96 : decode cX10_restore 96 = .ok (.bipush 8, 2) := by decide +kernel
theorem dX10_restore_98 : decode cX10_restore 98 = .ok (.if_icmp .ge 54, 3) := by decide +kernel
theorem dX10_restore_152 : decode cX10_restore 152 = .ok (.iconst 0, 1) := by decide +kernel
theorem dX10_restore_153 : decode cX10_restore 153 = .ok (.istore_n 1, 1) := by decide +kernel
theorem dX10_restore_154 : decode cX10_restore 154 = .ok (.iload_n 1, 1) := by decide +kernel
theorem dX10_restore_155 : decode cX10_restore 155 = .ok (.iconst 3, 1) := by decide +kernel
theorem dX10_restore_156 : decode cX10_restore 156 = .ok (.if_icmp .ge 23, 3) := by decide +kernel
theorem dX10_restore_179 : decode cX10_restore 179 = .ok (.iconst 1, 1) := by decide +kernel
theorem dX10_restore_180 : decode cX10_restore 180 = .ok (.ireturn, 1) := by decide +kernel
theorem dX10_restore_159 : decode cX10_restore 159 = .ok (.aload_n 0, 1) := by decide +kernel
theorem dX10_restore_160 : decode cX10_restore 160 = .ok (.getfield 40, 3) := by decide +kernel
theorem dX10_restore_163 : decode cX10_restore 163 = .ok (.iload_n 1, 1) := by decide +kernel
theorem dX10_restore_164 : decode cX10_restore 164 = .ok (.aload_n 0, 1) := by decide +kernel
theorem dX10_restore_165 : decode cX10_restore 165 = .ok (.getfield 40, 3) := by decide +kernel
theorem dX10_restore_168 : decode cX10_restore 168 = .ok (.iconst 3, 1) := by decide +kernel
theorem dX10_restore_169 : decode cX10_restore 169 = .ok (.iload_n 1, 1) := by decide +kernel
theorem dX10_restore_170 : decode cX10_restore 170 = .ok (.iadd, 1) := by decide +kernel
theorem dX10_restore_171 : decode cX10_restore 171 = .ok (.iaload, 1) := by decide +kernel
theorem dX10_restore_172 : decode cX10_restore 172 = .ok (.iastore, 1) := by decide +kernel
theorem dX10_restore_173 : decode cX10_restore 173 = .ok (.iinc 1 1, 3) := by decide +kernel
theorem dX10_restore_176 : decode cX10_restore 176 = .ok (.goto (-22), 3) := by decide +kernel
theorem dX10_restore_101 : decode cX10_restore 101 = .ok (.aload_n 0, 1) := by decide +kernel
theorem dX10_restore_102 : decode cX10_restore 102 = .ok (.getfield 31, 3) := by decide +kernel
theorem dX10_restore_105 : decode cX10_restore 105 = .ok (.iload_n 1, 1) := by decide +kernel
theorem dX10_restore_106 : decode cX10_restore 106 = .ok (.aload_n 0, 1) := by decide +kernel
theorem dX10_restore_107 : decode cX10_restore 107 = .ok (.getfield 31, 3) := by decide +kernel
theorem dX10_restore_110 : decode cX10_restore 110 = .ok (.bipush 8, 2) := by decide +kernel
theorem dX10_restore_112 : decode cX10_restore 112 = .ok (.iload_n 1, 1) := by decide +kernel
theorem dX10_restore_113 : decode cX10_restore 113 = .ok (.iadd, 1) := by decide +kernel
theorem dX10_restore_114 : decode cX10_restore 114 = .ok (.iaload, 1) := by decide +kernel
theorem dX10_restore_115 : decode cX10_restore 115 = .ok (.iastore, 1) := by decide +kernel
theorem dX10_restore_116 : decode cX10_restore 116 = .ok (.aload_n 0, 1) := by decide +kernel
theorem dX10_restore_117 : decode cX10_restore 117 = .ok (.getfield 34, 3) := by decide +kernel
theorem dX10_restore_120 : decode cX10_restore 120 = .ok (.iload_n 1, 1) := by decide +kernel
theorem dX10_restore_121 : decode cX10_restore 121 = .ok (.aload_n 0, 1) := by decide +kernel
theorem dX10_restore_122 : decode cX10_restore 122 = .ok (.getfield 34, 3) := by decide +kernel
theorem dX10_restore_125 : decode cX10_restore 125 = .ok (.bipush 8, 2) := by decide +kernel
theorem dX10_restore_127 : decode cX10_restore 127 = .ok (.iload_n 1, 1) := by decide +kernel
theorem dX10_restore_128 : decode cX10_restore 128 = .ok (.iadd, 1) := by decide +kernel
theorem dX10_restore_129 : decode cX10_restore 129 = .ok (.iaload, 1) := by decide +kernel
theorem dX10_restore_130 : decode cX10_restore 130 = .ok (.iastore, 1) := by decide +kernel
theorem dX10_restore_131 : decode cX10_restore 131 = .ok (.aload_n 0, 1) := by decide +kernel
theorem dX10_restore_132 : decode cX10_restore 132 = .ok (.getfield 37, 3) := by decide +kernel
theorem dX10_restore_135 : decode cX10_restore 135 = .ok (.iload_n 1, 1) := by decide +kernel
theorem dX10_restore_136 : decode cX10_restore 136 = .ok (.aload_n 0, 1) := by decide +kernel
theorem dX10_restore_137 : decode cX10_restore 137 = .ok (.getfield 37, 3) := by decide +kernel
theorem dX10_restore_140 : decode cX10_restore 140 = .ok (.bipush 8, 2) := by decide +kernel
theorem dX10_restore_142 : decode cX10_restore 142 = .ok (.iload_n 1, 1) := by decide +kernel
theorem dX10_restore_143 : decode cX10_restore 143 = .ok (.iadd, 1) := by decide +kernel
theorem dX10_restore_144 : decode cX10_restore 144 = .ok (.iaload, 1) := by decide +kernel
theorem dX10_restore_145 : decode cX10_restore 145 = .ok (.iastore, 1) := by decide +kernel
theorem dX10_restore_146 : decode cX10_restore 146 = .ok (.iinc 1 1, 3) := by decide +kernel
theorem dX10_restore_149 : decode cX10_restore 149 = .ok (.goto (-54), 3) := by decide +kernel
theorem dX10_restore_71 : decode cX10_restore 71 = .ok (.aload_n 0, 1) := by decide +kernel
theorem dX10_restore_72 : decode cX10_restore 72 = .ok (.getfield 43, 3) := by decide +kernel
theorem dX10_restore_75 : decode cX10_restore 75 = .ok (.iload_n 1, 1) := by decide +kernel
theorem dX10_restore_76 : decode cX10_restore 76 = .ok (.aload_n 0, 1) := by decide +kernel
theorem dX10_restore_77 : decode cX10_restore 77 = .ok (.getfield 43, 3) := by decide +kernel
theorem dX10_restore_80 : decode cX10_restore 80 = .ok (.sipush 540, 3) := by decide +kernel
theorem dX10_restore_83 : decode cX10_restore 83 = .ok (.iload_n 1, 1) := by decide +kernel
theorem dX10_restore_84 : decode cX10_restore 84 = .ok (.iadd, 1) := by decide +kernel
theorem dX10_restore_85 : decode cX10_restore 85 = .ok (.iaload, 1) := by decide +kernel
theorem dX10_restore_86 : decode cX10_restore 86 = .ok (.iastore, 1) := by decide +kernel
theorem dX10_restore_87 : decode cX10_restore 87 = .ok (.iinc 1 1, 3) := by decide +kernel
theorem dX10_restore_90 : decode cX10_restore 90 = .ok (.goto (-26), 3) := by decide +kernel
theorem dX10_restore_12 : decode cX10_restore 12 = .ok (.iconst 0, 1) := by decide +kernel
theorem dX10_restore_13 : decode cX10_restore 13 = .ok (.ireturn, 1) := by decide +kernel
end
