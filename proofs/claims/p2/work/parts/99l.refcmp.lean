theorem okW.five {r r' : Nat → Int} {b : Nat} {x : Int} (h : okW r b x) (he : ∀ j, j ≠ b + 5 → r' j = r j) (h5 : 0 ≤ r' (b + 5) ∧ r' (b + 5) ≤ 6) : okW r' b x := by
  obtain ⟨h1, h2, h3, h4⟩ := h
  have h0 : r' b = r b := he b (by omega)
  refine ⟨fun k hk => ?_, by rw [h0]; exact h2, by rw [h0, he (b + 1) (by omega)]; exact h3, h5⟩
  rw [h0]
  exact (h1 k hk).ext (fun j a1 a2 => he j (by omega))
theorem qS.ofPit {r pi : Nat → Int} {p k : Nat} (hk : k < 12) (h : okPt pi) (hp : r p = pi (90 * k + 2)) (hl : ∀ m, m < 84 → r (p + 2 + m) = pi (90 * k + 3 + m)) : qS r p := by
  obtain ⟨h1, h2, h3⟩ := h k hk
  refine ⟨by rw [hp]; exact h2, fun l a => ?_⟩
  rw [hp] at a
  have h9 := h3 l a
  rw [show p + 2 + 7 * l + 3 = p + 2 + (7 * l + 3) by omega, hl (7 * l + 3) (by omega), hl (7 * l) (by omega), show 90 * k + 3 + (7 * l + 3) = 90 * k + 3 + 7 * l + 3 by omega]
  exact h9
theorem okPt.put {pi p9 r : Nat → Int} {kp p s : Nat} {M E : Int} (h : okPt pi) (hk : kp < 6) (hs : s < 4) (ho : okS r p M E) (hE : E ≤ 400000000) (hf : ∀ j, j < 90 * kp ∨ 90 * kp + 90 ≤ j → p9 j = pi j) (h0 : p9 (90 * kp) = (s : Int)) (h2 : p9 (90 * kp + 2) = r p) (hl : ∀ m, m < 84 → p9 (90 * kp + 3 + m) = r (p + 2 + m)) : okPt p9 := fun k hk2 => by
  by_cases e : k = kp
  · subst e
    refine ⟨by rw [h0]; omega, by rw [h2]; exact ho.1, fun l a => ?_⟩
    rw [h2] at a
    have hb := ho.1
    have h9 := (ho.q hE).2 l a
    rw [show 90 * k + 3 + 7 * l + 3 = 90 * k + 3 + (7 * l + 3) by omega, hl (7 * l + 3) (by omega), hl (7 * l) (by omega), show p + 2 + (7 * l + 3) = p + 2 + 7 * l + 3 by omega]
    exact h9
  · obtain ⟨a1, a2, a3⟩ := h k hk2
    rw [hf (90 * k) (by omega), hf (90 * k + 2) (by omega)]
    refine ⟨a1, a2, fun l b => ?_⟩
    rw [hf (90 * k + 3 + 7 * l) (by omega), hf (90 * k + 3 + 7 * l + 3) (by omega)]
    exact a3 l b
theorem okPt.cpy {pi p9 : Nat → Int} {a b : Nat} (h : okPt pi) (hab : a = 0 ∧ b = 6 ∨ a = 6 ∧ b = 0) (he : ∀ m, m < 540 → p9 (90 * b + m) = pi (90 * a + m)) (hf : ∀ m, m < 540 → p9 (90 * a + m) = pi (90 * a + m)) : okPt p9 := fun k hk => by
  obtain ⟨c, hc, hq⟩ : ∃ c, c < 12 ∧ ∀ m, m < 90 → p9 (90 * k + m) = pi (90 * c + m) := by
    by_cases e : b ≤ k ∧ k < b + 6
    · refine ⟨a + (k - b), by omega, fun m hm => ?_⟩
      rw [show 90 * k + m = 90 * b + (90 * (k - b) + m) by omega, show 90 * (a + (k - b)) + m = 90 * a + (90 * (k - b) + m) by omega]
      exact he _ (by omega)
    · refine ⟨k, hk, fun m hm => ?_⟩
      rw [show 90 * k + m = 90 * a + (90 * (k - a) + m) by omega]
      exact hf _ (by omega)
  obtain ⟨a1, a2, a3⟩ := h c hc
  have q0 := hq 0 (by omega)
  rw [Nat.add_zero, Nat.add_zero] at q0
  rw [q0, hq 2 (by omega)]
  refine ⟨a1, a2, fun l b2 => ?_⟩
  have hl : l < 12 := by omega
  rw [show 90 * k + 3 + 7 * l + 3 = 90 * k + (3 + 7 * l + 3) by omega, show 90 * k + 3 + 7 * l = 90 * k + (3 + 7 * l) by omega, hq _ (by omega), hq _ (by omega), show 90 * c + (3 + 7 * l + 3) = 90 * c + 3 + 7 * l + 3 by omega, show 90 * c + (3 + 7 * l) = 90 * c + 3 + 7 * l by omega]
  exact a3 l b2

set_option maxRecDepth 100000 in
set_option maxHeartbeats 4000000 in
theorem c_X10_weakestName (l : Launch) (D : va_G) (A : Nat → Prop) (cs : Nat → ClassId) (tt : Nat) (N : Nat) (ad : Nat → Nat) (g : Nat → va_E) (i : Nat) (hN : i + 30 ≤ N) (x : Int) (hx : 0 ≤ x ∧ x ≤ 512) (F r : Nat → Int) (hM : okMr cs ad g i x F r) (n0 : Nat) (hn0 : n0 < 6) : zM l yX10_weakestName cX10_weakestName 4 (some .int) ({ frames := 9, cells := 0, slots := 0, locals := 540 } : Room) D A cs tt N ad g [.ref (ad i), .int (zI ((n0 : Int)))] (rI0 N ad fun q g' => (-2147483648 ≤ q ∧ q ≤ 2147483647) ∧ (∃ F' r' : Nat → Int, okMr cs ad g' i x F' r' ∧ (∀ f, F' f = F f)) ∧ ∀ j, j < i ∨ i + 30 ≤ j → g' j = g j) := by
  obtain ⟨hg, ⟨⟨e13, e14, e25, e27, e29⟩, k15, k16, k17, k18, k19, k20, k23⟩, hRD, hTx, hA, st, op, ai, fa, mu, tb, ns, nh, nd, rf, pi, tp, te, ki, li, ok1, ok2, fo, dd, dps, ⟨ha1, ha2, ha3, ha4, ha5, ha6, ha7, ha8, ha9, ha10, ha11, ha12, ha13, ha14, ha15, ha24, ha25, ha26, ha27, ha28, ha29⟩, hEv, hPt, hns, htp⟩ := id hM
  obtain ⟨-, hop, hai, hfa, hT, hT1⟩ := id hEv
  have hay1 : zAt ad (i) (ad i) := rfl
  have hay2 : zAt ad (i + 1) (ad (i + 1)) := rfl
  have hay3 : zAt ad (i + 2) (ad (i + 2)) := rfl
  have hay4 : zAt ad (i + 3) (ad (i + 3)) := rfl
  have hay5 : zAt ad (i + 4) (ad (i + 4)) := rfl
  have hay6 : zAt ad (i + 5) (ad (i + 5)) := rfl
  have hay7 : zAt ad (i + 6) (ad (i + 6)) := rfl
  have hay8 : zAt ad (i + 7) (ad (i + 7)) := rfl
  have hay9 : zAt ad (i + 8) (ad (i + 8)) := rfl
  have hay10 : zAt ad (i + 9) (ad (i + 9)) := rfl
  have hay11 : zAt ad (i + 10) (ad (i + 10)) := rfl
  have hay12 : zAt ad (i + 11) (ad (i + 11)) := rfl
  have hay13 : zAt ad (i + 12) (ad (i + 12)) := rfl
  have hay14 : zAt ad (i + 13) (ad (i + 13)) := rfl
  have hay15 : zAt ad (i + 14) (ad (i + 14)) := rfl
  have hay16 : zAt ad (i + 15) (ad (i + 15)) := rfl
  have hay17 : zAt ad (i + 24) (ad (i + 24)) := rfl
  have hay18 : zAt ad (i + 25) (ad (i + 25)) := rfl
  have hay19 : zAt ad (i + 26) (ad (i + 26)) := rfl
  have hay20 : zAt ad (i + 27) (ad (i + 27)) := rfl
  have hay21 : zAt ad (i + 28) (ad (i + 28)) := rfl
  have hay22 : zAt ad (i + 29) (ad (i + 29)) := rfl
  obtain ⟨⟨hsyy23, htyy23, hnyy23, hpyy23⟩, hlyy23⟩ := okA.at0 hA
  simp only [Nat.zero_add] at hsyy23 hnyy23 hpyy23
  have hmn : ∀ s, s < 4 → 0 ≤ r (6 + 86 * s) ∧ r (6 + 86 * s) ≤ 12 := fun s hs => (hsyy23 s hs).1
  have h5 : 0 ≤ r 5 ∧ r 5 ≤ 6 := hpyy23
  refine z_of (by decide) (Nat.le_of_ble_eq_true rfl) ?_
  intro pZ eZ sZ mZ below meth cZ C hr hlk hnm
  refine z_lv (lv' := [(0, .ref (ad i)), (1, .int (zI ((n0 : Int))))]) [0, 1] rfl ?_
  refine z_aload_n C 0 dX10_weakestName_0 rfl ?_
  refine z_get (v := .ref (ad (i + 12))) C (by omega) hay1 hg rfl inA_X10 11 (by decide) q_1470 rfl rfl dX10_weakestName_1 ?_
  refine z_bipush (z := 90) C dX10_weakestName_4 (by decide) ?_
  refine z_iload_n C 1 dX10_weakestName_6 rfl ?_
  refine z_imul C dX10_weakestName_7 ?_
  refine z_iald C (by omega) hay13 ha12 (90 * n0) (by omega) (by omega) (by decide) dX10_weakestName_8 ?_
  have hp0 := hPt n0 (by omega)
  obtain ⟨ny24, hny24⟩ : ∃ n9 : Nat, pi (90 * n0) = (n9 : Int) := ⟨(pi (90 * n0)).toNat, by omega⟩
  rw [hny24]
  refine z_istore_n (lv' := [(2, .int (zI ((ny24 : Int)))), (0, .ref (ad i)), (1, .int (zI ((n0 : Int))))]) C dX10_weakestName_9 rfl (by decide) rfl ?_
  refine z_aload_n C 1 dX10_weakestName_10 rfl ?_
  refine z_cV (As := []) (rest := []) (ci := 12) C (c_X10_tries l D A cs tt N ad _ i hN _ hg _ ha1 (x) hA) (by omega) hay1 hg rfl rfl mv_yX10_tries q_1980 hd_yX10_tries (by decide) (Nat.le_of_ble_eq_true rfl) (by decide) dX10_weakestName_11 rfl (kV0 fun gvy25 hvy25 => ?_)
  obtain ⟨⟨rvy25, hdvy25, hAvy25, hWvy25, h0vy25, hyvy25⟩, hfvy25⟩ := hvy25
  obtain ⟨⟨hsyy26, htyy26, hnyy26, hpyy26⟩, hlyy26⟩ := okA.at0 hAvy25
  simp only [Nat.zero_add] at hsyy26 hnyy26 hpyy26
  have hmn : ∀ s, s < 4 → 0 ≤ rvy25 (6 + 86 * s) ∧ rvy25 (6 + 86 * s) ≤ 12 := fun s hs => (hsyy26 s hs).1
  have h5 : 0 ≤ rvy25 5 ∧ rvy25 5 ≤ 6 := hpyy26
  refine z_aload_n C 1 dX10_weakestName_14 rfl ?_
  refine z_sipush (z := 350) C dX10_weakestName_15 (by decide) ?_
  refine z_iload_n C 0 dX10_weakestName_18 rfl ?_
  refine z_aload_n C 1 dX10_weakestName_19 rfl ?_
  refine z_iload_n C 2 dX10_weakestName_20 rfl ?_
  have hgy27 := (hfvy25 (i) (ne_o (i := i) (c := 0) (d := 1) rfl)).trans hg
  have hgy28 := (hfvy25 (i + 12) (ne_o (i := i) (c := 12) (d := 1) rfl)).trans ha12
  have hpkn0 := okPt.at hPt (k := n0) (by omega)
  refine z_cV (As := [.int (zI ((n0 : Int)))]) (rest := [.int (zI ((ny24 : Int))), .int (zI (350)), .ref (ad i)]) (ci := 12) C (c_X10_pitMany l D A cs tt N ad _ i hN _ hgy27 _ hgy28 hPt n0 (by omega)) (by omega) hay1 hgy27 rfl rfl mv_yX10_pitMany q_2031 hd_yX10_pitMany (by decide) (Nat.le_of_ble_eq_true rfl) (by decide) dX10_weakestName_21 rfl (kI0 fun vy29 gvy29 hvy29 => ?_)
  obtain ⟨rfl, rfl⟩ := hvy29
  obtain ⟨py30, hpy30⟩ : ∃ p9 : Nat, 350 + 6 + 86 * ny24 = p9 := ⟨_, rfl⟩
  refine z_cV (As := [.int (zI (350)), .int (zI ((ny24 : Int))), .int (zI (pi (90 * n0 + 2)))]) (rest := []) (ci := 12) C (c_X10_setsMany l D A cs tt N ad _ i hN _ hgy27 _ hdvy25 350 ny24 py30 hpy30 (by omega) (by omega) (pi (90 * n0 + 2))) (by omega) hay1 hgy27 rfl rfl mv_yX10_setsMany q_1717 hd_yX10_setsMany (by decide) (Nat.le_of_ble_eq_true rfl) (by decide) dX10_weakestName_24 rfl (kV0 fun gvy31 hvy31 => ?_)
  obtain ⟨hcvy31, hfvy31⟩ := hvy31
  obtain ⟨ry32, hvy33⟩ : ∃ rZ9 : Nat → Int, rZ9 = uZ rvy25 (py30) (pi (90 * n0 + 2)) := ⟨_, rfl⟩
  rw [← hvy33] at hcvy31
  refine z_iconst (z := 0) C dX10_weakestName_27 rfl ?_
  refine z_istore_n (lv' := [(3, .int (zI (0))), (2, .int (zI ((ny24 : Int)))), (0, .ref (ad i)), (1, .int (zI ((n0 : Int))))]) C dX10_weakestName_28 rfl (by decide) rfl ?_
  have hwy34 : ry32 (py30) = pi (90 * n0 + 2) := (congrFun hvy33 _).trans (uZ_s _ _ _)
  have hfry35 : ∀ j, j ≠ py30 → ry32 j = rvy25 j := fun j n0 => (congrFun hvy33 _).trans ((uZ_n _ _ n0).trans (rfl))
  have hAx : okA ry32 (x) := okA.tried hAvy25 (fun j a => hfry35 j (by omega))
  have lp : ∀ (n9 : Nat) (kk : Int) (r8 : Nat → Int) (g1 : Nat → va_E), (85 - kk).toNat = n9 → (g1 (i + 1) = iA cs 29200 r8) → (∀ j, j ≠ i + 1 → g1 j = gvy31 j) → (∀ j, j < 350 ∨ 700 ≤ j → r8 j = ry32 j) → (r8 py30 = pi (90 * n0 + 2)) → (∀ k : Nat, (k : Int) < kk → r8 (py30 + 2 + k) = pi (90 * n0 + 3 + k)) → (0 ≤ kk ∧ kk ≤ 84) → zV pZ l eZ ({ frames := 9, cells := 0, slots := 0, locals := 540 } : Room) sZ mZ ([.ref (ad i), .int (zI ((n0 : Int)))] : List Value).toArray below meth cZ (MQ below (zPost D A (rI0 N ad fun q g' => (-2147483648 ≤ q ∧ q ≤ 2147483647) ∧ (∃ F' r' : Nat → Int, okMr cs ad g' i x F' r' ∧ (∀ f, F' f = F f)) ∧ ∀ j, j < i ∨ i + 30 ≤ j → g' j = g j)) ([.ref (ad i), .int (zI ((n0 : Int)))] : List Value).toArray sZ ({ frames := 9, cells := 0, slots := 0, locals := 540 } : Room).cells ({ frames := 9, cells := 0, slots := 0, locals := 540 } : Room).slots A) D A 4 (N) ad g1 (0) (0) 29 [(0, .ref (ad i)), (1, .int (zI ((n0 : Int)))), (2, .int (zI ((ny24 : Int)))), (3, .int (zI (kk)))] [] := by
    intro n9
    induction n9 using Nat.strongRecOn with
    | ind n9 ih =>
      intro kk r8 g1 hm9 f2 f3w fA fp fk hv
      obtain ⟨nk, hnk⟩ : ∃ n9 : Nat, kk = (n9 : Int) := ⟨kk.toNat, by omega⟩
      obtain ⟨nj, hnj⟩ : ∃ n9 : Nat, py30 + 2 + nk = n9 := ⟨_, rfl⟩
      obtain ⟨np, hnp⟩ : ∃ n9 : Nat, 90 * n0 + 3 + nk = n9 := ⟨_, rfl⟩
      have hA8 : okA r8 (x) := okA.tried hAx (fun j a => fA j a)
      have fp0 := fp
      refine z_iload_n C 3 dX10_weakestName_29 rfl ?_
      refine z_bipush (z := 84) C dX10_weakestName_30 (by decide) ?_
      refine z_icmp_ge (tgt := 71) C dX10_weakestName_32 (by decide) (by omega) (by omega) (fun hby36 => ?_) (fun hby36 => ?_)
      · refine z_aload_n C 0 dX10_weakestName_71 rfl ?_
        refine z_sipush (z := 350) C dX10_weakestName_72 (by decide) ?_
        refine z_iload_n C 2 dX10_weakestName_75 rfl ?_
        have hgy37 := (hfvy31 (i) (ne_o (i := i) (c := 0) (d := 1) rfl)).trans hgy27
        have hgy38 := (f3w (i) (ne_o (i := i) (c := 0) (d := 1) rfl)).trans hgy37
        have hgy40 := (hfvy25 (i + 2) (ne_o (i := i) (c := 2) (d := 1) rfl)).trans ha2
        have hgy41 := (hfvy31 (i + 2) (ne_o (i := i) (c := 2) (d := 1) rfl)).trans hgy40
        have hgy42 := (f3w (i + 2) (ne_o (i := i) (c := 2) (d := 1) rfl)).trans hgy41
        have hgy43 := (hfvy25 (i + 7) (ne_o (i := i) (c := 7) (d := 1) rfl)).trans ha7
        have hgy44 := (hfvy31 (i + 7) (ne_o (i := i) (c := 7) (d := 1) rfl)).trans hgy43
        have hgy45 := (f3w (i + 7) (ne_o (i := i) (c := 7) (d := 1) rfl)).trans hgy44
        have hqy46 : qS r8 py30 := qS.ofPit (k := n0) (by omega) hPt fp (fun m hm => fk m (by omega))
        have hmky47 := hqy46.1
        refine z_cV (As := [.int (zI (350)), .int (zI ((ny24 : Int)))]) (rest := []) (ci := 12) C (c_X10_weakest l D A cs tt N ad _ i hN _ hgy38 _ f2 _ hgy42 _ hgy45 350 ny24 py30 hpy30 (by omega) (by omega) hqy46) (by omega) hay1 hgy38 rfl rfl mv_yX10_weakest q_1807 hd_yX10_weakest (by decide) (Nat.le_of_ble_eq_true rfl) (by decide) dX10_weakestName_76 rfl (kI0 fun vy39 gvy39 hvy39 => ?_)
        obtain ⟨hvy39, rfl⟩ := hvy39
        refine z_istore_n (lv' := [(3, .int (zI (vy39))), (0, .ref (ad i)), (1, .int (zI ((n0 : Int)))), (2, .int (zI ((ny24 : Int))))]) C dX10_weakestName_79 rfl (by decide) rfl ?_
        refine z_iload_n C 0 dX10_weakestName_80 rfl ?_
        refine z_iconst (z := -1) C dX10_weakestName_81 rfl ?_
        refine z_icmp_ne (tgt := 89) C dX10_weakestName_82 (by decide) (by omega) (by omega) (fun hby48 => ?_) (fun hby48 => ?_)
        · refine z_aload_n C 1 dX10_weakestName_89 rfl ?_
          refine z_iload_n C 2 dX10_weakestName_90 rfl ?_
          refine z_iload_n C 0 dX10_weakestName_91 rfl ?_
          refine z_bipush (z := 6) C dX10_weakestName_92 (by decide) ?_
          have hgy49 := (hfvy31 (i + 12) (ne_o (i := i) (c := 12) (d := 1) rfl)).trans hgy28
          have hgy50 := (f3w (i + 12) (ne_o (i := i) (c := 12) (d := 1) rfl)).trans hgy49
          refine z_cV (As := [.int (zI ((n0 : Int))), .int (zI (vy39)), .int (zI (6))]) (rest := []) (ci := 12) C (c_X10_inPit l D A cs tt N ad _ i hN _ hgy38 _ hgy50 hPt n0 (by omega) (vy39) (by omega) (6) (by omega)) (by omega) hay1 hgy38 rfl rfl mv_yX10_inPit q_2043 hd_yX10_inPit (by decide) (Nat.le_of_ble_eq_true rfl) (by decide) dX10_weakestName_94 rfl (kI0 fun vy51 gvy51 hvy51 => ?_)
          obtain ⟨hvy51, rfl⟩ := hvy51
          obtain ⟨xy52, exy53, hxy54⟩ := zI_of (zI (vy51))
          rw [exy53]
          have hMy55 : okMr cs ad g1 i (x) F r8 := okMr.upd hM hgy38 hM.2.1 (fun f _ => rfl) f2 (hA8.mono (by omega)) (fun j a b => by
              exact Or.inl (by rw [f3w _ (by omega)]; rw [hfvy31 _ (by omega)]; rw [hfvy25 _ (by omega)]))
          exact z_iret C hr hlk dX10_weakestName_97 (by decide) (by decide) ⟨xy52, rfl, rfl, rfl, by omega, ⟨_, _, hMy55, fun f  => rfl⟩, fun j j1 => by rw [f3w _ (by omega)]; rw [hfvy31 _ (by omega)]; rw [hfvy25 _ (by omega)]⟩
        · refine z_iconst (z := -1) C dX10_weakestName_85 rfl ?_
          refine z_goto (tgt := 97) C dX10_weakestName_86 (by decide) ?_
          have hMy56 : okMr cs ad g1 i (x) F r8 := okMr.upd hM hgy38 hM.2.1 (fun f _ => rfl) f2 (hA8.mono (by omega)) (fun j a b => by
              exact Or.inl (by rw [f3w _ (by omega)]; rw [hfvy31 _ (by omega)]; rw [hfvy25 _ (by omega)]))
          exact z_iret C hr hlk dX10_weakestName_97 (by decide) (by decide) ⟨-1, rfl, rfl, rfl, by omega, ⟨_, _, hMy56, fun f  => rfl⟩, fun j j1 => by rw [f3w _ (by omega)]; rw [hfvy31 _ (by omega)]; rw [hfvy25 _ (by omega)]⟩
      · refine z_aload_n C 0 dX10_weakestName_35 rfl ?_
        have hgy57 := (hfvy31 (i) (ne_o (i := i) (c := 0) (d := 1) rfl)).trans hgy27
        have hgy58 := (f3w (i) (ne_o (i := i) (c := 0) (d := 1) rfl)).trans hgy57
        refine z_get (v := .ref (ad (i + 1))) C (by omega) hay1 hgy58 rfl inA_X10 0 (by decide) q_1459 rfl rfl dX10_weakestName_36 ?_
        refine z_sipush (z := 356) C dX10_weakestName_39 (by decide) ?_
        refine z_bipush (z := 86) C dX10_weakestName_42 (by decide) ?_
        refine z_iload_n C 2 dX10_weakestName_44 rfl ?_
        refine z_imul C dX10_weakestName_45 ?_
        refine z_iadd C dX10_weakestName_46 ?_
        refine z_iconst (z := 2) C dX10_weakestName_47 rfl ?_
        refine z_iadd C dX10_weakestName_48 ?_
        refine z_iload_n C 3 dX10_weakestName_49 rfl ?_
        refine z_iadd C dX10_weakestName_50 ?_
        refine z_aload_n C 0 dX10_weakestName_51 rfl ?_
        refine z_get (v := .ref (ad (i + 12))) C (by omega) hay1 hgy58 rfl inA_X10 11 (by decide) q_1470 rfl rfl dX10_weakestName_52 ?_
        refine z_bipush (z := 90) C dX10_weakestName_55 (by decide) ?_
        refine z_iload_n C 1 dX10_weakestName_57 rfl ?_
        refine z_imul C dX10_weakestName_58 ?_
        refine z_iconst (z := 3) C dX10_weakestName_59 rfl ?_
        refine z_iadd C dX10_weakestName_60 ?_
        refine z_iload_n C 3 dX10_weakestName_61 rfl ?_
        refine z_iadd C dX10_weakestName_62 ?_
        have hgy59 := (hfvy31 (i + 12) (ne_o (i := i) (c := 12) (d := 1) rfl)).trans hgy28
        have hgy60 := (f3w (i + 12) (ne_o (i := i) (c := 12) (d := 1) rfl)).trans hgy59
        refine z_iald C (by omega) hay13 hgy60 (np) (by omega) (by omega) (by decide) dX10_weakestName_63 ?_
        refine z_iast C (by omega) hay2 f2 (nj) (by omega) (by omega) (by decide) dX10_weakestName_64 (fun gy61 egy62 => ?_)
        have hgy63 := up_s egy62
        obtain ⟨ry64, hvy65⟩ : ∃ rZ9 : Nat → Int, rZ9 = uZ r8 (nj) (pi (np)) := ⟨_, rfl⟩
        rw [← hvy65] at hgy63
        refine z_iinc (z := kk + 1) (lv' := [(3, .int (zI (kk + 1))), (0, .ref (ad i)), (1, .int (zI ((n0 : Int)))), (2, .int (zI ((ny24 : Int))))]) (j := 3) C dX10_weakestName_65 rfl rfl (by decide) rfl ?_
        refine z_goto (tgt := 29) C dX10_weakestName_68 (by decide) ?_
        have hfry66 : ∀ j, j ≠ nj → ry64 j = r8 j := fun j n0 => (congrFun hvy65 _).trans ((uZ_n _ _ n0).trans (rfl))
        have hwy67 : ry64 (nj) = pi (np) := (congrFun hvy65 _).trans (uZ_s _ _ _)
        refine z_lv (lv' := [(0, .ref (ad i)), (1, .int (zI ((n0 : Int)))), (2, .int (zI ((ny24 : Int)))), (3, .int (zI (kk + 1)))]) [1, 2, 3, 0] rfl ?_
        exact ih _ (by omega) (kk + 1) ry64 gy61 rfl hgy63 (fun j j1 => by rw [egy62, va_up_ne _ _ (by omega)]; exact f3w j j1) (fun j a => (hfry66 j (by omega)).trans (fA j a)) ((hfry66 py30 (by omega)).trans fp) (fun k a => by
            by_cases e : k = nk
            · subst e; rw [show py30 + 2 + k = nj by omega, show 90 * n0 + 3 + k = np by omega]; omega
            · rw [hfry66 (py30 + 2 + k) (by omega)]; exact fk k (by omega)) (by omega)
  refine z_lv (lv' := [(0, .ref (ad i)), (1, .int (zI ((n0 : Int)))), (2, .int (zI ((ny24 : Int)))), (3, .int (zI (0)))]) [2, 3, 1, 0] rfl ?_
  exact lp _ 0 ry32 gvy31 rfl hcvy31 (fun j _ => rfl) (fun j _ => rfl) (by omega) (fun k a => absurd a (by omega)) (by omega)

set_option maxRecDepth 100000 in
set_option maxHeartbeats 4000000 in
theorem c_X10_compare_aa (l : Launch) (D : va_G) (A : Nat → Prop) (cs : Nat → ClassId) (tt : Nat) (N : Nat) (ad : Nat → Nat) (g : Nat → va_E) (i : Nat) (hN : i + 30 ≤ N) (x : Int) (hx : 0 ≤ x ∧ x ≤ 512) (F r : Nat → Int) (hM : okMr cs ad g i x F r) (n0 : Nat) (hn0 : n0 < 6) (n1 : Nat) (hn1 : n1 < 6) (z2 : Int) (hz2 : -2147483648 ≤ z2 ∧ z2 ≤ 2147483647) : zM l yX10_compare cX10_compare 4 (some .int) ({ frames := 10, cells := 0, slots := 0, locals := 600 } : Room) D A cs tt N ad g [.ref (ad i), .int (zI ((n0 : Int))), .int (zI ((n1 : Int))), .int (zI (z2))] (rI0 N ad fun q g' => (-2147483648 ≤ q ∧ q ≤ 2147483647) ∧ (∃ F' r' : Nat → Int, okMr cs ad g' i (x + 1) F' r' ∧ F' 23 = F 23) ∧ ∀ j, j < i ∨ i + 30 ≤ j → g' j = g j) := by
  obtain ⟨hg, ⟨⟨e13, e14, e25, e27, e29⟩, k15, k16, k17, k18, k19, k20, k23⟩, hRD, hTx, hA, st, op, ai, fa, mu, tb, ns, nh, nd, rf, pi, tp, te, ki, li, ok1, ok2, fo, dd, dps, ⟨ha1, ha2, ha3, ha4, ha5, ha6, ha7, ha8, ha9, ha10, ha11, ha12, ha13, ha14, ha15, ha24, ha25, ha26, ha27, ha28, ha29⟩, hEv, hPt, hns, htp⟩ := id hM
  obtain ⟨-, hop, hai, hfa, hT, hT1⟩ := id hEv
  have hay1 : zAt ad (i) (ad i) := rfl
  have hay2 : zAt ad (i + 1) (ad (i + 1)) := rfl
  have hay3 : zAt ad (i + 2) (ad (i + 2)) := rfl
  have hay4 : zAt ad (i + 3) (ad (i + 3)) := rfl
  have hay5 : zAt ad (i + 4) (ad (i + 4)) := rfl
  have hay6 : zAt ad (i + 5) (ad (i + 5)) := rfl
  have hay7 : zAt ad (i + 6) (ad (i + 6)) := rfl
  have hay8 : zAt ad (i + 7) (ad (i + 7)) := rfl
  have hay9 : zAt ad (i + 8) (ad (i + 8)) := rfl
  have hay10 : zAt ad (i + 9) (ad (i + 9)) := rfl
  have hay11 : zAt ad (i + 10) (ad (i + 10)) := rfl
  have hay12 : zAt ad (i + 11) (ad (i + 11)) := rfl
  have hay13 : zAt ad (i + 12) (ad (i + 12)) := rfl
  have hay14 : zAt ad (i + 13) (ad (i + 13)) := rfl
  have hay15 : zAt ad (i + 14) (ad (i + 14)) := rfl
  have hay16 : zAt ad (i + 15) (ad (i + 15)) := rfl
  have hay17 : zAt ad (i + 24) (ad (i + 24)) := rfl
  have hay18 : zAt ad (i + 25) (ad (i + 25)) := rfl
  have hay19 : zAt ad (i + 26) (ad (i + 26)) := rfl
  have hay20 : zAt ad (i + 27) (ad (i + 27)) := rfl
  have hay21 : zAt ad (i + 28) (ad (i + 28)) := rfl
  have hay22 : zAt ad (i + 29) (ad (i + 29)) := rfl
  obtain ⟨⟨hsyy23, htyy23, hnyy23, hpyy23⟩, hlyy23⟩ := okA.at0 hA
  simp only [Nat.zero_add] at hsyy23 hnyy23 hpyy23
  have hmn : ∀ s, s < 4 → 0 ≤ r (6 + 86 * s) ∧ r (6 + 86 * s) ≤ 12 := fun s hs => (hsyy23 s hs).1
  have h5 : 0 ≤ r 5 ∧ r 5 ≤ 6 := hpyy23
  refine z_of (by decide) (Nat.le_of_ble_eq_true rfl) ?_
  intro pZ eZ sZ mZ below meth cZ C hr hlk hnm
  refine z_lv (lv' := [(0, .ref (ad i)), (1, .int (zI ((n0 : Int)))), (2, .int (zI ((n1 : Int)))), (3, .int (zI (z2)))]) [0, 1, 2, 3] rfl ?_
  refine z_aload_n C 0 dX10_compare_0 rfl ?_
  refine z_iconst (z := 0) C dX10_compare_1 rfl ?_
  refine z_put (fs' := mF ad (i) (uZ F 12 (0))) C (by omega) hay1 hg tyX10 tyX10_ok nmX10 rfl inA_X10 12 (by decide) q_1471 rfl rfl rfl rfl (Nat.le_of_ble_eq_true rfl) rfl dX10_compare_2 (fun gy24 egy25 => ?_)
  have hgy26 := up_s egy25
  refine z_aload_n C 0 dX10_compare_5 rfl ?_
  refine z_iload_n C 1 dX10_compare_6 rfl ?_
  have hgy27 := up_n egy25 ha1 (ne_o (i := i) (c := 1) (d := 0) rfl)
  have hey29 : (uZ F 12 (0)) 12 = 0 := (uZ_s _ _ _)
  refine z_cV (As := [.int (zI ((n0 : Int)))]) (rest := []) (ci := 12) C (c_X10_isPit l D A cs tt N ad _ i hN _ hgy26 _ hgy27 (by omega) h5 ((n0 : Int)) (by omega)) (by omega) hay1 hgy26 rfl rfl mv_yX10_isPit q_2027 hd_yX10_isPit (by decide) (Nat.le_of_ble_eq_true rfl) (by decide) dX10_compare_7 rfl (kI0 fun vy28 gvy28 hvy28 => ?_)
  obtain ⟨hrvy28, ⟨Fvy28, hcvy28, htvy28, hFvy28⟩, hfvy28⟩ := hvy28
  rcases (show vy28 = 1 ∨ vy28 = 0 by omega) with rfl | rfl
  · have hxvy28 := hrvy28.2 rfl
    refine z_if_eq (tgt := 35) C dX10_compare_10 (by decide) (by omega) (fun h => absurd h (by omega)) (fun _ => ?_)
    refine z_aload_n C 0 dX10_compare_13 rfl ?_
    refine z_iload_n C 2 dX10_compare_14 rfl ?_
    have hgy30 := (hfvy28 (i + 1) (ne_o (i := i) (c := 1) (d := 0) rfl)).trans hgy27
    have hey32 : Fvy28 12 = Fvy28 12 := rfl
    refine z_cV (As := [.int (zI ((n1 : Int)))]) (rest := []) (ci := 12) C (c_X10_isPit l D A cs tt N ad _ i hN _ hcvy28 _ hgy30 (by omega) h5 ((n1 : Int)) (by omega)) (by omega) hay1 hcvy28 rfl rfl mv_yX10_isPit q_2027 hd_yX10_isPit (by decide) (Nat.le_of_ble_eq_true rfl) (by decide) dX10_compare_15 rfl (kI0 fun vy31 gvy31 hvy31 => ?_)
    obtain ⟨hrvy31, ⟨Fvy31, hcvy31, htvy31, hFvy31⟩, hfvy31⟩ := hvy31
    rcases (show vy31 = 1 ∨ vy31 = 0 by omega) with rfl | rfl
    · have hxvy31 := hrvy31.2 rfl
      refine z_if_eq (tgt := 35) C dX10_compare_18 (by decide) (by omega) (fun h => absurd h (by omega)) (fun _ => ?_)
      refine z_aload_n C 0 dX10_compare_21 rfl ?_
      refine z_iload_n C 3 dX10_compare_22 rfl ?_
      refine z_iconst (z := 0) C dX10_compare_23 rfl ?_
      refine z_iconst (z := 3) C dX10_compare_24 rfl ?_
      refine z_cS (As := [.int (zI (z2)), .int (zI (0)), .int (zI (3))]) (rest := [.ref (ad i)]) C (c_X10_within l D A cs tt N ad _ (z2) (by omega) (0) (by omega) (3) (by omega)) ms_yX10_within q_1686 hd_yX10_within (by decide) (Nat.le_of_ble_eq_true rfl) (by decide) dX10_compare_25 rfl (kI0 fun vy33 gvy33 hvy33 => ?_)
      obtain ⟨hvy33, rfl⟩ := hvy33
      rcases hvy33 with ⟨rfl, hxvy33⟩ | ⟨rfl, hxvy33⟩
      · refine z_iconst (z := 1) C dX10_compare_28 rfl ?_
        have hey35 : Fvy31 12 = Fvy31 12 := rfl
        refine z_cV (As := [.int (zI (1)), .int (zI (1))]) (rest := []) (ci := 12) C (c_X10_right l D A cs tt N ad _ i hN _ hcvy31 (by omega) (1) (by omega) (1) (by omega)) (by omega) hay1 hcvy31 rfl rfl mv_yX10_right q_1648 hd_yX10_right (by decide) (Nat.le_of_ble_eq_true rfl) (by decide) dX10_compare_29 rfl (kI0 fun vy34 gvy34 hvy34 => ?_)
        obtain ⟨hrvy34, ⟨Fvy34, hcvy34, htvy34, hFvy34⟩, hfvy34⟩ := hvy34
        rcases (show vy34 = 1 ∨ vy34 = 0 by omega) with rfl | rfl
        · refine z_if_ne (tgt := 37) C dX10_compare_32 (by decide) (by omega) (fun _ => ?_) (fun h => absurd h (by omega))
          refine z_iload_n C 3 dX10_compare_37 rfl ?_
          refine z_if_ne (tgt := 48) C dX10_compare_38 (by decide) (by omega) (fun hby36 => ?_) (fun hby36 => ?_)
          · refine z_iload_n C 3 dX10_compare_48 rfl ?_
            refine z_iconst (z := 3) C dX10_compare_49 rfl ?_
            refine z_icmp_ne (tgt := 81) C dX10_compare_50 (by decide) (by omega) (by omega) (fun hby37 => ?_) (fun hby37 => ?_)
            · refine z_aload_n C 0 dX10_compare_81 rfl ?_
              refine z_aload_n C 0 dX10_compare_82 rfl ?_
              refine z_iload_n C 1 dX10_compare_83 rfl ?_
              have hgy38 := up_n egy25 ha12 (ne_o (i := i) (c := 12) (d := 0) rfl)
              have hgy39 := (hfvy28 (i + 12) (ne_o (i := i) (c := 12) (d := 0) rfl)).trans hgy38
              have hgy40 := (hfvy31 (i + 12) (ne_o (i := i) (c := 12) (d := 0) rfl)).trans hgy39
              have hgy41 := (hfvy34 (i + 12) (ne_o (i := i) (c := 12) (d := 0) rfl)).trans hgy40
              have hpkn0 := okPt.at hPt (k := n0) (by omega)
              refine z_cV (As := [.int (zI ((n0 : Int)))]) (rest := [.ref (ad i)]) (ci := 12) C (c_X10_pitMany l D A cs tt N ad _ i hN _ hcvy34 _ hgy41 hPt n0 (by omega)) (by omega) hay1 hcvy34 rfl rfl mv_yX10_pitMany q_2031 hd_yX10_pitMany (by decide) (Nat.le_of_ble_eq_true rfl) (by decide) dX10_compare_84 rfl (kI0 fun vy42 gvy42 hvy42 => ?_)
              obtain ⟨rfl, rfl⟩ := hvy42
              refine z_put (fs' := mF ad (i) (uZ Fvy34 55 (pi (90 * n0 + 2)))) C (by omega) hay1 hcvy34 tyX10 tyX10_ok nmX10 rfl inA_X10 55 (by decide) q_1514 rfl rfl rfl rfl (Nat.le_of_ble_eq_true rfl) rfl dX10_compare_87 (fun gy43 egy44 => ?_)
              have hgy45 := up_s egy44
              refine z_aload_n C 0 dX10_compare_90 rfl ?_
              refine z_aload_n C 0 dX10_compare_91 rfl ?_
              refine z_iload_n C 2 dX10_compare_92 rfl ?_
              have hgy46 := up_n egy44 hgy41 (ne_o (i := i) (c := 12) (d := 0) rfl)
              have hpkn1 := okPt.at hPt (k := n1) (by omega)
              refine z_cV (As := [.int (zI ((n1 : Int)))]) (rest := [.ref (ad i)]) (ci := 12) C (c_X10_pitMany l D A cs tt N ad _ i hN _ hgy45 _ hgy46 hPt n1 (by omega)) (by omega) hay1 hgy45 rfl rfl mv_yX10_pitMany q_2031 hd_yX10_pitMany (by decide) (Nat.le_of_ble_eq_true rfl) (by decide) dX10_compare_93 rfl (kI0 fun vy47 gvy47 hvy47 => ?_)
              obtain ⟨rfl, rfl⟩ := hvy47
              refine z_put (fs' := mF ad (i) (uZ (uZ Fvy34 55 (pi (90 * n0 + 2))) 56 (pi (90 * n1 + 2)))) C (by omega) hay1 hgy45 tyX10 tyX10_ok nmX10 rfl inA_X10 56 (by decide) q_1515 rfl rfl rfl rfl (Nat.le_of_ble_eq_true rfl) rfl dX10_compare_96 (fun gy48 egy49 => ?_)
              have hgy50 := up_s egy49
              refine z_aload_n C 0 dX10_compare_99 rfl ?_
              refine z_iload_n C 1 dX10_compare_100 rfl ?_
              refine z_aload_n C 0 dX10_compare_101 rfl ?_
              refine z_get (v := .ref (ad (i + 25))) C (by omega) hay1 hgy50 rfl inA_X10 52 (by decide) q_1511 rfl rfl dX10_compare_102 ?_
              have hgy51 := up_n egy49 hgy46 (ne_o (i := i) (c := 12) (d := 0) rfl)
              have hgy52 := up_n egy25 ha25 (ne_o (i := i) (c := 25) (d := 0) rfl)
              have hgy53 := (hfvy28 (i + 25) (ne_o (i := i) (c := 25) (d := 0) rfl)).trans hgy52
              have hgy54 := (hfvy31 (i + 25) (ne_o (i := i) (c := 25) (d := 0) rfl)).trans hgy53
              have hgy55 := (hfvy34 (i + 25) (ne_o (i := i) (c := 25) (d := 0) rfl)).trans hgy54
              have hgy56 := up_n egy44 hgy55 (ne_o (i := i) (c := 25) (d := 0) rfl)
              have hgy57 := up_n egy49 hgy56 (ne_o (i := i) (c := 25) (d := 0) rfl)
              refine z_cV (As := [.int (zI ((n0 : Int))), .ref (ad (i + 25))]) (rest := []) (ci := 12) C (c_X10_laysPit25 l D A cs tt N ad _ i hN _ hgy50 _ hgy51 hPt _ hgy57 n0 (by omega)) (by omega) hay1 hgy50 rfl rfl mv_yX10_laysPit q_2051 hd_yX10_laysPit (by decide) (Nat.le_of_ble_eq_true rfl) (by decide) dX10_compare_105 rfl (kV0 fun gvy58 hvy58 => ?_)
              obtain ⟨⟨tvy58, hdvy58⟩, hfvy58⟩ := hvy58
              refine z_aload_n C 0 dX10_compare_108 rfl ?_
              refine z_iload_n C 2 dX10_compare_109 rfl ?_
              refine z_aload_n C 0 dX10_compare_110 rfl ?_
              have hgy59 := (hfvy58 (i) (ne_o (i := i) (c := 0) (d := 25) rfl)).trans hgy50
              refine z_get (v := .ref (ad (i + 26))) C (by omega) hay1 hgy59 rfl inA_X10 53 (by decide) q_1512 rfl rfl dX10_compare_111 ?_
              have hgy60 := (hfvy58 (i + 12) (ne_o (i := i) (c := 12) (d := 25) rfl)).trans hgy51
              have hgy61 := up_n egy25 ha26 (ne_o (i := i) (c := 26) (d := 0) rfl)
              have hgy62 := (hfvy28 (i + 26) (ne_o (i := i) (c := 26) (d := 0) rfl)).trans hgy61
              have hgy63 := (hfvy31 (i + 26) (ne_o (i := i) (c := 26) (d := 0) rfl)).trans hgy62
              have hgy64 := (hfvy34 (i + 26) (ne_o (i := i) (c := 26) (d := 0) rfl)).trans hgy63
              have hgy65 := up_n egy44 hgy64 (ne_o (i := i) (c := 26) (d := 0) rfl)
              have hgy66 := up_n egy49 hgy65 (ne_o (i := i) (c := 26) (d := 0) rfl)
              have hgy67 := (hfvy58 (i + 26) (ne_o (i := i) (c := 26) (d := 25) rfl)).trans hgy66
              refine z_cV (As := [.int (zI ((n1 : Int))), .ref (ad (i + 26))]) (rest := []) (ci := 12) C (c_X10_laysPit26 l D A cs tt N ad _ i hN _ hgy59 _ hgy60 hPt _ hgy67 n1 (by omega)) (by omega) hay1 hgy59 rfl rfl mv_yX10_laysPit q_2051 hd_yX10_laysPit (by decide) (Nat.le_of_ble_eq_true rfl) (by decide) dX10_compare_114 rfl (kV0 fun gvy68 hvy68 => ?_)
              obtain ⟨⟨tvy68, hdvy68⟩, hfvy68⟩ := hvy68
              refine z_aload_n C 0 dX10_compare_117 rfl ?_
              refine z_iload_n C 3 dX10_compare_118 rfl ?_
              refine z_iconst (z := 1) C dX10_compare_119 rfl ?_
              refine z_icmp_ne (tgt := 127) C dX10_compare_120 (by decide) (by omega) (by omega) (fun hby69 => ?_) (fun hby69 => ?_)
              · refine z_iconst (z := 0) C dX10_compare_127 rfl ?_
                have hgy70 := (hfvy68 (i) (ne_o (i := i) (c := 0) (d := 26) rfl)).trans hgy59
                have hey72 : (uZ (uZ Fvy34 55 (pi (90 * n0 + 2))) 56 (pi (90 * n1 + 2))) 55 = pi (90 * n0 + 2) := (fn (uZ_s _ _ _) (by decide))
                have hey73 : (uZ (uZ Fvy34 55 (pi (90 * n0 + 2))) 56 (pi (90 * n1 + 2))) 56 = pi (90 * n1 + 2) := (uZ_s _ _ _)
                have hgy74 := (hfvy68 (i + 25) (ne_o (i := i) (c := 25) (d := 26) rfl)).trans hdvy58
                have hgy75 := up_n egy25 ha27 (ne_o (i := i) (c := 27) (d := 0) rfl)
                have hgy76 := (hfvy28 (i + 27) (ne_o (i := i) (c := 27) (d := 0) rfl)).trans hgy75
                have hgy77 := (hfvy31 (i + 27) (ne_o (i := i) (c := 27) (d := 0) rfl)).trans hgy76
                have hgy78 := (hfvy34 (i + 27) (ne_o (i := i) (c := 27) (d := 0) rfl)).trans hgy77
                have hgy79 := up_n egy44 hgy78 (ne_o (i := i) (c := 27) (d := 0) rfl)
                have hgy80 := up_n egy49 hgy79 (ne_o (i := i) (c := 27) (d := 0) rfl)
                have hgy81 := (hfvy58 (i + 27) (ne_o (i := i) (c := 27) (d := 25) rfl)).trans hgy80
                have hgy82 := (hfvy68 (i + 27) (ne_o (i := i) (c := 27) (d := 26) rfl)).trans hgy81
                refine z_cV (As := [.int (zI (0))]) (rest := []) (ci := 12) C (c_X10_folds l D A cs tt N ad _ i hN _ hgy70 _ hgy74 _ hdvy68 _ hgy82 (by omega) (by omega) (0) (by omega)) (by omega) hay1 hgy70 rfl rfl mv_yX10_folds q_2055 hd_yX10_folds (by decide) (Nat.le_of_ble_eq_true rfl) (by decide) dX10_compare_128 rfl (kI0 fun vy71 gvy71 hvy71 => ?_)
                obtain ⟨hrvy71, ⟨tvy71, hdvy71⟩, hfvy71⟩ := hvy71
                have hgy83 := (hfvy71 (i) (ne_o (i := i) (c := 0) (d := 27) rfl)).trans hgy70
                have hgy84 := (hfvy31 (i + 1) (ne_o (i := i) (c := 1) (d := 0) rfl)).trans hgy30
                have hgy85 := (hfvy34 (i + 1) (ne_o (i := i) (c := 1) (d := 0) rfl)).trans hgy84
                have hgy86 := up_n egy44 hgy85 (ne_o (i := i) (c := 1) (d := 0) rfl)
                have hgy87 := up_n egy49 hgy86 (ne_o (i := i) (c := 1) (d := 0) rfl)
                have hgy88 := (hfvy58 (i + 1) (ne_o (i := i) (c := 1) (d := 25) rfl)).trans hgy87
                have hgy89 := (hfvy68 (i + 1) (ne_o (i := i) (c := 1) (d := 26) rfl)).trans hgy88
                have hgy90 := (hfvy71 (i + 1) (ne_o (i := i) (c := 1) (d := 27) rfl)).trans hgy89
                have hFy91 : ∀ f, f ≠ 12 → f ≠ 55 → f ≠ 56 → (uZ (uZ Fvy34 55 (pi (90 * n0 + 2))) 56 (pi (90 * n1 + 2))) f = F f := fun f n12 n55 n56 => ((uZ_n _ _ n56).trans ((uZ_n _ _ n55).trans ((hFvy34 f n12).trans ((hFvy31 f n12).trans ((hFvy28 f n12).trans ((uZ_n _ _ n12).trans rfl))))))
                have hey92 : (uZ (uZ Fvy34 55 (pi (90 * n0 + 2))) 56 (pi (90 * n1 + 2))) 13 = F 13 := (fn (fn ((hFvy34 13 (by decide)).trans ((hFvy31 13 (by decide)).trans ((hFvy28 13 (by decide)).trans (fn rfl (by decide))))) (by decide)) (by decide))
                have hey93 : (uZ (uZ Fvy34 55 (pi (90 * n0 + 2))) 56 (pi (90 * n1 + 2))) 14 = F 14 := (fn (fn ((hFvy34 14 (by decide)).trans ((hFvy31 14 (by decide)).trans ((hFvy28 14 (by decide)).trans (fn rfl (by decide))))) (by decide)) (by decide))
                have hey94 : (uZ (uZ Fvy34 55 (pi (90 * n0 + 2))) 56 (pi (90 * n1 + 2))) 15 = F 15 := (fn (fn ((hFvy34 15 (by decide)).trans ((hFvy31 15 (by decide)).trans ((hFvy28 15 (by decide)).trans (fn rfl (by decide))))) (by decide)) (by decide))
                have hey95 : (uZ (uZ Fvy34 55 (pi (90 * n0 + 2))) 56 (pi (90 * n1 + 2))) 16 = F 16 := (fn (fn ((hFvy34 16 (by decide)).trans ((hFvy31 16 (by decide)).trans ((hFvy28 16 (by decide)).trans (fn rfl (by decide))))) (by decide)) (by decide))
                have hey96 : (uZ (uZ Fvy34 55 (pi (90 * n0 + 2))) 56 (pi (90 * n1 + 2))) 17 = F 17 := (fn (fn ((hFvy34 17 (by decide)).trans ((hFvy31 17 (by decide)).trans ((hFvy28 17 (by decide)).trans (fn rfl (by decide))))) (by decide)) (by decide))
                have hey97 : (uZ (uZ Fvy34 55 (pi (90 * n0 + 2))) 56 (pi (90 * n1 + 2))) 18 = F 18 := (fn (fn ((hFvy34 18 (by decide)).trans ((hFvy31 18 (by decide)).trans ((hFvy28 18 (by decide)).trans (fn rfl (by decide))))) (by decide)) (by decide))
                have hey98 : (uZ (uZ Fvy34 55 (pi (90 * n0 + 2))) 56 (pi (90 * n1 + 2))) 19 = F 19 := (fn (fn ((hFvy34 19 (by decide)).trans ((hFvy31 19 (by decide)).trans ((hFvy28 19 (by decide)).trans (fn rfl (by decide))))) (by decide)) (by decide))
                have hey99 : (uZ (uZ Fvy34 55 (pi (90 * n0 + 2))) 56 (pi (90 * n1 + 2))) 20 = F 20 := (fn (fn ((hFvy34 20 (by decide)).trans ((hFvy31 20 (by decide)).trans ((hFvy28 20 (by decide)).trans (fn rfl (by decide))))) (by decide)) (by decide))
                have hey100 : (uZ (uZ Fvy34 55 (pi (90 * n0 + 2))) 56 (pi (90 * n1 + 2))) 23 = F 23 := (fn (fn ((hFvy34 23 (by decide)).trans ((hFvy31 23 (by decide)).trans ((hFvy28 23 (by decide)).trans (fn rfl (by decide))))) (by decide)) (by decide))
                have hey101 : (uZ (uZ Fvy34 55 (pi (90 * n0 + 2))) 56 (pi (90 * n1 + 2))) 25 = F 25 := (fn (fn ((hFvy34 25 (by decide)).trans ((hFvy31 25 (by decide)).trans ((hFvy28 25 (by decide)).trans (fn rfl (by decide))))) (by decide)) (by decide))
                have hey102 : (uZ (uZ Fvy34 55 (pi (90 * n0 + 2))) 56 (pi (90 * n1 + 2))) 27 = F 27 := (fn (fn ((hFvy34 27 (by decide)).trans ((hFvy31 27 (by decide)).trans ((hFvy28 27 (by decide)).trans (fn rfl (by decide))))) (by decide)) (by decide))
                have hey103 : (uZ (uZ Fvy34 55 (pi (90 * n0 + 2))) 56 (pi (90 * n1 + 2))) 28 = F 28 := (fn (fn ((hFvy34 28 (by decide)).trans ((hFvy31 28 (by decide)).trans ((hFvy28 28 (by decide)).trans (fn rfl (by decide))))) (by decide)) (by decide))
                have hey104 : (uZ (uZ Fvy34 55 (pi (90 * n0 + 2))) 56 (pi (90 * n1 + 2))) 29 = F 29 := (fn (fn ((hFvy34 29 (by decide)).trans ((hFvy31 29 (by decide)).trans ((hFvy28 29 (by decide)).trans (fn rfl (by decide))))) (by decide)) (by decide))
                have hKy105 : okF (uZ (uZ Fvy34 55 (pi (90 * n0 + 2))) 56 (pi (90 * n1 + 2))) := by unfold okF; omega
                have hgy107 := (hfvy71 (i + 25) (ne_o (i := i) (c := 25) (d := 27) rfl)).trans hgy74
                have hgy108 := (hfvy71 (i + 26) (ne_o (i := i) (c := 26) (d := 27) rfl)).trans hdvy68
                have hMy106 : okMr cs ad gvy71 i (x + 1) (uZ (uZ Fvy34 55 (pi (90 * n0 + 2))) 56 (pi (90 * n1 + 2))) r := okMr.upd hM hgy83 hKy105 (fun f a => hFy91 f (by omega) (by omega) (by omega)) hgy90 (hA.mono (by omega)) (fun j a b => by
                    by_cases e0 : j = i + 25
                    · exact Or.inr ⟨25, _, e0, lsP.l (by decide), by rw [e0]; exact hgy107⟩
                    by_cases e1 : j = i + 26
                    · exact Or.inr ⟨26, _, e1, lsP.l (by decide), by rw [e1]; exact hgy108⟩
                    by_cases e2 : j = i + 27
                    · exact Or.inr ⟨27, _, e2, lsP.l (by decide), by rw [e2]; exact hdvy71⟩
                    exact Or.inl (by rw [hfvy71 _ (by omega)]; rw [hfvy68 _ (by omega)]; rw [hfvy58 _ (by omega)]; rw [egy49, va_up_ne _ _ (by omega)]; rw [egy44, va_up_ne _ _ (by omega)]; rw [hfvy34 _ (by omega)]; rw [hfvy31 _ (by omega)]; rw [hfvy28 _ (by omega)]; rw [egy25, va_up_ne _ _ (by omega)]))
                have h23 : (uZ (uZ Fvy34 55 (pi (90 * n0 + 2))) 56 (pi (90 * n1 + 2))) 23 = F 23 := (fn (fn ((hFvy34 23 (by decide)).trans ((hFvy31 23 (by decide)).trans ((hFvy28 23 (by decide)).trans (fn rfl (by decide))))) (by decide)) (by decide))
                exact z_iret C hr hlk dX10_compare_131 (by decide) (by decide) ⟨vy71, rfl, rfl, rfl, by omega, ⟨_, _, hMy106, by omega⟩, fun j j1 => by rw [hfvy71 _ (by omega)]; rw [hfvy68 _ (by omega)]; rw [hfvy58 _ (by omega)]; rw [egy49, va_up_ne _ _ (by omega)]; rw [egy44, va_up_ne _ _ (by omega)]; rw [hfvy34 _ (by omega)]; rw [hfvy31 _ (by omega)]; rw [hfvy28 _ (by omega)]; rw [egy25, va_up_ne _ _ (by omega)]⟩
              · refine z_iconst (z := 1) C dX10_compare_123 rfl ?_
                refine z_goto (tgt := 128) C dX10_compare_124 (by decide) ?_
                have hgy109 := (hfvy68 (i) (ne_o (i := i) (c := 0) (d := 26) rfl)).trans hgy59
                have hey111 : (uZ (uZ Fvy34 55 (pi (90 * n0 + 2))) 56 (pi (90 * n1 + 2))) 55 = pi (90 * n0 + 2) := (fn (uZ_s _ _ _) (by decide))
                have hey112 : (uZ (uZ Fvy34 55 (pi (90 * n0 + 2))) 56 (pi (90 * n1 + 2))) 56 = pi (90 * n1 + 2) := (uZ_s _ _ _)
                have hgy113 := (hfvy68 (i + 25) (ne_o (i := i) (c := 25) (d := 26) rfl)).trans hdvy58
                have hgy114 := up_n egy25 ha27 (ne_o (i := i) (c := 27) (d := 0) rfl)
                have hgy115 := (hfvy28 (i + 27) (ne_o (i := i) (c := 27) (d := 0) rfl)).trans hgy114
                have hgy116 := (hfvy31 (i + 27) (ne_o (i := i) (c := 27) (d := 0) rfl)).trans hgy115
                have hgy117 := (hfvy34 (i + 27) (ne_o (i := i) (c := 27) (d := 0) rfl)).trans hgy116
                have hgy118 := up_n egy44 hgy117 (ne_o (i := i) (c := 27) (d := 0) rfl)
                have hgy119 := up_n egy49 hgy118 (ne_o (i := i) (c := 27) (d := 0) rfl)
                have hgy120 := (hfvy58 (i + 27) (ne_o (i := i) (c := 27) (d := 25) rfl)).trans hgy119
                have hgy121 := (hfvy68 (i + 27) (ne_o (i := i) (c := 27) (d := 26) rfl)).trans hgy120
                refine z_cV (As := [.int (zI (1))]) (rest := []) (ci := 12) C (c_X10_folds l D A cs tt N ad _ i hN _ hgy109 _ hgy113 _ hdvy68 _ hgy121 (by omega) (by omega) (1) (by omega)) (by omega) hay1 hgy109 rfl rfl mv_yX10_folds q_2055 hd_yX10_folds (by decide) (Nat.le_of_ble_eq_true rfl) (by decide) dX10_compare_128 rfl (kI0 fun vy110 gvy110 hvy110 => ?_)
                obtain ⟨hrvy110, ⟨tvy110, hdvy110⟩, hfvy110⟩ := hvy110
                have hgy122 := (hfvy110 (i) (ne_o (i := i) (c := 0) (d := 27) rfl)).trans hgy109
                have hgy123 := (hfvy31 (i + 1) (ne_o (i := i) (c := 1) (d := 0) rfl)).trans hgy30
                have hgy124 := (hfvy34 (i + 1) (ne_o (i := i) (c := 1) (d := 0) rfl)).trans hgy123
                have hgy125 := up_n egy44 hgy124 (ne_o (i := i) (c := 1) (d := 0) rfl)
                have hgy126 := up_n egy49 hgy125 (ne_o (i := i) (c := 1) (d := 0) rfl)
                have hgy127 := (hfvy58 (i + 1) (ne_o (i := i) (c := 1) (d := 25) rfl)).trans hgy126
                have hgy128 := (hfvy68 (i + 1) (ne_o (i := i) (c := 1) (d := 26) rfl)).trans hgy127
                have hgy129 := (hfvy110 (i + 1) (ne_o (i := i) (c := 1) (d := 27) rfl)).trans hgy128
                have hFy130 : ∀ f, f ≠ 12 → f ≠ 55 → f ≠ 56 → (uZ (uZ Fvy34 55 (pi (90 * n0 + 2))) 56 (pi (90 * n1 + 2))) f = F f := fun f n12 n55 n56 => ((uZ_n _ _ n56).trans ((uZ_n _ _ n55).trans ((hFvy34 f n12).trans ((hFvy31 f n12).trans ((hFvy28 f n12).trans ((uZ_n _ _ n12).trans rfl))))))
                have hey131 : (uZ (uZ Fvy34 55 (pi (90 * n0 + 2))) 56 (pi (90 * n1 + 2))) 13 = F 13 := (fn (fn ((hFvy34 13 (by decide)).trans ((hFvy31 13 (by decide)).trans ((hFvy28 13 (by decide)).trans (fn rfl (by decide))))) (by decide)) (by decide))
                have hey132 : (uZ (uZ Fvy34 55 (pi (90 * n0 + 2))) 56 (pi (90 * n1 + 2))) 14 = F 14 := (fn (fn ((hFvy34 14 (by decide)).trans ((hFvy31 14 (by decide)).trans ((hFvy28 14 (by decide)).trans (fn rfl (by decide))))) (by decide)) (by decide))
                have hey133 : (uZ (uZ Fvy34 55 (pi (90 * n0 + 2))) 56 (pi (90 * n1 + 2))) 15 = F 15 := (fn (fn ((hFvy34 15 (by decide)).trans ((hFvy31 15 (by decide)).trans ((hFvy28 15 (by decide)).trans (fn rfl (by decide))))) (by decide)) (by decide))
                have hey134 : (uZ (uZ Fvy34 55 (pi (90 * n0 + 2))) 56 (pi (90 * n1 + 2))) 16 = F 16 := (fn (fn ((hFvy34 16 (by decide)).trans ((hFvy31 16 (by decide)).trans ((hFvy28 16 (by decide)).trans (fn rfl (by decide))))) (by decide)) (by decide))
                have hey135 : (uZ (uZ Fvy34 55 (pi (90 * n0 + 2))) 56 (pi (90 * n1 + 2))) 17 = F 17 := (fn (fn ((hFvy34 17 (by decide)).trans ((hFvy31 17 (by decide)).trans ((hFvy28 17 (by decide)).trans (fn rfl (by decide))))) (by decide)) (by decide))
                have hey136 : (uZ (uZ Fvy34 55 (pi (90 * n0 + 2))) 56 (pi (90 * n1 + 2))) 18 = F 18 := (fn (fn ((hFvy34 18 (by decide)).trans ((hFvy31 18 (by decide)).trans ((hFvy28 18 (by decide)).trans (fn rfl (by decide))))) (by decide)) (by decide))
                have hey137 : (uZ (uZ Fvy34 55 (pi (90 * n0 + 2))) 56 (pi (90 * n1 + 2))) 19 = F 19 := (fn (fn ((hFvy34 19 (by decide)).trans ((hFvy31 19 (by decide)).trans ((hFvy28 19 (by decide)).trans (fn rfl (by decide))))) (by decide)) (by decide))
                have hey138 : (uZ (uZ Fvy34 55 (pi (90 * n0 + 2))) 56 (pi (90 * n1 + 2))) 20 = F 20 := (fn (fn ((hFvy34 20 (by decide)).trans ((hFvy31 20 (by decide)).trans ((hFvy28 20 (by decide)).trans (fn rfl (by decide))))) (by decide)) (by decide))
                have hey139 : (uZ (uZ Fvy34 55 (pi (90 * n0 + 2))) 56 (pi (90 * n1 + 2))) 23 = F 23 := (fn (fn ((hFvy34 23 (by decide)).trans ((hFvy31 23 (by decide)).trans ((hFvy28 23 (by decide)).trans (fn rfl (by decide))))) (by decide)) (by decide))
                have hey140 : (uZ (uZ Fvy34 55 (pi (90 * n0 + 2))) 56 (pi (90 * n1 + 2))) 25 = F 25 := (fn (fn ((hFvy34 25 (by decide)).trans ((hFvy31 25 (by decide)).trans ((hFvy28 25 (by decide)).trans (fn rfl (by decide))))) (by decide)) (by decide))
                have hey141 : (uZ (uZ Fvy34 55 (pi (90 * n0 + 2))) 56 (pi (90 * n1 + 2))) 27 = F 27 := (fn (fn ((hFvy34 27 (by decide)).trans ((hFvy31 27 (by decide)).trans ((hFvy28 27 (by decide)).trans (fn rfl (by decide))))) (by decide)) (by decide))
                have hey142 : (uZ (uZ Fvy34 55 (pi (90 * n0 + 2))) 56 (pi (90 * n1 + 2))) 28 = F 28 := (fn (fn ((hFvy34 28 (by decide)).trans ((hFvy31 28 (by decide)).trans ((hFvy28 28 (by decide)).trans (fn rfl (by decide))))) (by decide)) (by decide))
                have hey143 : (uZ (uZ Fvy34 55 (pi (90 * n0 + 2))) 56 (pi (90 * n1 + 2))) 29 = F 29 := (fn (fn ((hFvy34 29 (by decide)).trans ((hFvy31 29 (by decide)).trans ((hFvy28 29 (by decide)).trans (fn rfl (by decide))))) (by decide)) (by decide))
                have hKy144 : okF (uZ (uZ Fvy34 55 (pi (90 * n0 + 2))) 56 (pi (90 * n1 + 2))) := by unfold okF; omega
                have hgy146 := (hfvy110 (i + 25) (ne_o (i := i) (c := 25) (d := 27) rfl)).trans hgy113
                have hgy147 := (hfvy110 (i + 26) (ne_o (i := i) (c := 26) (d := 27) rfl)).trans hdvy68
                have hMy145 : okMr cs ad gvy110 i (x + 1) (uZ (uZ Fvy34 55 (pi (90 * n0 + 2))) 56 (pi (90 * n1 + 2))) r := okMr.upd hM hgy122 hKy144 (fun f a => hFy130 f (by omega) (by omega) (by omega)) hgy129 (hA.mono (by omega)) (fun j a b => by
                    by_cases e0 : j = i + 25
                    · exact Or.inr ⟨25, _, e0, lsP.l (by decide), by rw [e0]; exact hgy146⟩
                    by_cases e1 : j = i + 26
                    · exact Or.inr ⟨26, _, e1, lsP.l (by decide), by rw [e1]; exact hgy147⟩
                    by_cases e2 : j = i + 27
                    · exact Or.inr ⟨27, _, e2, lsP.l (by decide), by rw [e2]; exact hdvy110⟩
                    exact Or.inl (by rw [hfvy110 _ (by omega)]; rw [hfvy68 _ (by omega)]; rw [hfvy58 _ (by omega)]; rw [egy49, va_up_ne _ _ (by omega)]; rw [egy44, va_up_ne _ _ (by omega)]; rw [hfvy34 _ (by omega)]; rw [hfvy31 _ (by omega)]; rw [hfvy28 _ (by omega)]; rw [egy25, va_up_ne _ _ (by omega)]))
                have h23 : (uZ (uZ Fvy34 55 (pi (90 * n0 + 2))) 56 (pi (90 * n1 + 2))) 23 = F 23 := (fn (fn ((hFvy34 23 (by decide)).trans ((hFvy31 23 (by decide)).trans ((hFvy28 23 (by decide)).trans (fn rfl (by decide))))) (by decide)) (by decide))
                exact z_iret C hr hlk dX10_compare_131 (by decide) (by decide) ⟨vy110, rfl, rfl, rfl, by omega, ⟨_, _, hMy145, by omega⟩, fun j j1 => by rw [hfvy110 _ (by omega)]; rw [hfvy68 _ (by omega)]; rw [hfvy58 _ (by omega)]; rw [egy49, va_up_ne _ _ (by omega)]; rw [egy44, va_up_ne _ _ (by omega)]; rw [hfvy34 _ (by omega)]; rw [hfvy31 _ (by omega)]; rw [hfvy28 _ (by omega)]; rw [egy25, va_up_ne _ _ (by omega)]⟩
            · refine z_aload_n C 0 dX10_compare_53 rfl ?_
              refine z_iload_n C 1 dX10_compare_54 rfl ?_
              have hgy148 := (hfvy31 (i + 1) (ne_o (i := i) (c := 1) (d := 0) rfl)).trans hgy30
              have hgy149 := (hfvy34 (i + 1) (ne_o (i := i) (c := 1) (d := 0) rfl)).trans hgy148
              have hFy150 : ∀ f, f ≠ 12 → Fvy34 f = F f := fun f n12 => ((hFvy34 f n12).trans ((hFvy31 f n12).trans ((hFvy28 f n12).trans ((uZ_n _ _ n12).trans rfl))))
              have hey151 : Fvy34 13 = F 13 := ((hFvy34 13 (by decide)).trans ((hFvy31 13 (by decide)).trans ((hFvy28 13 (by decide)).trans (fn rfl (by decide)))))
              have hey152 : Fvy34 14 = F 14 := ((hFvy34 14 (by decide)).trans ((hFvy31 14 (by decide)).trans ((hFvy28 14 (by decide)).trans (fn rfl (by decide)))))
              have hey153 : Fvy34 15 = F 15 := ((hFvy34 15 (by decide)).trans ((hFvy31 15 (by decide)).trans ((hFvy28 15 (by decide)).trans (fn rfl (by decide)))))
              have hey154 : Fvy34 16 = F 16 := ((hFvy34 16 (by decide)).trans ((hFvy31 16 (by decide)).trans ((hFvy28 16 (by decide)).trans (fn rfl (by decide)))))
              have hey155 : Fvy34 17 = F 17 := ((hFvy34 17 (by decide)).trans ((hFvy31 17 (by decide)).trans ((hFvy28 17 (by decide)).trans (fn rfl (by decide)))))
              have hey156 : Fvy34 18 = F 18 := ((hFvy34 18 (by decide)).trans ((hFvy31 18 (by decide)).trans ((hFvy28 18 (by decide)).trans (fn rfl (by decide)))))
              have hey157 : Fvy34 19 = F 19 := ((hFvy34 19 (by decide)).trans ((hFvy31 19 (by decide)).trans ((hFvy28 19 (by decide)).trans (fn rfl (by decide)))))
              have hey158 : Fvy34 20 = F 20 := ((hFvy34 20 (by decide)).trans ((hFvy31 20 (by decide)).trans ((hFvy28 20 (by decide)).trans (fn rfl (by decide)))))
              have hey159 : Fvy34 23 = F 23 := ((hFvy34 23 (by decide)).trans ((hFvy31 23 (by decide)).trans ((hFvy28 23 (by decide)).trans (fn rfl (by decide)))))
              have hey160 : Fvy34 25 = F 25 := ((hFvy34 25 (by decide)).trans ((hFvy31 25 (by decide)).trans ((hFvy28 25 (by decide)).trans (fn rfl (by decide)))))
              have hey161 : Fvy34 27 = F 27 := ((hFvy34 27 (by decide)).trans ((hFvy31 27 (by decide)).trans ((hFvy28 27 (by decide)).trans (fn rfl (by decide)))))
              have hey162 : Fvy34 28 = F 28 := ((hFvy34 28 (by decide)).trans ((hFvy31 28 (by decide)).trans ((hFvy28 28 (by decide)).trans (fn rfl (by decide)))))
              have hey163 : Fvy34 29 = F 29 := ((hFvy34 29 (by decide)).trans ((hFvy31 29 (by decide)).trans ((hFvy28 29 (by decide)).trans (fn rfl (by decide)))))
              have hKy164 : okF Fvy34 := by unfold okF; omega
              have hMy165 : okMr cs ad gvy34 i (x) Fvy34 r := okMr.upd hM hcvy34 hKy164 (fun f a => hFy150 f (by omega)) hgy149 (hA.mono (by omega)) (fun j a b => by
                  exact Or.inl (by rw [hfvy34 _ (by omega)]; rw [hfvy31 _ (by omega)]; rw [hfvy28 _ (by omega)]; rw [egy25, va_up_ne _ _ (by omega)]))
              refine z_cV (As := [.int (zI ((n0 : Int)))]) (rest := []) (ci := 12) C (c_X10_weakestName l D A cs tt N ad _ i hN x hx _ _ hMy165 n0 (by omega)) (by omega) hay1 hcvy34 rfl rfl mv_yX10_weakestName q_2047 hd_yX10_weakestName (by decide) (Nat.le_of_ble_eq_true rfl) (by decide) dX10_compare_55 rfl (kI0 fun vy166 gvy166 hvy166 => ?_)
              obtain ⟨hrvy166, ⟨Fvy166, rvy166, hMvy166, hFvy166⟩, hfvy166⟩ := hvy166
              have hFy167 : ∀ f, f ≠ 12 → Fvy34 f = F f := fun f n12 => ((hFvy34 f n12).trans ((hFvy31 f n12).trans ((hFvy28 f n12).trans ((uZ_n _ _ n12).trans rfl))))
              have hBvy166 : (∀ f, f ≠ 12 → Fvy166 f = F f) := fun f n12 => (hFvy166 f ).trans (hFy167 f n12)
              have hCvy166 := hBvy166
              have hq13vy166 : Fvy166 13 = F 13 := (hFvy166 13).trans ((hFvy34 13 (by decide)).trans ((hFvy31 13 (by decide)).trans ((hFvy28 13 (by decide)).trans (fn rfl (by decide)))))
              have hq14vy166 : Fvy166 14 = F 14 := (hFvy166 14).trans ((hFvy34 14 (by decide)).trans ((hFvy31 14 (by decide)).trans ((hFvy28 14 (by decide)).trans (fn rfl (by decide)))))
              have hq15vy166 : Fvy166 15 = F 15 := (hFvy166 15).trans ((hFvy34 15 (by decide)).trans ((hFvy31 15 (by decide)).trans ((hFvy28 15 (by decide)).trans (fn rfl (by decide)))))
              have hq17vy166 : Fvy166 17 = F 17 := (hFvy166 17).trans ((hFvy34 17 (by decide)).trans ((hFvy31 17 (by decide)).trans ((hFvy28 17 (by decide)).trans (fn rfl (by decide)))))
              have hq23vy166 : Fvy166 23 = F 23 := (hFvy166 23).trans ((hFvy34 23 (by decide)).trans ((hFvy31 23 (by decide)).trans ((hFvy28 23 (by decide)).trans (fn rfl (by decide)))))
              obtain ⟨hg_y168, ⟨⟨e13_y168, e14_y168, e25_y168, e27_y168, e29_y168⟩, k15_y168, k16_y168, k17_y168, k18_y168, k19_y168, k20_y168, k23_y168⟩, hRD_y168, hTx_y168, hA_y168, st_y168, op_y168, ai_y168, fa_y168, mu_y168, tb_y168, ns_y168, nh_y168, nd_y168, rf_y168, pi_y168, tp_y168, te_y168, ki_y168, li_y168, ok1_y168, ok2_y168, fo_y168, dd_y168, dps_y168, ⟨ha1_y168, ha2_y168, ha3_y168, ha4_y168, ha5_y168, ha6_y168, ha7_y168, ha8_y168, ha9_y168, ha10_y168, ha11_y168, ha12_y168, ha13_y168, ha14_y168, ha15_y168, ha24_y168, ha25_y168, ha26_y168, ha27_y168, ha28_y168, ha29_y168⟩, hEv_y168, hPt_y168, hns_y168, htp_y168⟩ := id hMvy166
              obtain ⟨-, hop_y168, hai_y168, hfa_y168, hT_y168, hT1_y168⟩ := id hEv_y168
              have e14 := e14_y168
              have e25 := e25_y168
              have e27 := e27_y168
              have e29 := e29_y168
              have hop := hop_y168
              have hai := hai_y168
              have hfa := hfa_y168
              have hT := hT_y168
              have hT1 := hT1_y168
              have hEv := hEv_y168
              have htp := htp_y168
              have hns := hns_y168
              have hPt := hPt_y168
              obtain ⟨⟨hsyy169, htyy169, hnyy169, hpyy169⟩, hlyy169⟩ := okA.at0 hA_y168
              simp only [Nat.zero_add] at hsyy169 hnyy169 hpyy169
              have hmn : ∀ s, s < 4 → 0 ≤ rvy166 (6 + 86 * s) ∧ rvy166 (6 + 86 * s) ≤ 12 := fun s hs => (hsyy169 s hs).1
              have h5 : 0 ≤ rvy166 5 ∧ rvy166 5 ≤ 6 := hpyy169
              refine z_iconst (z := -1) C dX10_compare_58 rfl ?_
              refine z_icmp_eq (tgt := 79) C dX10_compare_59 (by decide) (by omega) (by omega) (fun hby170 => ?_) (fun hby170 => ?_)
              · refine z_iconst (z := 0) C dX10_compare_79 rfl ?_
                have hMy171 : okMr cs ad gvy166 i (x + 1) Fvy166 rvy166 := okMr.upd hMvy166 hg_y168 hMvy166.2.1 (fun f _ => rfl) ha1_y168 (hA_y168.mono (by omega)) (fun j a b => by
                    exact Or.inl (by rfl))
                have h23 : Fvy166 23 = F 23 := hq23vy166
                exact z_iret C hr hlk dX10_compare_80 (by decide) (by decide) ⟨0, rfl, rfl, rfl, by omega, ⟨_, _, hMy171, by omega⟩, fun j j1 => by rw [hfvy166 _ (by omega)]; rw [hfvy34 _ (by omega)]; rw [hfvy31 _ (by omega)]; rw [hfvy28 _ (by omega)]; rw [egy25, va_up_ne _ _ (by omega)]⟩
              · refine z_aload_n C 0 dX10_compare_62 rfl ?_
                refine z_iload_n C 1 dX10_compare_63 rfl ?_
                have hMy172 : okMr cs ad gvy166 i (x) Fvy166 rvy166 := okMr.upd hMvy166 hg_y168 hMvy166.2.1 (fun f _ => rfl) ha1_y168 (hA_y168.mono (by omega)) (fun j a b => by
                    exact Or.inl (by rfl))
                refine z_cV (As := [.int (zI ((n0 : Int)))]) (rest := []) (ci := 12) C (c_X10_weakestName l D A cs tt N ad _ i hN x hx _ _ hMy172 n0 (by omega)) (by omega) hay1 hg_y168 rfl rfl mv_yX10_weakestName q_2047 hd_yX10_weakestName (by decide) (Nat.le_of_ble_eq_true rfl) (by decide) dX10_compare_64 rfl (kI0 fun vy173 gvy173 hvy173 => ?_)
                obtain ⟨hrvy173, ⟨Fvy173, rvy173, hMvy173, hFvy173⟩, hfvy173⟩ := hvy173
                have hBvy173 : (∀ f, Fvy173 f = Fvy166 f) := fun f  => (hFvy173 f )
                have hCvy173 : (∀ f, f ≠ 12 → Fvy173 f = F f) := fun f n12 => (hBvy173 f ).trans (hCvy166 f n12)
                have hq13vy173 : Fvy173 13 = F 13 := (hFvy173 13).trans hq13vy166
                have hq14vy173 : Fvy173 14 = F 14 := (hFvy173 14).trans hq14vy166
                have hq15vy173 : Fvy173 15 = F 15 := (hFvy173 15).trans hq15vy166
                have hq17vy173 : Fvy173 17 = F 17 := (hFvy173 17).trans hq17vy166
                have hq23vy173 : Fvy173 23 = F 23 := (hFvy173 23).trans hq23vy166
                obtain ⟨hg_y174, ⟨⟨e13_y174, e14_y174, e25_y174, e27_y174, e29_y174⟩, k15_y174, k16_y174, k17_y174, k18_y174, k19_y174, k20_y174, k23_y174⟩, hRD_y174, hTx_y174, hA_y174, st_y174, op_y174, ai_y174, fa_y174, mu_y174, tb_y174, ns_y174, nh_y174, nd_y174, rf_y174, pi_y174, tp_y174, te_y174, ki_y174, li_y174, ok1_y174, ok2_y174, fo_y174, dd_y174, dps_y174, ⟨ha1_y174, ha2_y174, ha3_y174, ha4_y174, ha5_y174, ha6_y174, ha7_y174, ha8_y174, ha9_y174, ha10_y174, ha11_y174, ha12_y174, ha13_y174, ha14_y174, ha15_y174, ha24_y174, ha25_y174, ha26_y174, ha27_y174, ha28_y174, ha29_y174⟩, hEv_y174, hPt_y174, hns_y174, htp_y174⟩ := id hMvy173
                obtain ⟨-, hop_y174, hai_y174, hfa_y174, hT_y174, hT1_y174⟩ := id hEv_y174
                have e14 := e14_y174
                have e25 := e25_y174
                have e27 := e27_y174
                have e29 := e29_y174
                have hop := hop_y174
                have hai := hai_y174
                have hfa := hfa_y174
                have hT := hT_y174
                have hT1 := hT1_y174
                have hEv := hEv_y174
                have htp := htp_y174
                have hns := hns_y174
                have hPt := hPt_y174
                obtain ⟨⟨hsyy175, htyy175, hnyy175, hpyy175⟩, hlyy175⟩ := okA.at0 hA_y174
                simp only [Nat.zero_add] at hsyy175 hnyy175 hpyy175
                have hmn : ∀ s, s < 4 → 0 ≤ rvy173 (6 + 86 * s) ∧ rvy173 (6 + 86 * s) ≤ 12 := fun s hs => (hsyy175 s hs).1
                have h5 : 0 ≤ rvy173 5 ∧ rvy173 5 ≤ 6 := hpyy175
                refine z_aload_n C 0 dX10_compare_67 rfl ?_
                refine z_iload_n C 2 dX10_compare_68 rfl ?_
                have hMy176 : okMr cs ad gvy173 i (x) Fvy173 rvy173 := okMr.upd hMvy173 hg_y174 hMvy173.2.1 (fun f _ => rfl) ha1_y174 (hA_y174.mono (by omega)) (fun j a b => by
                    exact Or.inl (by rfl))
                refine z_cV (As := [.int (zI ((n1 : Int)))]) (rest := [.int (zI (vy173))]) (ci := 12) C (c_X10_weakestName l D A cs tt N ad _ i hN x hx _ _ hMy176 n1 (by omega)) (by omega) hay1 hg_y174 rfl rfl mv_yX10_weakestName q_2047 hd_yX10_weakestName (by decide) (Nat.le_of_ble_eq_true rfl) (by decide) dX10_compare_69 rfl (kI0 fun vy177 gvy177 hvy177 => ?_)
                obtain ⟨hrvy177, ⟨Fvy177, rvy177, hMvy177, hFvy177⟩, hfvy177⟩ := hvy177
                have hBvy177 : (∀ f, Fvy177 f = Fvy173 f) := fun f  => (hFvy177 f )
                have hCvy177 : (∀ f, f ≠ 12 → Fvy177 f = F f) := fun f n12 => (hBvy177 f ).trans (hCvy173 f n12)
                have hq13vy177 : Fvy177 13 = F 13 := (hFvy177 13).trans hq13vy173
                have hq14vy177 : Fvy177 14 = F 14 := (hFvy177 14).trans hq14vy173
                have hq15vy177 : Fvy177 15 = F 15 := (hFvy177 15).trans hq15vy173
                have hq17vy177 : Fvy177 17 = F 17 := (hFvy177 17).trans hq17vy173
                have hq23vy177 : Fvy177 23 = F 23 := (hFvy177 23).trans hq23vy173
                obtain ⟨hg_y178, ⟨⟨e13_y178, e14_y178, e25_y178, e27_y178, e29_y178⟩, k15_y178, k16_y178, k17_y178, k18_y178, k19_y178, k20_y178, k23_y178⟩, hRD_y178, hTx_y178, hA_y178, st_y178, op_y178, ai_y178, fa_y178, mu_y178, tb_y178, ns_y178, nh_y178, nd_y178, rf_y178, pi_y178, tp_y178, te_y178, ki_y178, li_y178, ok1_y178, ok2_y178, fo_y178, dd_y178, dps_y178, ⟨ha1_y178, ha2_y178, ha3_y178, ha4_y178, ha5_y178, ha6_y178, ha7_y178, ha8_y178, ha9_y178, ha10_y178, ha11_y178, ha12_y178, ha13_y178, ha14_y178, ha15_y178, ha24_y178, ha25_y178, ha26_y178, ha27_y178, ha28_y178, ha29_y178⟩, hEv_y178, hPt_y178, hns_y178, htp_y178⟩ := id hMvy177
                obtain ⟨-, hop_y178, hai_y178, hfa_y178, hT_y178, hT1_y178⟩ := id hEv_y178
                have e14 := e14_y178
                have e25 := e25_y178
                have e27 := e27_y178
                have e29 := e29_y178
                have hop := hop_y178
                have hai := hai_y178
                have hfa := hfa_y178
                have hT := hT_y178
                have hT1 := hT1_y178
                have hEv := hEv_y178
                have htp := htp_y178
                have hns := hns_y178
                have hPt := hPt_y178
                obtain ⟨⟨hsyy179, htyy179, hnyy179, hpyy179⟩, hlyy179⟩ := okA.at0 hA_y178
                simp only [Nat.zero_add] at hsyy179 hnyy179 hpyy179
                have hmn : ∀ s, s < 4 → 0 ≤ rvy177 (6 + 86 * s) ∧ rvy177 (6 + 86 * s) ≤ 12 := fun s hs => (hsyy179 s hs).1
                have h5 : 0 ≤ rvy177 5 ∧ rvy177 5 ≤ 6 := hpyy179
                refine z_icmp_ne (tgt := 79) C dX10_compare_72 (by decide) (by omega) (by omega) (fun hby180 => ?_) (fun hby180 => ?_)
                · refine z_iconst (z := 0) C dX10_compare_79 rfl ?_
                  have hMy181 : okMr cs ad gvy177 i (x + 1) Fvy177 rvy177 := okMr.upd hMvy177 hg_y178 hMvy177.2.1 (fun f _ => rfl) ha1_y178 (hA_y178.mono (by omega)) (fun j a b => by
                      exact Or.inl (by rfl))
                  have h23 : Fvy177 23 = F 23 := hq23vy177
                  exact z_iret C hr hlk dX10_compare_80 (by decide) (by decide) ⟨0, rfl, rfl, rfl, by omega, ⟨_, _, hMy181, by omega⟩, fun j j1 => by rw [hfvy177 _ (by omega)]; rw [hfvy173 _ (by omega)]; rw [hfvy166 _ (by omega)]; rw [hfvy34 _ (by omega)]; rw [hfvy31 _ (by omega)]; rw [hfvy28 _ (by omega)]; rw [egy25, va_up_ne _ _ (by omega)]⟩
                · refine z_iconst (z := 1) C dX10_compare_75 rfl ?_
                  refine z_goto (tgt := 80) C dX10_compare_76 (by decide) ?_
                  have hMy182 : okMr cs ad gvy177 i (x + 1) Fvy177 rvy177 := okMr.upd hMvy177 hg_y178 hMvy177.2.1 (fun f _ => rfl) ha1_y178 (hA_y178.mono (by omega)) (fun j a b => by
                      exact Or.inl (by rfl))
                  have h23 : Fvy177 23 = F 23 := hq23vy177
                  exact z_iret C hr hlk dX10_compare_80 (by decide) (by decide) ⟨1, rfl, rfl, rfl, by omega, ⟨_, _, hMy182, by omega⟩, fun j j1 => by rw [hfvy177 _ (by omega)]; rw [hfvy173 _ (by omega)]; rw [hfvy166 _ (by omega)]; rw [hfvy34 _ (by omega)]; rw [hfvy31 _ (by omega)]; rw [hfvy28 _ (by omega)]; rw [egy25, va_up_ne _ _ (by omega)]⟩
          · refine z_aload_n C 0 dX10_compare_41 rfl ?_
            refine z_iload_n C 1 dX10_compare_42 rfl ?_
            refine z_iload_n C 2 dX10_compare_43 rfl ?_
            have hgy183 := up_n egy25 ha12 (ne_o (i := i) (c := 12) (d := 0) rfl)
            have hgy184 := (hfvy28 (i + 12) (ne_o (i := i) (c := 12) (d := 0) rfl)).trans hgy183
            have hgy185 := (hfvy31 (i + 12) (ne_o (i := i) (c := 12) (d := 0) rfl)).trans hgy184
            have hgy186 := (hfvy34 (i + 12) (ne_o (i := i) (c := 12) (d := 0) rfl)).trans hgy185
            refine z_cV (As := [.int (zI ((n0 : Int))), .int (zI ((n1 : Int)))]) (rest := []) (ci := 12) C (c_X10_namesInBoth l D A cs tt N ad _ i hN _ hcvy34 _ hgy186 hPt n0 n1 (by omega) (by omega)) (by omega) hay1 hcvy34 rfl rfl mv_yX10_namesInBoth q_2039 hd_yX10_namesInBoth (by decide) (Nat.le_of_ble_eq_true rfl) (by decide) dX10_compare_44 rfl (kI0 fun vy187 gvy187 hvy187 => ?_)
            obtain ⟨hvy187, rfl⟩ := hvy187
            have hgy188 := (hfvy31 (i + 1) (ne_o (i := i) (c := 1) (d := 0) rfl)).trans hgy30
            have hgy189 := (hfvy34 (i + 1) (ne_o (i := i) (c := 1) (d := 0) rfl)).trans hgy188
            have hFy190 : ∀ f, f ≠ 12 → Fvy34 f = F f := fun f n12 => ((hFvy34 f n12).trans ((hFvy31 f n12).trans ((hFvy28 f n12).trans ((uZ_n _ _ n12).trans rfl))))
            have hey191 : Fvy34 13 = F 13 := ((hFvy34 13 (by decide)).trans ((hFvy31 13 (by decide)).trans ((hFvy28 13 (by decide)).trans (fn rfl (by decide)))))
            have hey192 : Fvy34 14 = F 14 := ((hFvy34 14 (by decide)).trans ((hFvy31 14 (by decide)).trans ((hFvy28 14 (by decide)).trans (fn rfl (by decide)))))
            have hey193 : Fvy34 15 = F 15 := ((hFvy34 15 (by decide)).trans ((hFvy31 15 (by decide)).trans ((hFvy28 15 (by decide)).trans (fn rfl (by decide)))))
            have hey194 : Fvy34 16 = F 16 := ((hFvy34 16 (by decide)).trans ((hFvy31 16 (by decide)).trans ((hFvy28 16 (by decide)).trans (fn rfl (by decide)))))
            have hey195 : Fvy34 17 = F 17 := ((hFvy34 17 (by decide)).trans ((hFvy31 17 (by decide)).trans ((hFvy28 17 (by decide)).trans (fn rfl (by decide)))))
            have hey196 : Fvy34 18 = F 18 := ((hFvy34 18 (by decide)).trans ((hFvy31 18 (by decide)).trans ((hFvy28 18 (by decide)).trans (fn rfl (by decide)))))
            have hey197 : Fvy34 19 = F 19 := ((hFvy34 19 (by decide)).trans ((hFvy31 19 (by decide)).trans ((hFvy28 19 (by decide)).trans (fn rfl (by decide)))))
            have hey198 : Fvy34 20 = F 20 := ((hFvy34 20 (by decide)).trans ((hFvy31 20 (by decide)).trans ((hFvy28 20 (by decide)).trans (fn rfl (by decide)))))
            have hey199 : Fvy34 23 = F 23 := ((hFvy34 23 (by decide)).trans ((hFvy31 23 (by decide)).trans ((hFvy28 23 (by decide)).trans (fn rfl (by decide)))))
            have hey200 : Fvy34 25 = F 25 := ((hFvy34 25 (by decide)).trans ((hFvy31 25 (by decide)).trans ((hFvy28 25 (by decide)).trans (fn rfl (by decide)))))
            have hey201 : Fvy34 27 = F 27 := ((hFvy34 27 (by decide)).trans ((hFvy31 27 (by decide)).trans ((hFvy28 27 (by decide)).trans (fn rfl (by decide)))))
            have hey202 : Fvy34 28 = F 28 := ((hFvy34 28 (by decide)).trans ((hFvy31 28 (by decide)).trans ((hFvy28 28 (by decide)).trans (fn rfl (by decide)))))
            have hey203 : Fvy34 29 = F 29 := ((hFvy34 29 (by decide)).trans ((hFvy31 29 (by decide)).trans ((hFvy28 29 (by decide)).trans (fn rfl (by decide)))))
            have hKy204 : okF Fvy34 := by unfold okF; omega
            have hMy205 : okMr cs ad gvy34 i (x + 1) Fvy34 r := okMr.upd hM hcvy34 hKy204 (fun f a => hFy190 f (by omega)) hgy189 (hA.mono (by omega)) (fun j a b => by
                exact Or.inl (by rw [hfvy34 _ (by omega)]; rw [hfvy31 _ (by omega)]; rw [hfvy28 _ (by omega)]; rw [egy25, va_up_ne _ _ (by omega)]))
            have h23 : Fvy34 23 = F 23 := ((hFvy34 23 (by decide)).trans ((hFvy31 23 (by decide)).trans ((hFvy28 23 (by decide)).trans (fn rfl (by decide)))))
            exact z_iret C hr hlk dX10_compare_47 (by decide) (by decide) ⟨vy187, rfl, rfl, rfl, by omega, ⟨_, _, hMy205, by omega⟩, fun j j1 => by rw [hfvy34 _ (by omega)]; rw [hfvy31 _ (by omega)]; rw [hfvy28 _ (by omega)]; rw [egy25, va_up_ne _ _ (by omega)]⟩
        · refine z_if_ne (tgt := 37) C dX10_compare_32 (by decide) (by omega) (fun h => absurd h (by omega)) (fun _ => ?_)
          refine z_iconst (z := 0) C dX10_compare_35 rfl ?_
          have hgy206 := (hfvy31 (i + 1) (ne_o (i := i) (c := 1) (d := 0) rfl)).trans hgy30
          have hgy207 := (hfvy34 (i + 1) (ne_o (i := i) (c := 1) (d := 0) rfl)).trans hgy206
          have hFy208 : ∀ f, f ≠ 12 → Fvy34 f = F f := fun f n12 => ((hFvy34 f n12).trans ((hFvy31 f n12).trans ((hFvy28 f n12).trans ((uZ_n _ _ n12).trans rfl))))
          have hey209 : Fvy34 13 = F 13 := ((hFvy34 13 (by decide)).trans ((hFvy31 13 (by decide)).trans ((hFvy28 13 (by decide)).trans (fn rfl (by decide)))))
          have hey210 : Fvy34 14 = F 14 := ((hFvy34 14 (by decide)).trans ((hFvy31 14 (by decide)).trans ((hFvy28 14 (by decide)).trans (fn rfl (by decide)))))
          have hey211 : Fvy34 15 = F 15 := ((hFvy34 15 (by decide)).trans ((hFvy31 15 (by decide)).trans ((hFvy28 15 (by decide)).trans (fn rfl (by decide)))))
          have hey212 : Fvy34 16 = F 16 := ((hFvy34 16 (by decide)).trans ((hFvy31 16 (by decide)).trans ((hFvy28 16 (by decide)).trans (fn rfl (by decide)))))
          have hey213 : Fvy34 17 = F 17 := ((hFvy34 17 (by decide)).trans ((hFvy31 17 (by decide)).trans ((hFvy28 17 (by decide)).trans (fn rfl (by decide)))))
          have hey214 : Fvy34 18 = F 18 := ((hFvy34 18 (by decide)).trans ((hFvy31 18 (by decide)).trans ((hFvy28 18 (by decide)).trans (fn rfl (by decide)))))
          have hey215 : Fvy34 19 = F 19 := ((hFvy34 19 (by decide)).trans ((hFvy31 19 (by decide)).trans ((hFvy28 19 (by decide)).trans (fn rfl (by decide)))))
          have hey216 : Fvy34 20 = F 20 := ((hFvy34 20 (by decide)).trans ((hFvy31 20 (by decide)).trans ((hFvy28 20 (by decide)).trans (fn rfl (by decide)))))
          have hey217 : Fvy34 23 = F 23 := ((hFvy34 23 (by decide)).trans ((hFvy31 23 (by decide)).trans ((hFvy28 23 (by decide)).trans (fn rfl (by decide)))))
          have hey218 : Fvy34 25 = F 25 := ((hFvy34 25 (by decide)).trans ((hFvy31 25 (by decide)).trans ((hFvy28 25 (by decide)).trans (fn rfl (by decide)))))
          have hey219 : Fvy34 27 = F 27 := ((hFvy34 27 (by decide)).trans ((hFvy31 27 (by decide)).trans ((hFvy28 27 (by decide)).trans (fn rfl (by decide)))))
          have hey220 : Fvy34 28 = F 28 := ((hFvy34 28 (by decide)).trans ((hFvy31 28 (by decide)).trans ((hFvy28 28 (by decide)).trans (fn rfl (by decide)))))
          have hey221 : Fvy34 29 = F 29 := ((hFvy34 29 (by decide)).trans ((hFvy31 29 (by decide)).trans ((hFvy28 29 (by decide)).trans (fn rfl (by decide)))))
          have hKy222 : okF Fvy34 := by unfold okF; omega
          have hMy223 : okMr cs ad gvy34 i (x + 1) Fvy34 r := okMr.upd hM hcvy34 hKy222 (fun f a => hFy208 f (by omega)) hgy207 (hA.mono (by omega)) (fun j a b => by
              exact Or.inl (by rw [hfvy34 _ (by omega)]; rw [hfvy31 _ (by omega)]; rw [hfvy28 _ (by omega)]; rw [egy25, va_up_ne _ _ (by omega)]))
          have h23 : Fvy34 23 = F 23 := ((hFvy34 23 (by decide)).trans ((hFvy31 23 (by decide)).trans ((hFvy28 23 (by decide)).trans (fn rfl (by decide)))))
          exact z_iret C hr hlk dX10_compare_36 (by decide) (by decide) ⟨0, rfl, rfl, rfl, by omega, ⟨_, _, hMy223, by omega⟩, fun j j1 => by rw [hfvy34 _ (by omega)]; rw [hfvy31 _ (by omega)]; rw [hfvy28 _ (by omega)]; rw [egy25, va_up_ne _ _ (by omega)]⟩
      · refine z_iconst (z := 1) C dX10_compare_28 rfl ?_
        have hey225 : Fvy31 12 = Fvy31 12 := rfl
        refine z_cV (As := [.int (zI (0)), .int (zI (1))]) (rest := []) (ci := 12) C (c_X10_right l D A cs tt N ad _ i hN _ hcvy31 (by omega) (0) (by omega) (1) (by omega)) (by omega) hay1 hcvy31 rfl rfl mv_yX10_right q_1648 hd_yX10_right (by decide) (Nat.le_of_ble_eq_true rfl) (by decide) dX10_compare_29 rfl (kI0 fun vy224 gvy224 hvy224 => ?_)
        obtain ⟨hrvy224, ⟨Fvy224, hcvy224, htvy224, hFvy224⟩, hfvy224⟩ := hvy224
        obtain rfl : vy224 = 0 := by omega
        refine z_if_ne (tgt := 37) C dX10_compare_32 (by decide) (by omega) (fun h => absurd h (by omega)) (fun _ => ?_)
        refine z_iconst (z := 0) C dX10_compare_35 rfl ?_
        have hgy226 := (hfvy31 (i + 1) (ne_o (i := i) (c := 1) (d := 0) rfl)).trans hgy30
        have hgy227 := (hfvy224 (i + 1) (ne_o (i := i) (c := 1) (d := 0) rfl)).trans hgy226
        have hFy228 : ∀ f, f ≠ 12 → Fvy224 f = F f := fun f n12 => ((hFvy224 f n12).trans ((hFvy31 f n12).trans ((hFvy28 f n12).trans ((uZ_n _ _ n12).trans rfl))))
        have hey229 : Fvy224 13 = F 13 := ((hFvy224 13 (by decide)).trans ((hFvy31 13 (by decide)).trans ((hFvy28 13 (by decide)).trans (fn rfl (by decide)))))
        have hey230 : Fvy224 14 = F 14 := ((hFvy224 14 (by decide)).trans ((hFvy31 14 (by decide)).trans ((hFvy28 14 (by decide)).trans (fn rfl (by decide)))))
        have hey231 : Fvy224 15 = F 15 := ((hFvy224 15 (by decide)).trans ((hFvy31 15 (by decide)).trans ((hFvy28 15 (by decide)).trans (fn rfl (by decide)))))
        have hey232 : Fvy224 16 = F 16 := ((hFvy224 16 (by decide)).trans ((hFvy31 16 (by decide)).trans ((hFvy28 16 (by decide)).trans (fn rfl (by decide)))))
        have hey233 : Fvy224 17 = F 17 := ((hFvy224 17 (by decide)).trans ((hFvy31 17 (by decide)).trans ((hFvy28 17 (by decide)).trans (fn rfl (by decide)))))
        have hey234 : Fvy224 18 = F 18 := ((hFvy224 18 (by decide)).trans ((hFvy31 18 (by decide)).trans ((hFvy28 18 (by decide)).trans (fn rfl (by decide)))))
        have hey235 : Fvy224 19 = F 19 := ((hFvy224 19 (by decide)).trans ((hFvy31 19 (by decide)).trans ((hFvy28 19 (by decide)).trans (fn rfl (by decide)))))
        have hey236 : Fvy224 20 = F 20 := ((hFvy224 20 (by decide)).trans ((hFvy31 20 (by decide)).trans ((hFvy28 20 (by decide)).trans (fn rfl (by decide)))))
        have hey237 : Fvy224 23 = F 23 := ((hFvy224 23 (by decide)).trans ((hFvy31 23 (by decide)).trans ((hFvy28 23 (by decide)).trans (fn rfl (by decide)))))
        have hey238 : Fvy224 25 = F 25 := ((hFvy224 25 (by decide)).trans ((hFvy31 25 (by decide)).trans ((hFvy28 25 (by decide)).trans (fn rfl (by decide)))))
        have hey239 : Fvy224 27 = F 27 := ((hFvy224 27 (by decide)).trans ((hFvy31 27 (by decide)).trans ((hFvy28 27 (by decide)).trans (fn rfl (by decide)))))
        have hey240 : Fvy224 28 = F 28 := ((hFvy224 28 (by decide)).trans ((hFvy31 28 (by decide)).trans ((hFvy28 28 (by decide)).trans (fn rfl (by decide)))))
        have hey241 : Fvy224 29 = F 29 := ((hFvy224 29 (by decide)).trans ((hFvy31 29 (by decide)).trans ((hFvy28 29 (by decide)).trans (fn rfl (by decide)))))
        have hKy242 : okF Fvy224 := by unfold okF; omega
        have hMy243 : okMr cs ad gvy224 i (x + 1) Fvy224 r := okMr.upd hM hcvy224 hKy242 (fun f a => hFy228 f (by omega)) hgy227 (hA.mono (by omega)) (fun j a b => by
            exact Or.inl (by rw [hfvy224 _ (by omega)]; rw [hfvy31 _ (by omega)]; rw [hfvy28 _ (by omega)]; rw [egy25, va_up_ne _ _ (by omega)]))
        have h23 : Fvy224 23 = F 23 := ((hFvy224 23 (by decide)).trans ((hFvy31 23 (by decide)).trans ((hFvy28 23 (by decide)).trans (fn rfl (by decide)))))
        exact z_iret C hr hlk dX10_compare_36 (by decide) (by decide) ⟨0, rfl, rfl, rfl, by omega, ⟨_, _, hMy243, by omega⟩, fun j j1 => by rw [hfvy224 _ (by omega)]; rw [hfvy31 _ (by omega)]; rw [hfvy28 _ (by omega)]; rw [egy25, va_up_ne _ _ (by omega)]⟩
    · refine z_if_eq (tgt := 35) C dX10_compare_18 (by decide) (by omega) (fun _ => ?_) (fun h => absurd h (by omega))
      refine z_iconst (z := 0) C dX10_compare_35 rfl ?_
      have hgy244 := (hfvy31 (i + 1) (ne_o (i := i) (c := 1) (d := 0) rfl)).trans hgy30
      have hFy245 : ∀ f, f ≠ 12 → Fvy31 f = F f := fun f n12 => ((hFvy31 f n12).trans ((hFvy28 f n12).trans ((uZ_n _ _ n12).trans rfl)))
      have hey246 : Fvy31 13 = F 13 := ((hFvy31 13 (by decide)).trans ((hFvy28 13 (by decide)).trans (fn rfl (by decide))))
      have hey247 : Fvy31 14 = F 14 := ((hFvy31 14 (by decide)).trans ((hFvy28 14 (by decide)).trans (fn rfl (by decide))))
      have hey248 : Fvy31 15 = F 15 := ((hFvy31 15 (by decide)).trans ((hFvy28 15 (by decide)).trans (fn rfl (by decide))))
      have hey249 : Fvy31 16 = F 16 := ((hFvy31 16 (by decide)).trans ((hFvy28 16 (by decide)).trans (fn rfl (by decide))))
      have hey250 : Fvy31 17 = F 17 := ((hFvy31 17 (by decide)).trans ((hFvy28 17 (by decide)).trans (fn rfl (by decide))))
      have hey251 : Fvy31 18 = F 18 := ((hFvy31 18 (by decide)).trans ((hFvy28 18 (by decide)).trans (fn rfl (by decide))))
      have hey252 : Fvy31 19 = F 19 := ((hFvy31 19 (by decide)).trans ((hFvy28 19 (by decide)).trans (fn rfl (by decide))))
      have hey253 : Fvy31 20 = F 20 := ((hFvy31 20 (by decide)).trans ((hFvy28 20 (by decide)).trans (fn rfl (by decide))))
      have hey254 : Fvy31 23 = F 23 := ((hFvy31 23 (by decide)).trans ((hFvy28 23 (by decide)).trans (fn rfl (by decide))))
      have hey255 : Fvy31 25 = F 25 := ((hFvy31 25 (by decide)).trans ((hFvy28 25 (by decide)).trans (fn rfl (by decide))))
      have hey256 : Fvy31 27 = F 27 := ((hFvy31 27 (by decide)).trans ((hFvy28 27 (by decide)).trans (fn rfl (by decide))))
      have hey257 : Fvy31 28 = F 28 := ((hFvy31 28 (by decide)).trans ((hFvy28 28 (by decide)).trans (fn rfl (by decide))))
      have hey258 : Fvy31 29 = F 29 := ((hFvy31 29 (by decide)).trans ((hFvy28 29 (by decide)).trans (fn rfl (by decide))))
      have hKy259 : okF Fvy31 := by unfold okF; omega
      have hMy260 : okMr cs ad gvy31 i (x + 1) Fvy31 r := okMr.upd hM hcvy31 hKy259 (fun f a => hFy245 f (by omega)) hgy244 (hA.mono (by omega)) (fun j a b => by
          exact Or.inl (by rw [hfvy31 _ (by omega)]; rw [hfvy28 _ (by omega)]; rw [egy25, va_up_ne _ _ (by omega)]))
      have h23 : Fvy31 23 = F 23 := ((hFvy31 23 (by decide)).trans ((hFvy28 23 (by decide)).trans (fn rfl (by decide))))
      exact z_iret C hr hlk dX10_compare_36 (by decide) (by decide) ⟨0, rfl, rfl, rfl, by omega, ⟨_, _, hMy260, by omega⟩, fun j j1 => by rw [hfvy31 _ (by omega)]; rw [hfvy28 _ (by omega)]; rw [egy25, va_up_ne _ _ (by omega)]⟩
  · refine z_if_eq (tgt := 35) C dX10_compare_10 (by decide) (by omega) (fun _ => ?_) (fun h => absurd h (by omega))
    refine z_iconst (z := 0) C dX10_compare_35 rfl ?_
    have hgy261 := (hfvy28 (i + 1) (ne_o (i := i) (c := 1) (d := 0) rfl)).trans hgy27
    have hFy262 : ∀ f, f ≠ 12 → Fvy28 f = F f := fun f n12 => ((hFvy28 f n12).trans ((uZ_n _ _ n12).trans rfl))
    have hey263 : Fvy28 13 = F 13 := ((hFvy28 13 (by decide)).trans (fn rfl (by decide)))
    have hey264 : Fvy28 14 = F 14 := ((hFvy28 14 (by decide)).trans (fn rfl (by decide)))
    have hey265 : Fvy28 15 = F 15 := ((hFvy28 15 (by decide)).trans (fn rfl (by decide)))
    have hey266 : Fvy28 16 = F 16 := ((hFvy28 16 (by decide)).trans (fn rfl (by decide)))
    have hey267 : Fvy28 17 = F 17 := ((hFvy28 17 (by decide)).trans (fn rfl (by decide)))
    have hey268 : Fvy28 18 = F 18 := ((hFvy28 18 (by decide)).trans (fn rfl (by decide)))
    have hey269 : Fvy28 19 = F 19 := ((hFvy28 19 (by decide)).trans (fn rfl (by decide)))
    have hey270 : Fvy28 20 = F 20 := ((hFvy28 20 (by decide)).trans (fn rfl (by decide)))
    have hey271 : Fvy28 23 = F 23 := ((hFvy28 23 (by decide)).trans (fn rfl (by decide)))
    have hey272 : Fvy28 25 = F 25 := ((hFvy28 25 (by decide)).trans (fn rfl (by decide)))
    have hey273 : Fvy28 27 = F 27 := ((hFvy28 27 (by decide)).trans (fn rfl (by decide)))
    have hey274 : Fvy28 28 = F 28 := ((hFvy28 28 (by decide)).trans (fn rfl (by decide)))
    have hey275 : Fvy28 29 = F 29 := ((hFvy28 29 (by decide)).trans (fn rfl (by decide)))
    have hKy276 : okF Fvy28 := by unfold okF; omega
    have hMy277 : okMr cs ad gvy28 i (x + 1) Fvy28 r := okMr.upd hM hcvy28 hKy276 (fun f a => hFy262 f (by omega)) hgy261 (hA.mono (by omega)) (fun j a b => by
        exact Or.inl (by rw [hfvy28 _ (by omega)]; rw [egy25, va_up_ne _ _ (by omega)]))
    have h23 : Fvy28 23 = F 23 := ((hFvy28 23 (by decide)).trans (fn rfl (by decide)))
    exact z_iret C hr hlk dX10_compare_36 (by decide) (by decide) ⟨0, rfl, rfl, rfl, by omega, ⟨_, _, hMy277, by omega⟩, fun j j1 => by rw [hfvy28 _ (by omega)]; rw [egy25, va_up_ne _ _ (by omega)]⟩

set_option maxRecDepth 100000 in
set_option maxHeartbeats 4000000 in
theorem c_X10_compare_ab (l : Launch) (D : va_G) (A : Nat → Prop) (cs : Nat → ClassId) (tt : Nat) (N : Nat) (ad : Nat → Nat) (g : Nat → va_E) (i : Nat) (hN : i + 30 ≤ N) (x : Int) (hx : 0 ≤ x ∧ x ≤ 512) (F r : Nat → Int) (hM : okMr cs ad g i x F r) (n0 : Nat) (hn0 : n0 < 6) (z1 : Int) (hz1 : -2147483648 ≤ z1 ∧ z1 ≤ 2147483647) (ho1 : z1 < 0 ∨ 5 < z1) (z2 : Int) (hz2 : -2147483648 ≤ z2 ∧ z2 ≤ 2147483647) : zM l yX10_compare cX10_compare 4 (some .int) ({ frames := 10, cells := 0, slots := 0, locals := 600 } : Room) D A cs tt N ad g [.ref (ad i), .int (zI ((n0 : Int))), .int (zI (z1)), .int (zI (z2))] (rI0 N ad fun q g' => (-2147483648 ≤ q ∧ q ≤ 2147483647) ∧ (∃ F' r' : Nat → Int, okMr cs ad g' i (x + 1) F' r' ∧ F' 23 = F 23) ∧ ∀ j, j < i ∨ i + 30 ≤ j → g' j = g j) := by
  obtain ⟨hg, ⟨⟨e13, e14, e25, e27, e29⟩, k15, k16, k17, k18, k19, k20, k23⟩, hRD, hTx, hA, st, op, ai, fa, mu, tb, ns, nh, nd, rf, pi, tp, te, ki, li, ok1, ok2, fo, dd, dps, ⟨ha1, ha2, ha3, ha4, ha5, ha6, ha7, ha8, ha9, ha10, ha11, ha12, ha13, ha14, ha15, ha24, ha25, ha26, ha27, ha28, ha29⟩, hEv, hPt, hns, htp⟩ := id hM
  obtain ⟨-, hop, hai, hfa, hT, hT1⟩ := id hEv
  have hay1 : zAt ad (i) (ad i) := rfl
  have hay2 : zAt ad (i + 1) (ad (i + 1)) := rfl
  have hay3 : zAt ad (i + 2) (ad (i + 2)) := rfl
  have hay4 : zAt ad (i + 3) (ad (i + 3)) := rfl
  have hay5 : zAt ad (i + 4) (ad (i + 4)) := rfl
  have hay6 : zAt ad (i + 5) (ad (i + 5)) := rfl
  have hay7 : zAt ad (i + 6) (ad (i + 6)) := rfl
  have hay8 : zAt ad (i + 7) (ad (i + 7)) := rfl
  have hay9 : zAt ad (i + 8) (ad (i + 8)) := rfl
  have hay10 : zAt ad (i + 9) (ad (i + 9)) := rfl
  have hay11 : zAt ad (i + 10) (ad (i + 10)) := rfl
  have hay12 : zAt ad (i + 11) (ad (i + 11)) := rfl
  have hay13 : zAt ad (i + 12) (ad (i + 12)) := rfl
  have hay14 : zAt ad (i + 13) (ad (i + 13)) := rfl
  have hay15 : zAt ad (i + 14) (ad (i + 14)) := rfl
  have hay16 : zAt ad (i + 15) (ad (i + 15)) := rfl
  have hay17 : zAt ad (i + 24) (ad (i + 24)) := rfl
  have hay18 : zAt ad (i + 25) (ad (i + 25)) := rfl
  have hay19 : zAt ad (i + 26) (ad (i + 26)) := rfl
  have hay20 : zAt ad (i + 27) (ad (i + 27)) := rfl
  have hay21 : zAt ad (i + 28) (ad (i + 28)) := rfl
  have hay22 : zAt ad (i + 29) (ad (i + 29)) := rfl
  obtain ⟨⟨hsyy23, htyy23, hnyy23, hpyy23⟩, hlyy23⟩ := okA.at0 hA
  simp only [Nat.zero_add] at hsyy23 hnyy23 hpyy23
  have hmn : ∀ s, s < 4 → 0 ≤ r (6 + 86 * s) ∧ r (6 + 86 * s) ≤ 12 := fun s hs => (hsyy23 s hs).1
  have h5 : 0 ≤ r 5 ∧ r 5 ≤ 6 := hpyy23
  refine z_of (by decide) (Nat.le_of_ble_eq_true rfl) ?_
  intro pZ eZ sZ mZ below meth cZ C hr hlk hnm
  refine z_lv (lv' := [(0, .ref (ad i)), (1, .int (zI ((n0 : Int)))), (2, .int (zI (z1))), (3, .int (zI (z2)))]) [0, 1, 2, 3] rfl ?_
  refine z_aload_n C 0 dX10_compare_0 rfl ?_
  refine z_iconst (z := 0) C dX10_compare_1 rfl ?_
  refine z_put (fs' := mF ad (i) (uZ F 12 (0))) C (by omega) hay1 hg tyX10 tyX10_ok nmX10 rfl inA_X10 12 (by decide) q_1471 rfl rfl rfl rfl (Nat.le_of_ble_eq_true rfl) rfl dX10_compare_2 (fun gy24 egy25 => ?_)
  have hgy26 := up_s egy25
  refine z_aload_n C 0 dX10_compare_5 rfl ?_
  refine z_iload_n C 1 dX10_compare_6 rfl ?_
  have hgy27 := up_n egy25 ha1 (ne_o (i := i) (c := 1) (d := 0) rfl)
  have hey29 : (uZ F 12 (0)) 12 = 0 := (uZ_s _ _ _)
  refine z_cV (As := [.int (zI ((n0 : Int)))]) (rest := []) (ci := 12) C (c_X10_isPit l D A cs tt N ad _ i hN _ hgy26 _ hgy27 (by omega) h5 ((n0 : Int)) (by omega)) (by omega) hay1 hgy26 rfl rfl mv_yX10_isPit q_2027 hd_yX10_isPit (by decide) (Nat.le_of_ble_eq_true rfl) (by decide) dX10_compare_7 rfl (kI0 fun vy28 gvy28 hvy28 => ?_)
  obtain ⟨hrvy28, ⟨Fvy28, hcvy28, htvy28, hFvy28⟩, hfvy28⟩ := hvy28
  rcases (show vy28 = 1 ∨ vy28 = 0 by omega) with rfl | rfl
  · have hxvy28 := hrvy28.2 rfl
    refine z_if_eq (tgt := 35) C dX10_compare_10 (by decide) (by omega) (fun h => absurd h (by omega)) (fun _ => ?_)
    refine z_aload_n C 0 dX10_compare_13 rfl ?_
    refine z_iload_n C 2 dX10_compare_14 rfl ?_
    have hgy30 := (hfvy28 (i + 1) (ne_o (i := i) (c := 1) (d := 0) rfl)).trans hgy27
    have hey32 : Fvy28 12 = Fvy28 12 := rfl
    refine z_cV (As := [.int (zI (z1))]) (rest := []) (ci := 12) C (c_X10_isPit l D A cs tt N ad _ i hN _ hcvy28 _ hgy30 (by omega) h5 (z1) (by omega)) (by omega) hay1 hcvy28 rfl rfl mv_yX10_isPit q_2027 hd_yX10_isPit (by decide) (Nat.le_of_ble_eq_true rfl) (by decide) dX10_compare_15 rfl (kI0 fun vy31 gvy31 hvy31 => ?_)
    obtain ⟨hrvy31, ⟨Fvy31, hcvy31, htvy31, hFvy31⟩, hfvy31⟩ := hvy31
    obtain rfl : vy31 = 0 := by omega
    refine z_if_eq (tgt := 35) C dX10_compare_18 (by decide) (by omega) (fun _ => ?_) (fun h => absurd h (by omega))
    refine z_iconst (z := 0) C dX10_compare_35 rfl ?_
    have hgy33 := (hfvy31 (i + 1) (ne_o (i := i) (c := 1) (d := 0) rfl)).trans hgy30
    have hFy34 : ∀ f, f ≠ 12 → Fvy31 f = F f := fun f n12 => ((hFvy31 f n12).trans ((hFvy28 f n12).trans ((uZ_n _ _ n12).trans rfl)))
    have hey35 : Fvy31 13 = F 13 := ((hFvy31 13 (by decide)).trans ((hFvy28 13 (by decide)).trans (fn rfl (by decide))))
    have hey36 : Fvy31 14 = F 14 := ((hFvy31 14 (by decide)).trans ((hFvy28 14 (by decide)).trans (fn rfl (by decide))))
    have hey37 : Fvy31 15 = F 15 := ((hFvy31 15 (by decide)).trans ((hFvy28 15 (by decide)).trans (fn rfl (by decide))))
    have hey38 : Fvy31 16 = F 16 := ((hFvy31 16 (by decide)).trans ((hFvy28 16 (by decide)).trans (fn rfl (by decide))))
    have hey39 : Fvy31 17 = F 17 := ((hFvy31 17 (by decide)).trans ((hFvy28 17 (by decide)).trans (fn rfl (by decide))))
    have hey40 : Fvy31 18 = F 18 := ((hFvy31 18 (by decide)).trans ((hFvy28 18 (by decide)).trans (fn rfl (by decide))))
    have hey41 : Fvy31 19 = F 19 := ((hFvy31 19 (by decide)).trans ((hFvy28 19 (by decide)).trans (fn rfl (by decide))))
    have hey42 : Fvy31 20 = F 20 := ((hFvy31 20 (by decide)).trans ((hFvy28 20 (by decide)).trans (fn rfl (by decide))))
    have hey43 : Fvy31 23 = F 23 := ((hFvy31 23 (by decide)).trans ((hFvy28 23 (by decide)).trans (fn rfl (by decide))))
    have hey44 : Fvy31 25 = F 25 := ((hFvy31 25 (by decide)).trans ((hFvy28 25 (by decide)).trans (fn rfl (by decide))))
    have hey45 : Fvy31 27 = F 27 := ((hFvy31 27 (by decide)).trans ((hFvy28 27 (by decide)).trans (fn rfl (by decide))))
    have hey46 : Fvy31 28 = F 28 := ((hFvy31 28 (by decide)).trans ((hFvy28 28 (by decide)).trans (fn rfl (by decide))))
    have hey47 : Fvy31 29 = F 29 := ((hFvy31 29 (by decide)).trans ((hFvy28 29 (by decide)).trans (fn rfl (by decide))))
    have hKy48 : okF Fvy31 := by unfold okF; omega
    have hMy49 : okMr cs ad gvy31 i (x + 1) Fvy31 r := okMr.upd hM hcvy31 hKy48 (fun f a => hFy34 f (by omega)) hgy33 (hA.mono (by omega)) (fun j a b => by
        exact Or.inl (by rw [hfvy31 _ (by omega)]; rw [hfvy28 _ (by omega)]; rw [egy25, va_up_ne _ _ (by omega)]))
    have h23 : Fvy31 23 = F 23 := ((hFvy31 23 (by decide)).trans ((hFvy28 23 (by decide)).trans (fn rfl (by decide))))
    exact z_iret C hr hlk dX10_compare_36 (by decide) (by decide) ⟨0, rfl, rfl, rfl, by omega, ⟨_, _, hMy49, by omega⟩, fun j j1 => by rw [hfvy31 _ (by omega)]; rw [hfvy28 _ (by omega)]; rw [egy25, va_up_ne _ _ (by omega)]⟩
  · refine z_if_eq (tgt := 35) C dX10_compare_10 (by decide) (by omega) (fun _ => ?_) (fun h => absurd h (by omega))
    refine z_iconst (z := 0) C dX10_compare_35 rfl ?_
    have hgy50 := (hfvy28 (i + 1) (ne_o (i := i) (c := 1) (d := 0) rfl)).trans hgy27
    have hFy51 : ∀ f, f ≠ 12 → Fvy28 f = F f := fun f n12 => ((hFvy28 f n12).trans ((uZ_n _ _ n12).trans rfl))
    have hey52 : Fvy28 13 = F 13 := ((hFvy28 13 (by decide)).trans (fn rfl (by decide)))
    have hey53 : Fvy28 14 = F 14 := ((hFvy28 14 (by decide)).trans (fn rfl (by decide)))
    have hey54 : Fvy28 15 = F 15 := ((hFvy28 15 (by decide)).trans (fn rfl (by decide)))
    have hey55 : Fvy28 16 = F 16 := ((hFvy28 16 (by decide)).trans (fn rfl (by decide)))
    have hey56 : Fvy28 17 = F 17 := ((hFvy28 17 (by decide)).trans (fn rfl (by decide)))
    have hey57 : Fvy28 18 = F 18 := ((hFvy28 18 (by decide)).trans (fn rfl (by decide)))
    have hey58 : Fvy28 19 = F 19 := ((hFvy28 19 (by decide)).trans (fn rfl (by decide)))
    have hey59 : Fvy28 20 = F 20 := ((hFvy28 20 (by decide)).trans (fn rfl (by decide)))
    have hey60 : Fvy28 23 = F 23 := ((hFvy28 23 (by decide)).trans (fn rfl (by decide)))
    have hey61 : Fvy28 25 = F 25 := ((hFvy28 25 (by decide)).trans (fn rfl (by decide)))
    have hey62 : Fvy28 27 = F 27 := ((hFvy28 27 (by decide)).trans (fn rfl (by decide)))
    have hey63 : Fvy28 28 = F 28 := ((hFvy28 28 (by decide)).trans (fn rfl (by decide)))
    have hey64 : Fvy28 29 = F 29 := ((hFvy28 29 (by decide)).trans (fn rfl (by decide)))
    have hKy65 : okF Fvy28 := by unfold okF; omega
    have hMy66 : okMr cs ad gvy28 i (x + 1) Fvy28 r := okMr.upd hM hcvy28 hKy65 (fun f a => hFy51 f (by omega)) hgy50 (hA.mono (by omega)) (fun j a b => by
        exact Or.inl (by rw [hfvy28 _ (by omega)]; rw [egy25, va_up_ne _ _ (by omega)]))
    have h23 : Fvy28 23 = F 23 := ((hFvy28 23 (by decide)).trans (fn rfl (by decide)))
    exact z_iret C hr hlk dX10_compare_36 (by decide) (by decide) ⟨0, rfl, rfl, rfl, by omega, ⟨_, _, hMy66, by omega⟩, fun j j1 => by rw [hfvy28 _ (by omega)]; rw [egy25, va_up_ne _ _ (by omega)]⟩

set_option maxRecDepth 100000 in
set_option maxHeartbeats 4000000 in
theorem c_X10_compare_ba (l : Launch) (D : va_G) (A : Nat → Prop) (cs : Nat → ClassId) (tt : Nat) (N : Nat) (ad : Nat → Nat) (g : Nat → va_E) (i : Nat) (hN : i + 30 ≤ N) (x : Int) (hx : 0 ≤ x ∧ x ≤ 512) (F r : Nat → Int) (hM : okMr cs ad g i x F r) (z : Int) (hz : -2147483648 ≤ z ∧ z ≤ 2147483647) (ho0 : z < 0 ∨ 5 < z) (n1 : Nat) (hn1 : n1 < 6) (z2 : Int) (hz2 : -2147483648 ≤ z2 ∧ z2 ≤ 2147483647) : zM l yX10_compare cX10_compare 4 (some .int) ({ frames := 10, cells := 0, slots := 0, locals := 600 } : Room) D A cs tt N ad g [.ref (ad i), .int (zI (z)), .int (zI ((n1 : Int))), .int (zI (z2))] (rI0 N ad fun q g' => (-2147483648 ≤ q ∧ q ≤ 2147483647) ∧ (∃ F' r' : Nat → Int, okMr cs ad g' i (x + 1) F' r' ∧ F' 23 = F 23) ∧ ∀ j, j < i ∨ i + 30 ≤ j → g' j = g j) := by
  obtain ⟨hg, ⟨⟨e13, e14, e25, e27, e29⟩, k15, k16, k17, k18, k19, k20, k23⟩, hRD, hTx, hA, st, op, ai, fa, mu, tb, ns, nh, nd, rf, pi, tp, te, ki, li, ok1, ok2, fo, dd, dps, ⟨ha1, ha2, ha3, ha4, ha5, ha6, ha7, ha8, ha9, ha10, ha11, ha12, ha13, ha14, ha15, ha24, ha25, ha26, ha27, ha28, ha29⟩, hEv, hPt, hns, htp⟩ := id hM
  obtain ⟨-, hop, hai, hfa, hT, hT1⟩ := id hEv
  have hay1 : zAt ad (i) (ad i) := rfl
  have hay2 : zAt ad (i + 1) (ad (i + 1)) := rfl
  have hay3 : zAt ad (i + 2) (ad (i + 2)) := rfl
  have hay4 : zAt ad (i + 3) (ad (i + 3)) := rfl
  have hay5 : zAt ad (i + 4) (ad (i + 4)) := rfl
  have hay6 : zAt ad (i + 5) (ad (i + 5)) := rfl
  have hay7 : zAt ad (i + 6) (ad (i + 6)) := rfl
  have hay8 : zAt ad (i + 7) (ad (i + 7)) := rfl
  have hay9 : zAt ad (i + 8) (ad (i + 8)) := rfl
  have hay10 : zAt ad (i + 9) (ad (i + 9)) := rfl
  have hay11 : zAt ad (i + 10) (ad (i + 10)) := rfl
  have hay12 : zAt ad (i + 11) (ad (i + 11)) := rfl
  have hay13 : zAt ad (i + 12) (ad (i + 12)) := rfl
  have hay14 : zAt ad (i + 13) (ad (i + 13)) := rfl
  have hay15 : zAt ad (i + 14) (ad (i + 14)) := rfl
  have hay16 : zAt ad (i + 15) (ad (i + 15)) := rfl
  have hay17 : zAt ad (i + 24) (ad (i + 24)) := rfl
  have hay18 : zAt ad (i + 25) (ad (i + 25)) := rfl
  have hay19 : zAt ad (i + 26) (ad (i + 26)) := rfl
  have hay20 : zAt ad (i + 27) (ad (i + 27)) := rfl
  have hay21 : zAt ad (i + 28) (ad (i + 28)) := rfl
  have hay22 : zAt ad (i + 29) (ad (i + 29)) := rfl
  obtain ⟨⟨hsyy23, htyy23, hnyy23, hpyy23⟩, hlyy23⟩ := okA.at0 hA
  simp only [Nat.zero_add] at hsyy23 hnyy23 hpyy23
  have hmn : ∀ s, s < 4 → 0 ≤ r (6 + 86 * s) ∧ r (6 + 86 * s) ≤ 12 := fun s hs => (hsyy23 s hs).1
  have h5 : 0 ≤ r 5 ∧ r 5 ≤ 6 := hpyy23
  refine z_of (by decide) (Nat.le_of_ble_eq_true rfl) ?_
  intro pZ eZ sZ mZ below meth cZ C hr hlk hnm
  refine z_lv (lv' := [(0, .ref (ad i)), (1, .int (zI (z))), (2, .int (zI ((n1 : Int)))), (3, .int (zI (z2)))]) [0, 1, 2, 3] rfl ?_
  refine z_aload_n C 0 dX10_compare_0 rfl ?_
  refine z_iconst (z := 0) C dX10_compare_1 rfl ?_
  refine z_put (fs' := mF ad (i) (uZ F 12 (0))) C (by omega) hay1 hg tyX10 tyX10_ok nmX10 rfl inA_X10 12 (by decide) q_1471 rfl rfl rfl rfl (Nat.le_of_ble_eq_true rfl) rfl dX10_compare_2 (fun gy24 egy25 => ?_)
  have hgy26 := up_s egy25
  refine z_aload_n C 0 dX10_compare_5 rfl ?_
  refine z_iload_n C 1 dX10_compare_6 rfl ?_
  have hgy27 := up_n egy25 ha1 (ne_o (i := i) (c := 1) (d := 0) rfl)
  have hey29 : (uZ F 12 (0)) 12 = 0 := (uZ_s _ _ _)
  refine z_cV (As := [.int (zI (z))]) (rest := []) (ci := 12) C (c_X10_isPit l D A cs tt N ad _ i hN _ hgy26 _ hgy27 (by omega) h5 (z) (by omega)) (by omega) hay1 hgy26 rfl rfl mv_yX10_isPit q_2027 hd_yX10_isPit (by decide) (Nat.le_of_ble_eq_true rfl) (by decide) dX10_compare_7 rfl (kI0 fun vy28 gvy28 hvy28 => ?_)
  obtain ⟨hrvy28, ⟨Fvy28, hcvy28, htvy28, hFvy28⟩, hfvy28⟩ := hvy28
  obtain rfl : vy28 = 0 := by omega
  refine z_if_eq (tgt := 35) C dX10_compare_10 (by decide) (by omega) (fun _ => ?_) (fun h => absurd h (by omega))
  refine z_iconst (z := 0) C dX10_compare_35 rfl ?_
  have hgy30 := (hfvy28 (i + 1) (ne_o (i := i) (c := 1) (d := 0) rfl)).trans hgy27
  have hFy31 : ∀ f, f ≠ 12 → Fvy28 f = F f := fun f n12 => ((hFvy28 f n12).trans ((uZ_n _ _ n12).trans rfl))
  have hey32 : Fvy28 13 = F 13 := ((hFvy28 13 (by decide)).trans (fn rfl (by decide)))
  have hey33 : Fvy28 14 = F 14 := ((hFvy28 14 (by decide)).trans (fn rfl (by decide)))
  have hey34 : Fvy28 15 = F 15 := ((hFvy28 15 (by decide)).trans (fn rfl (by decide)))
  have hey35 : Fvy28 16 = F 16 := ((hFvy28 16 (by decide)).trans (fn rfl (by decide)))
  have hey36 : Fvy28 17 = F 17 := ((hFvy28 17 (by decide)).trans (fn rfl (by decide)))
  have hey37 : Fvy28 18 = F 18 := ((hFvy28 18 (by decide)).trans (fn rfl (by decide)))
  have hey38 : Fvy28 19 = F 19 := ((hFvy28 19 (by decide)).trans (fn rfl (by decide)))
  have hey39 : Fvy28 20 = F 20 := ((hFvy28 20 (by decide)).trans (fn rfl (by decide)))
  have hey40 : Fvy28 23 = F 23 := ((hFvy28 23 (by decide)).trans (fn rfl (by decide)))
  have hey41 : Fvy28 25 = F 25 := ((hFvy28 25 (by decide)).trans (fn rfl (by decide)))
  have hey42 : Fvy28 27 = F 27 := ((hFvy28 27 (by decide)).trans (fn rfl (by decide)))
  have hey43 : Fvy28 28 = F 28 := ((hFvy28 28 (by decide)).trans (fn rfl (by decide)))
  have hey44 : Fvy28 29 = F 29 := ((hFvy28 29 (by decide)).trans (fn rfl (by decide)))
  have hKy45 : okF Fvy28 := by unfold okF; omega
  have hMy46 : okMr cs ad gvy28 i (x + 1) Fvy28 r := okMr.upd hM hcvy28 hKy45 (fun f a => hFy31 f (by omega)) hgy30 (hA.mono (by omega)) (fun j a b => by
      exact Or.inl (by rw [hfvy28 _ (by omega)]; rw [egy25, va_up_ne _ _ (by omega)]))
  have h23 : Fvy28 23 = F 23 := ((hFvy28 23 (by decide)).trans (fn rfl (by decide)))
  exact z_iret C hr hlk dX10_compare_36 (by decide) (by decide) ⟨0, rfl, rfl, rfl, by omega, ⟨_, _, hMy46, by omega⟩, fun j j1 => by rw [hfvy28 _ (by omega)]; rw [egy25, va_up_ne _ _ (by omega)]⟩

set_option maxRecDepth 100000 in
set_option maxHeartbeats 4000000 in
theorem c_X10_compare_bb (l : Launch) (D : va_G) (A : Nat → Prop) (cs : Nat → ClassId) (tt : Nat) (N : Nat) (ad : Nat → Nat) (g : Nat → va_E) (i : Nat) (hN : i + 30 ≤ N) (x : Int) (hx : 0 ≤ x ∧ x ≤ 512) (F r : Nat → Int) (hM : okMr cs ad g i x F r) (z : Int) (hz : -2147483648 ≤ z ∧ z ≤ 2147483647) (ho0 : z < 0 ∨ 5 < z) (z1 : Int) (hz1 : -2147483648 ≤ z1 ∧ z1 ≤ 2147483647) (ho1 : z1 < 0 ∨ 5 < z1) (z2 : Int) (hz2 : -2147483648 ≤ z2 ∧ z2 ≤ 2147483647) : zM l yX10_compare cX10_compare 4 (some .int) ({ frames := 10, cells := 0, slots := 0, locals := 600 } : Room) D A cs tt N ad g [.ref (ad i), .int (zI (z)), .int (zI (z1)), .int (zI (z2))] (rI0 N ad fun q g' => (-2147483648 ≤ q ∧ q ≤ 2147483647) ∧ (∃ F' r' : Nat → Int, okMr cs ad g' i (x + 1) F' r' ∧ F' 23 = F 23) ∧ ∀ j, j < i ∨ i + 30 ≤ j → g' j = g j) := by
  obtain ⟨hg, ⟨⟨e13, e14, e25, e27, e29⟩, k15, k16, k17, k18, k19, k20, k23⟩, hRD, hTx, hA, st, op, ai, fa, mu, tb, ns, nh, nd, rf, pi, tp, te, ki, li, ok1, ok2, fo, dd, dps, ⟨ha1, ha2, ha3, ha4, ha5, ha6, ha7, ha8, ha9, ha10, ha11, ha12, ha13, ha14, ha15, ha24, ha25, ha26, ha27, ha28, ha29⟩, hEv, hPt, hns, htp⟩ := id hM
  obtain ⟨-, hop, hai, hfa, hT, hT1⟩ := id hEv
  have hay1 : zAt ad (i) (ad i) := rfl
  have hay2 : zAt ad (i + 1) (ad (i + 1)) := rfl
  have hay3 : zAt ad (i + 2) (ad (i + 2)) := rfl
  have hay4 : zAt ad (i + 3) (ad (i + 3)) := rfl
  have hay5 : zAt ad (i + 4) (ad (i + 4)) := rfl
  have hay6 : zAt ad (i + 5) (ad (i + 5)) := rfl
  have hay7 : zAt ad (i + 6) (ad (i + 6)) := rfl
  have hay8 : zAt ad (i + 7) (ad (i + 7)) := rfl
  have hay9 : zAt ad (i + 8) (ad (i + 8)) := rfl
  have hay10 : zAt ad (i + 9) (ad (i + 9)) := rfl
  have hay11 : zAt ad (i + 10) (ad (i + 10)) := rfl
  have hay12 : zAt ad (i + 11) (ad (i + 11)) := rfl
  have hay13 : zAt ad (i + 12) (ad (i + 12)) := rfl
  have hay14 : zAt ad (i + 13) (ad (i + 13)) := rfl
  have hay15 : zAt ad (i + 14) (ad (i + 14)) := rfl
  have hay16 : zAt ad (i + 15) (ad (i + 15)) := rfl
  have hay17 : zAt ad (i + 24) (ad (i + 24)) := rfl
  have hay18 : zAt ad (i + 25) (ad (i + 25)) := rfl
  have hay19 : zAt ad (i + 26) (ad (i + 26)) := rfl
  have hay20 : zAt ad (i + 27) (ad (i + 27)) := rfl
  have hay21 : zAt ad (i + 28) (ad (i + 28)) := rfl
  have hay22 : zAt ad (i + 29) (ad (i + 29)) := rfl
  obtain ⟨⟨hsyy23, htyy23, hnyy23, hpyy23⟩, hlyy23⟩ := okA.at0 hA
  simp only [Nat.zero_add] at hsyy23 hnyy23 hpyy23
  have hmn : ∀ s, s < 4 → 0 ≤ r (6 + 86 * s) ∧ r (6 + 86 * s) ≤ 12 := fun s hs => (hsyy23 s hs).1
  have h5 : 0 ≤ r 5 ∧ r 5 ≤ 6 := hpyy23
  refine z_of (by decide) (Nat.le_of_ble_eq_true rfl) ?_
  intro pZ eZ sZ mZ below meth cZ C hr hlk hnm
  refine z_lv (lv' := [(0, .ref (ad i)), (1, .int (zI (z))), (2, .int (zI (z1))), (3, .int (zI (z2)))]) [0, 1, 2, 3] rfl ?_
  refine z_aload_n C 0 dX10_compare_0 rfl ?_
  refine z_iconst (z := 0) C dX10_compare_1 rfl ?_
  refine z_put (fs' := mF ad (i) (uZ F 12 (0))) C (by omega) hay1 hg tyX10 tyX10_ok nmX10 rfl inA_X10 12 (by decide) q_1471 rfl rfl rfl rfl (Nat.le_of_ble_eq_true rfl) rfl dX10_compare_2 (fun gy24 egy25 => ?_)
  have hgy26 := up_s egy25
  refine z_aload_n C 0 dX10_compare_5 rfl ?_
  refine z_iload_n C 1 dX10_compare_6 rfl ?_
  have hgy27 := up_n egy25 ha1 (ne_o (i := i) (c := 1) (d := 0) rfl)
  have hey29 : (uZ F 12 (0)) 12 = 0 := (uZ_s _ _ _)
  refine z_cV (As := [.int (zI (z))]) (rest := []) (ci := 12) C (c_X10_isPit l D A cs tt N ad _ i hN _ hgy26 _ hgy27 (by omega) h5 (z) (by omega)) (by omega) hay1 hgy26 rfl rfl mv_yX10_isPit q_2027 hd_yX10_isPit (by decide) (Nat.le_of_ble_eq_true rfl) (by decide) dX10_compare_7 rfl (kI0 fun vy28 gvy28 hvy28 => ?_)
  obtain ⟨hrvy28, ⟨Fvy28, hcvy28, htvy28, hFvy28⟩, hfvy28⟩ := hvy28
  obtain rfl : vy28 = 0 := by omega
  refine z_if_eq (tgt := 35) C dX10_compare_10 (by decide) (by omega) (fun _ => ?_) (fun h => absurd h (by omega))
  refine z_iconst (z := 0) C dX10_compare_35 rfl ?_
  have hgy30 := (hfvy28 (i + 1) (ne_o (i := i) (c := 1) (d := 0) rfl)).trans hgy27
  have hFy31 : ∀ f, f ≠ 12 → Fvy28 f = F f := fun f n12 => ((hFvy28 f n12).trans ((uZ_n _ _ n12).trans rfl))
  have hey32 : Fvy28 13 = F 13 := ((hFvy28 13 (by decide)).trans (fn rfl (by decide)))
  have hey33 : Fvy28 14 = F 14 := ((hFvy28 14 (by decide)).trans (fn rfl (by decide)))
  have hey34 : Fvy28 15 = F 15 := ((hFvy28 15 (by decide)).trans (fn rfl (by decide)))
  have hey35 : Fvy28 16 = F 16 := ((hFvy28 16 (by decide)).trans (fn rfl (by decide)))
  have hey36 : Fvy28 17 = F 17 := ((hFvy28 17 (by decide)).trans (fn rfl (by decide)))
  have hey37 : Fvy28 18 = F 18 := ((hFvy28 18 (by decide)).trans (fn rfl (by decide)))
  have hey38 : Fvy28 19 = F 19 := ((hFvy28 19 (by decide)).trans (fn rfl (by decide)))
  have hey39 : Fvy28 20 = F 20 := ((hFvy28 20 (by decide)).trans (fn rfl (by decide)))
  have hey40 : Fvy28 23 = F 23 := ((hFvy28 23 (by decide)).trans (fn rfl (by decide)))
  have hey41 : Fvy28 25 = F 25 := ((hFvy28 25 (by decide)).trans (fn rfl (by decide)))
  have hey42 : Fvy28 27 = F 27 := ((hFvy28 27 (by decide)).trans (fn rfl (by decide)))
  have hey43 : Fvy28 28 = F 28 := ((hFvy28 28 (by decide)).trans (fn rfl (by decide)))
  have hey44 : Fvy28 29 = F 29 := ((hFvy28 29 (by decide)).trans (fn rfl (by decide)))
  have hKy45 : okF Fvy28 := by unfold okF; omega
  have hMy46 : okMr cs ad gvy28 i (x + 1) Fvy28 r := okMr.upd hM hcvy28 hKy45 (fun f a => hFy31 f (by omega)) hgy30 (hA.mono (by omega)) (fun j a b => by
      exact Or.inl (by rw [hfvy28 _ (by omega)]; rw [egy25, va_up_ne _ _ (by omega)]))
  have h23 : Fvy28 23 = F 23 := ((hFvy28 23 (by decide)).trans (fn rfl (by decide)))
  exact z_iret C hr hlk dX10_compare_36 (by decide) (by decide) ⟨0, rfl, rfl, rfl, by omega, ⟨_, _, hMy46, by omega⟩, fun j j1 => by rw [hfvy28 _ (by omega)]; rw [egy25, va_up_ne _ _ (by omega)]⟩

set_option maxRecDepth 100000 in
set_option maxHeartbeats 4000000 in
theorem c_X10_compare (l : Launch) (D : va_G) (A : Nat → Prop) (cs : Nat → ClassId) (tt : Nat) (N : Nat) (ad : Nat → Nat) (g : Nat → va_E) (i : Nat) (hN : i + 30 ≤ N) (x : Int) (hx : 0 ≤ x ∧ x ≤ 512) (F r : Nat → Int) (hM : okMr cs ad g i x F r) (z : Int) (hz : -2147483648 ≤ z ∧ z ≤ 2147483647) (z1 : Int) (hz1 : -2147483648 ≤ z1 ∧ z1 ≤ 2147483647) (z2 : Int) (hz2 : -2147483648 ≤ z2 ∧ z2 ≤ 2147483647) : zM l yX10_compare cX10_compare 4 (some .int) ({ frames := 10, cells := 0, slots := 0, locals := 600 } : Room) D A cs tt N ad g [.ref (ad i), .int (zI (z)), .int (zI (z1)), .int (zI (z2))] (rI0 N ad fun q g' => (-2147483648 ≤ q ∧ q ≤ 2147483647) ∧ (∃ F' r' : Nat → Int, okMr cs ad g' i (x + 1) F' r' ∧ F' 23 = F 23) ∧ ∀ j, j < i ∨ i + 30 ≤ j → g' j = g j) := by
  by_cases hk0 : 0 ≤ z ∧ z ≤ 5
  · obtain ⟨n0, rfl⟩ : ∃ n : Nat, z = (n : Int) := ⟨z.toNat, by omega⟩
    by_cases hk1 : 0 ≤ z1 ∧ z1 ≤ 5
    · obtain ⟨n1, rfl⟩ : ∃ n : Nat, z1 = (n : Int) := ⟨z1.toNat, by omega⟩
      exact c_X10_compare_aa l D A cs tt N ad g i hN x hx F r hM n0 (by omega) n1 (by omega) z2 hz2
    · exact c_X10_compare_ab l D A cs tt N ad g i hN x hx F r hM n0 (by omega) z1 hz1 (by omega) z2 hz2
  · by_cases hk1 : 0 ≤ z1 ∧ z1 ≤ 5
    · obtain ⟨n1, rfl⟩ : ∃ n : Nat, z1 = (n : Int) := ⟨z1.toNat, by omega⟩
      exact c_X10_compare_ba l D A cs tt N ad g i hN x hx F r hM z hz (by omega) n1 (by omega) z2 hz2
    · exact c_X10_compare_bb l D A cs tt N ad g i hN x hx F r hM z hz (by omega) z1 hz1 (by omega) z2 hz2

set_option maxRecDepth 100000 in
set_option maxHeartbeats 4000000 in
theorem c_X10_nearest_a (l : Launch) (D : va_G) (A : Nat → Prop) (cs : Nat → ClassId) (tt : Nat) (N : Nat) (ad : Nat → Nat) (g : Nat → va_E) (i : Nat) (hN : i + 30 ≤ N) (x : Int) (hx : 0 ≤ x ∧ x ≤ 512) (F r : Nat → Int) (hM : okMr cs ad g i x F r) (n0 : Nat) (hn0 : n0 < 6) : zM l yX10_nearest cX10_nearest 6 (some .int) ({ frames := 3, cells := 0, slots := 0, locals := 180 } : Room) D A cs tt N ad g [.ref (ad i), .int (zI ((n0 : Int)))] (rI0 N ad fun q g' => (-2147483648 ≤ q ∧ q ≤ 2147483647) ∧ (∃ F' r' : Nat → Int, okMr cs ad g' i (x + 1) F' r' ∧ F' 23 = F 23) ∧ ∀ j, j < i ∨ i + 30 ≤ j → g' j = g j) := by
  obtain ⟨hg, ⟨⟨e13, e14, e25, e27, e29⟩, k15, k16, k17, k18, k19, k20, k23⟩, hRD, hTx, hA, st, op, ai, fa, mu, tb, ns, nh, nd, rf, pi, tp, te, ki, li, ok1, ok2, fo, dd, dps, ⟨ha1, ha2, ha3, ha4, ha5, ha6, ha7, ha8, ha9, ha10, ha11, ha12, ha13, ha14, ha15, ha24, ha25, ha26, ha27, ha28, ha29⟩, hEv, hPt, hns, htp⟩ := id hM
  obtain ⟨-, hop, hai, hfa, hT, hT1⟩ := id hEv
  have hay1 : zAt ad (i) (ad i) := rfl
  have hay2 : zAt ad (i + 1) (ad (i + 1)) := rfl
  have hay3 : zAt ad (i + 2) (ad (i + 2)) := rfl
  have hay4 : zAt ad (i + 3) (ad (i + 3)) := rfl
  have hay5 : zAt ad (i + 4) (ad (i + 4)) := rfl
  have hay6 : zAt ad (i + 5) (ad (i + 5)) := rfl
  have hay7 : zAt ad (i + 6) (ad (i + 6)) := rfl
  have hay8 : zAt ad (i + 7) (ad (i + 7)) := rfl
  have hay9 : zAt ad (i + 8) (ad (i + 8)) := rfl
  have hay10 : zAt ad (i + 9) (ad (i + 9)) := rfl
  have hay11 : zAt ad (i + 10) (ad (i + 10)) := rfl
  have hay12 : zAt ad (i + 11) (ad (i + 11)) := rfl
  have hay13 : zAt ad (i + 12) (ad (i + 12)) := rfl
  have hay14 : zAt ad (i + 13) (ad (i + 13)) := rfl
  have hay15 : zAt ad (i + 14) (ad (i + 14)) := rfl
  have hay16 : zAt ad (i + 15) (ad (i + 15)) := rfl
  have hay17 : zAt ad (i + 24) (ad (i + 24)) := rfl
  have hay18 : zAt ad (i + 25) (ad (i + 25)) := rfl
  have hay19 : zAt ad (i + 26) (ad (i + 26)) := rfl
  have hay20 : zAt ad (i + 27) (ad (i + 27)) := rfl
  have hay21 : zAt ad (i + 28) (ad (i + 28)) := rfl
  have hay22 : zAt ad (i + 29) (ad (i + 29)) := rfl
  obtain ⟨⟨hsyy23, htyy23, hnyy23, hpyy23⟩, hlyy23⟩ := okA.at0 hA
  simp only [Nat.zero_add] at hsyy23 hnyy23 hpyy23
  have hmn : ∀ s, s < 4 → 0 ≤ r (6 + 86 * s) ∧ r (6 + 86 * s) ≤ 12 := fun s hs => (hsyy23 s hs).1
  have h5 : 0 ≤ r 5 ∧ r 5 ≤ 6 := hpyy23
  refine z_of (by decide) (Nat.le_of_ble_eq_true rfl) ?_
  intro pZ eZ sZ mZ below meth cZ C hr hlk hnm
  refine z_lv (lv' := [(0, .ref (ad i)), (1, .int (zI ((n0 : Int))))]) [0, 1] rfl ?_
  refine z_aload_n C 0 dX10_nearest_0 rfl ?_
  refine z_iconst (z := 0) C dX10_nearest_1 rfl ?_
  refine z_put (fs' := mF ad (i) (uZ F 12 (0))) C (by omega) hay1 hg tyX10 tyX10_ok nmX10 rfl inA_X10 12 (by decide) q_1471 rfl rfl rfl rfl (Nat.le_of_ble_eq_true rfl) rfl dX10_nearest_2 (fun gy24 egy25 => ?_)
  have hgy26 := up_s egy25
  refine z_aload_n C 0 dX10_nearest_5 rfl ?_
  refine z_iload_n C 1 dX10_nearest_6 rfl ?_
  have hgy27 := up_n egy25 ha1 (ne_o (i := i) (c := 1) (d := 0) rfl)
  have hey29 : (uZ F 12 (0)) 12 = 0 := (uZ_s _ _ _)
  refine z_cV (As := [.int (zI ((n0 : Int)))]) (rest := []) (ci := 12) C (c_X10_isPit l D A cs tt N ad _ i hN _ hgy26 _ hgy27 (by omega) h5 ((n0 : Int)) (by omega)) (by omega) hay1 hgy26 rfl rfl mv_yX10_isPit q_2027 hd_yX10_isPit (by decide) (Nat.le_of_ble_eq_true rfl) (by decide) dX10_nearest_7 rfl (kI0 fun vy28 gvy28 hvy28 => ?_)
  obtain ⟨hrvy28, ⟨Fvy28, hcvy28, htvy28, hFvy28⟩, hfvy28⟩ := hvy28
  rcases (show vy28 = 1 ∨ vy28 = 0 by omega) with rfl | rfl
  · have hxvy28 := hrvy28.2 rfl
    refine z_if_ne (tgt := 15) C dX10_nearest_10 (by decide) (by omega) (fun _ => ?_) (fun h => absurd h (by omega))
    refine z_iconst (z := -1) C dX10_nearest_15 rfl ?_
    refine z_istore_n (lv' := [(2, .int (zI (-1))), (0, .ref (ad i)), (1, .int (zI ((n0 : Int))))]) C dX10_nearest_16 rfl (by decide) rfl ?_
    refine z_iconst (z := 0) C dX10_nearest_17 rfl ?_
    refine z_istore_n (lv' := [(3, .int (zI (0))), (2, .int (zI (-1))), (0, .ref (ad i)), (1, .int (zI ((n0 : Int))))]) C dX10_nearest_18 rfl (by decide) rfl ?_
    refine z_aload_n C 2 dX10_nearest_19 rfl ?_
    refine z_aload_n C 2 dX10_nearest_20 rfl ?_
    refine z_iload_n C 3 dX10_nearest_21 rfl ?_
    have hgy30 := up_n egy25 ha12 (ne_o (i := i) (c := 12) (d := 0) rfl)
    have hgy31 := (hfvy28 (i + 12) (ne_o (i := i) (c := 12) (d := 0) rfl)).trans hgy30
    have hpkn0 := okPt.at hPt (k := n0) (by omega)
    refine z_cV (As := [.int (zI ((n0 : Int)))]) (rest := [.ref (ad i)]) (ci := 12) C (c_X10_pitMany l D A cs tt N ad _ i hN _ hcvy28 _ hgy31 hPt n0 (by omega)) (by omega) hay1 hcvy28 rfl rfl mv_yX10_pitMany q_2031 hd_yX10_pitMany (by decide) (Nat.le_of_ble_eq_true rfl) (by decide) dX10_nearest_22 rfl (kI0 fun vy32 gvy32 hvy32 => ?_)
    obtain ⟨rfl, rfl⟩ := hvy32
    refine z_put (fs' := mF ad (i) (uZ Fvy28 55 (pi (90 * n0 + 2)))) C (by omega) hay1 hcvy28 tyX10 tyX10_ok nmX10 rfl inA_X10 55 (by decide) q_1514 rfl rfl rfl rfl (Nat.le_of_ble_eq_true rfl) rfl dX10_nearest_25 (fun gy33 egy34 => ?_)
    have hgy35 := up_s egy34
    refine z_aload_n C 2 dX10_nearest_28 rfl ?_
    refine z_iload_n C 3 dX10_nearest_29 rfl ?_
    refine z_aload_n C 2 dX10_nearest_30 rfl ?_
    refine z_get (v := .ref (ad (i + 25))) C (by omega) hay1 hgy35 rfl inA_X10 52 (by decide) q_1511 rfl rfl dX10_nearest_31 ?_
    have hgy36 := up_n egy34 hgy31 (ne_o (i := i) (c := 12) (d := 0) rfl)
    have hgy37 := up_n egy25 ha25 (ne_o (i := i) (c := 25) (d := 0) rfl)
    have hgy38 := (hfvy28 (i + 25) (ne_o (i := i) (c := 25) (d := 0) rfl)).trans hgy37
    have hgy39 := up_n egy34 hgy38 (ne_o (i := i) (c := 25) (d := 0) rfl)
    refine z_cV (As := [.int (zI ((n0 : Int))), .ref (ad (i + 25))]) (rest := []) (ci := 12) C (c_X10_laysPit25 l D A cs tt N ad _ i hN _ hgy35 _ hgy36 hPt _ hgy39 n0 (by omega)) (by omega) hay1 hgy35 rfl rfl mv_yX10_laysPit q_2051 hd_yX10_laysPit (by decide) (Nat.le_of_ble_eq_true rfl) (by decide) dX10_nearest_34 rfl (kV0 fun gvy40 hvy40 => ?_)
    obtain ⟨⟨tvy40, hdvy40⟩, hfvy40⟩ := hvy40
    refine z_iconst (z := 0) C dX10_nearest_37 rfl ?_
    refine z_istore (lv' := [(4, .int (zI (0))), (3, .int (zI (0))), (2, .int (zI (-1))), (0, .ref (ad i)), (1, .int (zI ((n0 : Int))))]) C dX10_nearest_38 (by decide) rfl ?_
    have lp1 : ∀ (n9 : Nat) (it : Int) (fw : Int) (ss : Int) (F9 : Nat → Int) (r9 : Nat → Int) (g1 : Nat → va_E), (5 - ss).toNat = n9 → (okMr cs ad g1 i x F9 r9) → ((∀ f, f ≠ 12 → f ≠ 55 → f ≠ 56 → F9 f = F f)) → (∀ j, j < i ∨ i + 30 ≤ j → g1 j = g j) → (-2147483648 ≤ it ∧ it ≤ 2147483647) → (-2147483648 ≤ fw ∧ fw ≤ 2147483647) → (0 ≤ ss ∧ ss ≤ F 13) → (0 ≤ F9 55 ∧ F9 55 ≤ 12) → zV pZ l eZ ({ frames := 3, cells := 0, slots := 0, locals := 180 } : Room) sZ mZ ([.ref (ad i), .int (zI ((n0 : Int)))] : List Value).toArray below meth cZ (MQ below (zPost D A (rI0 N ad fun q g' => (-2147483648 ≤ q ∧ q ≤ 2147483647) ∧ (∃ F' r' : Nat → Int, okMr cs ad g' i (x + 1) F' r' ∧ F' 23 = F 23) ∧ ∀ j, j < i ∨ i + 30 ≤ j → g' j = g j)) ([.ref (ad i), .int (zI ((n0 : Int)))] : List Value).toArray sZ ({ frames := 3, cells := 0, slots := 0, locals := 180 } : Room).cells ({ frames := 3, cells := 0, slots := 0, locals := 180 } : Room).slots A) D A 6 (N) ad g1 (0) (0) 40 [(0, .ref (ad i)), (2, .int (zI (it))), (3, .int (zI (fw))), (4, .int (zI (ss)))] [] := by
      intro n9
      induction n9 using Nat.strongRecOn with
      | ind n9 ih_lp1 =>
        intro it fw ss F9 r9 g1 hm9 fM fF f3 hvlp10 hvlp11 hvlp12 hvlp13
        obtain ⟨hg_y41, ⟨⟨e13_y41, e14_y41, e25_y41, e27_y41, e29_y41⟩, k15_y41, k16_y41, k17_y41, k18_y41, k19_y41, k20_y41, k23_y41⟩, hRD_y41, hTx_y41, hA_y41, st_y41, op_y41, ai_y41, fa_y41, mu_y41, tb_y41, ns_y41, nh_y41, nd_y41, rf_y41, pi_y41, tp_y41, te_y41, ki_y41, li_y41, ok1_y41, ok2_y41, fo_y41, dd_y41, dps_y41, ⟨ha1_y41, ha2_y41, ha3_y41, ha4_y41, ha5_y41, ha6_y41, ha7_y41, ha8_y41, ha9_y41, ha10_y41, ha11_y41, ha12_y41, ha13_y41, ha14_y41, ha15_y41, ha24_y41, ha25_y41, ha26_y41, ha27_y41, ha28_y41, ha29_y41⟩, hEv_y41, hPt_y41, hns_y41, htp_y41⟩ := id fM
        obtain ⟨-, hop_y41, hai_y41, hfa_y41, hT_y41, hT1_y41⟩ := id hEv_y41
        have e14 := e14_y41
        have e25 := e25_y41
        have e27 := e27_y41
        have e29 := e29_y41
        have hop := hop_y41
        have hai := hai_y41
        have hfa := hfa_y41
        have hT := hT_y41
        have hT1 := hT1_y41
        have hEv := hEv_y41
        have htp := htp_y41
        have hns := hns_y41
        have hPt := hPt_y41
        have hay42 : zAt ad (i) (ad i) := rfl
        have hay43 : zAt ad (i + 1) (ad (i + 1)) := rfl
        have hay44 : zAt ad (i + 2) (ad (i + 2)) := rfl
        have hay45 : zAt ad (i + 3) (ad (i + 3)) := rfl
        have hay46 : zAt ad (i + 4) (ad (i + 4)) := rfl
        have hay47 : zAt ad (i + 5) (ad (i + 5)) := rfl
        have hay48 : zAt ad (i + 6) (ad (i + 6)) := rfl
        have hay49 : zAt ad (i + 7) (ad (i + 7)) := rfl
        have hay50 : zAt ad (i + 8) (ad (i + 8)) := rfl
        have hay51 : zAt ad (i + 9) (ad (i + 9)) := rfl
        have hay52 : zAt ad (i + 10) (ad (i + 10)) := rfl
        have hay53 : zAt ad (i + 11) (ad (i + 11)) := rfl
        have hay54 : zAt ad (i + 12) (ad (i + 12)) := rfl
        have hay55 : zAt ad (i + 13) (ad (i + 13)) := rfl
        have hay56 : zAt ad (i + 14) (ad (i + 14)) := rfl
        have hay57 : zAt ad (i + 15) (ad (i + 15)) := rfl
        have hay58 : zAt ad (i + 24) (ad (i + 24)) := rfl
        have hay59 : zAt ad (i + 25) (ad (i + 25)) := rfl
        have hay60 : zAt ad (i + 26) (ad (i + 26)) := rfl
        have hay61 : zAt ad (i + 27) (ad (i + 27)) := rfl
        have hay62 : zAt ad (i + 28) (ad (i + 28)) := rfl
        have hay63 : zAt ad (i + 29) (ad (i + 29)) := rfl
        obtain ⟨⟨hsyy64, htyy64, hnyy64, hpyy64⟩, hlyy64⟩ := okA.at0 hA_y41
        simp only [Nat.zero_add] at hsyy64 hnyy64 hpyy64
        have hmn : ∀ s, s < 4 → 0 ≤ r9 (6 + 86 * s) ∧ r9 (6 + 86 * s) ≤ 12 := fun s hs => (hsyy64 s hs).1
        have h5 : 0 ≤ r9 5 ∧ r9 5 ≤ 6 := hpyy64
        have h13e : F9 13 = F 13 := fF 13 (by decide) (by decide) (by decide)
        have h14e : F9 14 = F 14 := fF 14 (by decide) (by decide) (by decide)
        have h17e : F9 17 = F 17 := fF 17 (by decide) (by decide) (by decide)
        have h23e : F9 23 = F 23 := fF 23 (by decide) (by decide) (by decide)
        refine z_iload C 3 dX10_nearest_40 rfl ?_
        refine z_aload_n C 0 dX10_nearest_42 rfl ?_
        refine z_get (v := .int (zI (F9 13))) C (by omega) hay42 hg_y41 rfl inA_X10 13 (by decide) q_1472 rfl (fv (F := F9) (f := 13) rfl) dX10_nearest_43 ?_
        refine z_icmp_ge (tgt := 128) C dX10_nearest_46 (by decide) (by omega) (by omega) (fun hby65 => ?_) (fun hby65 => ?_)
        · refine z_iload_n C 1 dX10_nearest_128 rfl ?_
          have hMy66 : okMr cs ad g1 i (x + 1) F9 r9 := okMr.upd fM hg_y41 fM.2.1 (fun f _ => rfl) ha1_y41 (hA_y41.mono (by omega)) (fun j a b => by
              exact Or.inl (by rfl))
          have h23 : F9 23 = F9 23 := rfl
          exact z_iret C hr hlk dX10_nearest_129 (by decide) (by decide) ⟨it, rfl, rfl, rfl, by omega, ⟨_, _, hMy66, by omega⟩, fun j j1 => by exact f3 j j1⟩
        · refine z_aload_n C 0 dX10_nearest_49 rfl ?_
          refine z_aload_n C 0 dX10_nearest_50 rfl ?_
          refine z_iconst (z := 0) C dX10_nearest_51 rfl ?_
          refine z_iload C 3 dX10_nearest_52 rfl ?_
          obtain ⟨ny67, hny67⟩ : ∃ n9 : Nat, ss = (n9 : Int) := ⟨(ss).toNat, by omega⟩
          rw [hny67]
          obtain ⟨py68, hpy68⟩ : ∃ p9 : Nat, 0 + 6 + 86 * ny67 = p9 := ⟨_, rfl⟩
          have hmpy68 := hmn ny67 (by omega)
          rw [show 6 + 86 * ny67 = py68 by omega] at hmpy68
          have hmyy69 := ((okA.at0 hA_y41).1.1 ny67 (by omega)).1
          rw [hpy68] at hmyy69
          refine z_cV (As := [.int (zI (0)), .int (zI ((ny67 : Int)))]) (rest := [.ref (ad i)]) (ci := 12) C (c_X10_many l D A cs tt N ad _ i hN _ hg_y41 _ ha1_y41 0 ny67 py68 hpy68 (by omega) (by omega)) (by omega) hay42 hg_y41 rfl rfl mv_yX10_many q_1733 hd_yX10_many (by decide) (Nat.le_of_ble_eq_true rfl) (by decide) dX10_nearest_54 rfl (kI0 fun vy70 gvy70 hvy70 => ?_)
          obtain ⟨rfl, rfl⟩ := hvy70
          refine z_put (fs' := mF ad (i) (uZ F9 56 (r9 (py68)))) C (by omega) hay42 hg_y41 tyX10 tyX10_ok nmX10 rfl inA_X10 56 (by decide) q_1515 rfl rfl rfl rfl (Nat.le_of_ble_eq_true rfl) rfl dX10_nearest_57 (fun gy71 egy72 => ?_)
          have hgy73 := up_s egy72
          refine z_iconst (z := 0) C dX10_nearest_60 rfl ?_
          refine z_istore (lv' := [(5, .int (zI (0))), (0, .ref (ad i)), (2, .int (zI (it))), (3, .int (zI (fw))), (4, .int (zI ((ny67 : Int))))]) C dX10_nearest_61 (by decide) rfl ?_
          have lp2 : ∀ (n9 : Nat) (ll : Int) (F9b : Nat → Int) (r9b : Nat → Int) (g1 : Nat → va_E), (13 - ll).toNat = n9 → (okMr cs ad g1 i x F9b r9b) → ((∀ f, f ≠ 12 → f ≠ 55 → f ≠ 56 → F9b f = F f)) → (∀ j, j < i ∨ i + 30 ≤ j → g1 j = g j) → (0 ≤ ll ∧ ll ≤ 12) → ((0 ≤ F9b 56 ∧ F9b 56 ≤ 12) ∧ 0 ≤ F9b 55 ∧ F9b 55 ≤ 12) → zV pZ l eZ ({ frames := 3, cells := 0, slots := 0, locals := 180 } : Room) sZ mZ ([.ref (ad i), .int (zI ((n0 : Int)))] : List Value).toArray below meth cZ (MQ below (zPost D A (rI0 N ad fun q g' => (-2147483648 ≤ q ∧ q ≤ 2147483647) ∧ (∃ F' r' : Nat → Int, okMr cs ad g' i (x + 1) F' r' ∧ F' 23 = F 23) ∧ ∀ j, j < i ∨ i + 30 ≤ j → g' j = g j)) ([.ref (ad i), .int (zI ((n0 : Int)))] : List Value).toArray sZ ({ frames := 3, cells := 0, slots := 0, locals := 180 } : Room).cells ({ frames := 3, cells := 0, slots := 0, locals := 180 } : Room).slots A) D A 6 (N) ad g1 (0) (0) 63 [(0, .ref (ad i)), (2, .int (zI (it))), (3, .int (zI (fw))), (4, .int (zI ((ny67 : Int)))), (5, .int (zI (ll)))] [] := by
            intro n9
            induction n9 using Nat.strongRecOn with
            | ind n9 ih_lp2 =>
              intro ll F9b r9b g1 hm9 fMb fFb f3 hvlp20 hvlp21
              obtain ⟨hg_y74, ⟨⟨e13_y74, e14_y74, e25_y74, e27_y74, e29_y74⟩, k15_y74, k16_y74, k17_y74, k18_y74, k19_y74, k20_y74, k23_y74⟩, hRD_y74, hTx_y74, hA_y74, st_y74, op_y74, ai_y74, fa_y74, mu_y74, tb_y74, ns_y74, nh_y74, nd_y74, rf_y74, pi_y74, tp_y74, te_y74, ki_y74, li_y74, ok1_y74, ok2_y74, fo_y74, dd_y74, dps_y74, ⟨ha1_y74, ha2_y74, ha3_y74, ha4_y74, ha5_y74, ha6_y74, ha7_y74, ha8_y74, ha9_y74, ha10_y74, ha11_y74, ha12_y74, ha13_y74, ha14_y74, ha15_y74, ha24_y74, ha25_y74, ha26_y74, ha27_y74, ha28_y74, ha29_y74⟩, hEv_y74, hPt_y74, hns_y74, htp_y74⟩ := id fMb
              obtain ⟨-, hop_y74, hai_y74, hfa_y74, hT_y74, hT1_y74⟩ := id hEv_y74
              have e14 := e14_y74
              have e25 := e25_y74
              have e27 := e27_y74
              have e29 := e29_y74
              have hop := hop_y74
              have hai := hai_y74
              have hfa := hfa_y74
              have hT := hT_y74
              have hT1 := hT1_y74
              have hEv := hEv_y74
              have htp := htp_y74
              have hns := hns_y74
              have hPt := hPt_y74
              have hay75 : zAt ad (i) (ad i) := rfl
              have hay76 : zAt ad (i + 1) (ad (i + 1)) := rfl
              have hay77 : zAt ad (i + 2) (ad (i + 2)) := rfl
              have hay78 : zAt ad (i + 3) (ad (i + 3)) := rfl
              have hay79 : zAt ad (i + 4) (ad (i + 4)) := rfl
              have hay80 : zAt ad (i + 5) (ad (i + 5)) := rfl
              have hay81 : zAt ad (i + 6) (ad (i + 6)) := rfl
              have hay82 : zAt ad (i + 7) (ad (i + 7)) := rfl
              have hay83 : zAt ad (i + 8) (ad (i + 8)) := rfl
              have hay84 : zAt ad (i + 9) (ad (i + 9)) := rfl
              have hay85 : zAt ad (i + 10) (ad (i + 10)) := rfl
              have hay86 : zAt ad (i + 11) (ad (i + 11)) := rfl
              have hay87 : zAt ad (i + 12) (ad (i + 12)) := rfl
              have hay88 : zAt ad (i + 13) (ad (i + 13)) := rfl
              have hay89 : zAt ad (i + 14) (ad (i + 14)) := rfl
              have hay90 : zAt ad (i + 15) (ad (i + 15)) := rfl
              have hay91 : zAt ad (i + 24) (ad (i + 24)) := rfl
              have hay92 : zAt ad (i + 25) (ad (i + 25)) := rfl
              have hay93 : zAt ad (i + 26) (ad (i + 26)) := rfl
              have hay94 : zAt ad (i + 27) (ad (i + 27)) := rfl
              have hay95 : zAt ad (i + 28) (ad (i + 28)) := rfl
              have hay96 : zAt ad (i + 29) (ad (i + 29)) := rfl
              obtain ⟨⟨hsyy97, htyy97, hnyy97, hpyy97⟩, hlyy97⟩ := okA.at0 hA_y74
              simp only [Nat.zero_add] at hsyy97 hnyy97 hpyy97
              have hmn : ∀ s, s < 4 → 0 ≤ r9b (6 + 86 * s) ∧ r9b (6 + 86 * s) ≤ 12 := fun s hs => (hsyy97 s hs).1
              have h5 : 0 ≤ r9b 5 ∧ r9b 5 ≤ 6 := hpyy97
              have h13be : F9b 13 = F 13 := fFb 13 (by decide) (by decide) (by decide)
              have h14be : F9b 14 = F 14 := fFb 14 (by decide) (by decide) (by decide)
              have h17be : F9b 17 = F 17 := fFb 17 (by decide) (by decide) (by decide)
              have h23be : F9b 23 = F 23 := fFb 23 (by decide) (by decide) (by decide)
              refine z_iload C 4 dX10_nearest_63 rfl ?_
              refine z_aload_n C 0 dX10_nearest_65 rfl ?_
              refine z_get (v := .int (zI (F9b 56))) C (by omega) hay75 hg_y74 rfl inA_X10 56 (by decide) q_1515 rfl (fv (F := F9b) (f := 56) rfl) dX10_nearest_66 ?_
              refine z_icmp_ge (tgt := 95) C dX10_nearest_69 (by decide) (by omega) (by omega) (fun hby98 => ?_) (fun hby98 => ?_)
              · refine z_aload_n C 0 dX10_nearest_95 rfl ?_
                refine z_iconst (z := 0) C dX10_nearest_96 rfl ?_
                have hey100 : F9b 55 = F9b 55 := rfl
                have hey101 : F9b 56 = F9b 56 := rfl
                refine z_cV (As := [.int (zI (0))]) (rest := []) (ci := 12) C (c_X10_folds l D A cs tt N ad _ i hN _ hg_y74 _ ha25_y74 _ ha26_y74 _ ha27_y74 (by omega) (by omega) (0) (by omega)) (by omega) hay75 hg_y74 rfl rfl mv_yX10_folds q_2055 hd_yX10_folds (by decide) (Nat.le_of_ble_eq_true rfl) (by decide) dX10_nearest_97 rfl (kI0 fun vy99 gvy99 hvy99 => ?_)
                obtain ⟨hrvy99, ⟨tvy99, hdvy99⟩, hfvy99⟩ := hvy99
                refine z_istore (lv' := [(5, .int (zI (vy99))), (0, .ref (ad i)), (2, .int (zI (it))), (3, .int (zI (fw))), (4, .int (zI ((ny67 : Int))))]) C dX10_nearest_100 (by decide) rfl ?_
                refine z_iload_n C 2 dX10_nearest_102 rfl ?_
                refine z_iconst (z := -1) C dX10_nearest_103 rfl ?_
                refine z_icmp_eq (tgt := 116) C dX10_nearest_104 (by decide) (by omega) (by omega) (fun hby102 => ?_) (fun hby102 => ?_)
                · refine z_iload C 4 dX10_nearest_116 rfl ?_
                  refine z_istore_n (lv' := [(2, .int (zI ((ny67 : Int)))), (5, .int (zI (vy99))), (0, .ref (ad i)), (3, .int (zI (fw))), (4, .int (zI ((ny67 : Int))))]) C dX10_nearest_118 rfl (by decide) rfl ?_
                  refine z_iload C 1 dX10_nearest_119 rfl ?_
                  refine z_istore_n (lv' := [(3, .int (zI (vy99))), (2, .int (zI ((ny67 : Int)))), (5, .int (zI (vy99))), (0, .ref (ad i)), (4, .int (zI ((ny67 : Int))))]) C dX10_nearest_121 rfl (by decide) rfl ?_
                  refine z_iinc (z := (ny67 : Int) + 1) (lv' := [(4, .int (zI ((ny67 : Int) + 1))), (3, .int (zI (vy99))), (2, .int (zI ((ny67 : Int)))), (5, .int (zI (vy99))), (0, .ref (ad i))]) (j := 4) C dX10_nearest_122 rfl rfl (by decide) rfl ?_
                  refine z_goto (tgt := 40) C dX10_nearest_125 (by decide) ?_
                  have hgy103 := (hfvy99 (i) (ne_o (i := i) (c := 0) (d := 27) rfl)).trans hg_y74
                  have hgy104 := (hfvy99 (i + 1) (ne_o (i := i) (c := 1) (d := 27) rfl)).trans ha1_y74
                  have hMy105 : okMr cs ad gvy99 i (x) F9b r9b := okMr.upd fMb hgy103 fMb.2.1 (fun f _ => rfl) hgy104 (hA_y74.mono (by omega)) (fun j a b => by
                      by_cases e0 : j = i + 27
                      · exact Or.inr ⟨27, _, e0, lsP.l (by decide), by rw [e0]; exact hdvy99⟩
                      exact Or.inl (by rw [hfvy99 _ (by omega)]))
                  have hFF : (∀ f, f ≠ 12 → f ≠ 55 → f ≠ 56 → F9b f = F f) := fun f n12 n55 n56 => fFb f n12 n55 n56
                  have hey106 : F9b 13 = F9b 13 := rfl
                  have hey107 : F9b 14 = F9b 14 := rfl
                  have hey108 : F9b 55 = F9b 55 := rfl
                  refine z_lv (lv' := [(0, .ref (ad i)), (2, .int (zI ((ny67 : Int)))), (3, .int (zI (vy99))), (4, .int (zI ((ny67 : Int) + 1)))]) [4, 2, 1, 0] rfl ?_
                  exact ih_lp1 _ (by omega) ((ny67 : Int)) (vy99) ((ny67 : Int) + 1) _ _ gvy99 rfl hMy105 hFF (fun j j1 => by rw [hfvy99 _ (by omega)]; exact f3 j j1) (by omega) (by omega) (by omega) (by omega)
                · refine z_iload C 0 dX10_nearest_107 rfl ?_
                  refine z_iload_n C 3 dX10_nearest_109 rfl ?_
                  refine z_icmp_lt (tgt := 116) C dX10_nearest_110 (by decide) (by omega) (by omega) (fun hby109 => ?_) (fun hby109 => ?_)
                  · refine z_iload C 4 dX10_nearest_116 rfl ?_
                    refine z_istore_n (lv' := [(2, .int (zI ((ny67 : Int)))), (5, .int (zI (vy99))), (0, .ref (ad i)), (3, .int (zI (fw))), (4, .int (zI ((ny67 : Int))))]) C dX10_nearest_118 rfl (by decide) rfl ?_
                    refine z_iload C 1 dX10_nearest_119 rfl ?_
                    refine z_istore_n (lv' := [(3, .int (zI (vy99))), (2, .int (zI ((ny67 : Int)))), (5, .int (zI (vy99))), (0, .ref (ad i)), (4, .int (zI ((ny67 : Int))))]) C dX10_nearest_121 rfl (by decide) rfl ?_
                    refine z_iinc (z := (ny67 : Int) + 1) (lv' := [(4, .int (zI ((ny67 : Int) + 1))), (3, .int (zI (vy99))), (2, .int (zI ((ny67 : Int)))), (5, .int (zI (vy99))), (0, .ref (ad i))]) (j := 4) C dX10_nearest_122 rfl rfl (by decide) rfl ?_
                    refine z_goto (tgt := 40) C dX10_nearest_125 (by decide) ?_
                    have hgy110 := (hfvy99 (i) (ne_o (i := i) (c := 0) (d := 27) rfl)).trans hg_y74
                    have hgy111 := (hfvy99 (i + 1) (ne_o (i := i) (c := 1) (d := 27) rfl)).trans ha1_y74
                    have hMy112 : okMr cs ad gvy99 i (x) F9b r9b := okMr.upd fMb hgy110 fMb.2.1 (fun f _ => rfl) hgy111 (hA_y74.mono (by omega)) (fun j a b => by
                        by_cases e0 : j = i + 27
                        · exact Or.inr ⟨27, _, e0, lsP.l (by decide), by rw [e0]; exact hdvy99⟩
                        exact Or.inl (by rw [hfvy99 _ (by omega)]))
                    have hFF : (∀ f, f ≠ 12 → f ≠ 55 → f ≠ 56 → F9b f = F f) := fun f n12 n55 n56 => fFb f n12 n55 n56
                    have hey113 : F9b 13 = F9b 13 := rfl
                    have hey114 : F9b 14 = F9b 14 := rfl
                    have hey115 : F9b 55 = F9b 55 := rfl
                    refine z_lv (lv' := [(0, .ref (ad i)), (2, .int (zI ((ny67 : Int)))), (3, .int (zI (vy99))), (4, .int (zI ((ny67 : Int) + 1)))]) [4, 2, 1, 0] rfl ?_
                    exact ih_lp1 _ (by omega) ((ny67 : Int)) (vy99) ((ny67 : Int) + 1) _ _ gvy99 rfl hMy112 hFF (fun j j1 => by rw [hfvy99 _ (by omega)]; exact f3 j j1) (by omega) (by omega) (by omega) (by omega)
                  · refine z_goto (tgt := 122) C dX10_nearest_113 (by decide) ?_
                    refine z_iinc (z := (ny67 : Int) + 1) (lv' := [(4, .int (zI ((ny67 : Int) + 1))), (5, .int (zI (vy99))), (0, .ref (ad i)), (2, .int (zI (it))), (3, .int (zI (fw)))]) (j := 4) C dX10_nearest_122 rfl rfl (by decide) rfl ?_
                    refine z_goto (tgt := 40) C dX10_nearest_125 (by decide) ?_
                    have hgy116 := (hfvy99 (i) (ne_o (i := i) (c := 0) (d := 27) rfl)).trans hg_y74
                    have hgy117 := (hfvy99 (i + 1) (ne_o (i := i) (c := 1) (d := 27) rfl)).trans ha1_y74
                    have hMy118 : okMr cs ad gvy99 i (x) F9b r9b := okMr.upd fMb hgy116 fMb.2.1 (fun f _ => rfl) hgy117 (hA_y74.mono (by omega)) (fun j a b => by
                        by_cases e0 : j = i + 27
                        · exact Or.inr ⟨27, _, e0, lsP.l (by decide), by rw [e0]; exact hdvy99⟩
                        exact Or.inl (by rw [hfvy99 _ (by omega)]))
                    have hFF : (∀ f, f ≠ 12 → f ≠ 55 → f ≠ 56 → F9b f = F f) := fun f n12 n55 n56 => fFb f n12 n55 n56
                    have hey119 : F9b 13 = F9b 13 := rfl
                    have hey120 : F9b 14 = F9b 14 := rfl
                    have hey121 : F9b 55 = F9b 55 := rfl
                    refine z_lv (lv' := [(0, .ref (ad i)), (2, .int (zI (it))), (3, .int (zI (fw))), (4, .int (zI ((ny67 : Int) + 1)))]) [2, 3, 4, 0] rfl ?_
                    exact ih_lp1 _ (by omega) (it) (fw) ((ny67 : Int) + 1) _ _ gvy99 rfl hMy118 hFF (fun j j1 => by rw [hfvy99 _ (by omega)]; exact f3 j j1) (by omega) (by omega) (by omega) (by omega)
              · refine z_aload_n C 0 dX10_nearest_72 rfl ?_
                refine z_get (v := .ref (ad (i + 26))) C (by omega) hay75 hg_y74 rfl inA_X10 53 (by decide) q_1512 rfl rfl dX10_nearest_73 ?_
                refine z_iload C 4 dX10_nearest_76 rfl ?_
                refine z_aload_n C 0 dX10_nearest_78 rfl ?_
                refine z_iconst (z := 0) C dX10_nearest_79 rfl ?_
                refine z_iload C 3 dX10_nearest_80 rfl ?_
                refine z_iload C 4 dX10_nearest_82 rfl ?_
                refine z_iconst (z := 0) C dX10_nearest_84 rfl ?_
                obtain ⟨py122, hpy122⟩ : ∃ p9 : Nat, 0 + 6 + 86 * ny67 = p9 := ⟨_, rfl⟩
                obtain ⟨ky123, hky123⟩ : ∃ k9 : Nat, (ll) = (k9 : Int) := ⟨((ll) : Int).toNat, by omega⟩
                obtain ⟨qy124, hqy124⟩ : ∃ q9 : Nat, py122 + 2 + 7 * ky123 = q9 := ⟨_, rfl⟩
                refine z_cV (As := [.int (zI (0)), .int (zI ((ny67 : Int))), .int (zI (ll)), .int (zI (0))]) (rest := [.int (zI (ll)), .ref (ad (i + 26))]) (ci := 12) C (c_X10_of l D A cs tt N ad _ i hN _ hg_y74 _ ha1_y74 0 ny67 py122 hpy122 (by omega) (by omega) (ll) (0) (qy124) (by omega) (by omega) (by omega)) (by omega) hay75 hg_y74 rfl rfl mv_yX10_of q_1749 hd_yX10_of (by decide) (Nat.le_of_ble_eq_true rfl) (by decide) dX10_nearest_85 rfl (kI0 fun vy125 gvy125 hvy125 => ?_)
                obtain ⟨rfl, rfl⟩ := hvy125
                refine z_iast C (by omega) hay93 ha26_y74 ((ll).toNat) (by omega) (by omega) (by decide) dX10_nearest_88 (fun gy126 egy127 => ?_)
                have hgy128 := up_s egy127
                refine z_iinc (z := ll + 1) (lv' := [(5, .int (zI (ll + 1))), (0, .ref (ad i)), (2, .int (zI (it))), (3, .int (zI (fw))), (4, .int (zI ((ny67 : Int))))]) (j := 4) C dX10_nearest_89 rfl rfl (by decide) rfl ?_
                refine z_goto (tgt := 63) C dX10_nearest_92 (by decide) ?_
                have hgy129 := up_n egy127 hg_y74 (ne_o (i := i) (c := 0) (d := 26) rfl)
                have hgy130 := up_n egy127 ha1_y74 (ne_o (i := i) (c := 1) (d := 26) rfl)
                have hMy131 : okMr cs ad gy126 i (x) F9b r9b := okMr.upd fMb hgy129 fMb.2.1 (fun f _ => rfl) hgy130 (hA_y74.mono (by omega)) (fun j a b => by
                    by_cases e0 : j = i + 26
                    · exact Or.inr ⟨26, _, e0, lsP.l (by decide), by rw [e0]; exact hgy128⟩
                    exact Or.inl (by rw [egy127, va_up_ne _ _ (by omega)]))
                have hFFb : (∀ f, f ≠ 12 → f ≠ 55 → f ≠ 56 → F9b f = F f) := fun f n12 n55 n56 => fFb f n12 n55 n56
                have hey132 : F9b 13 = F9b 13 := rfl
                have hey133 : F9b 14 = F9b 14 := rfl
                have hey134 : F9b 55 = F9b 55 := rfl
                have hey135 : F9b 56 = F9b 56 := rfl
                refine z_lv (lv' := [(0, .ref (ad i)), (2, .int (zI (it))), (3, .int (zI (fw))), (4, .int (zI ((ny67 : Int)))), (5, .int (zI (ll + 1)))]) [1, 2, 3, 4, 0] rfl ?_
                exact ih_lp2 _ (by omega) (ll + 1) _ _ gy126 rfl hMy131 hFFb (fun j j1 => by rw [egy127, va_up_ne _ _ (by omega)]; exact f3 j j1) (by omega) (by omega)
          have hgy136 := up_n egy72 ha1_y41 (ne_o (i := i) (c := 1) (d := 0) rfl)
          have hFy137 : ∀ f, f ≠ 56 → (uZ F9 56 (r9 (py68))) f = F9 f := fun f n56 => ((uZ_n _ _ n56).trans rfl)
          have hey138 : (uZ F9 56 (r9 (py68))) 13 = F9 13 := (fn rfl (by decide))
          have hey139 : (uZ F9 56 (r9 (py68))) 14 = F9 14 := (fn rfl (by decide))
          have hey140 : (uZ F9 56 (r9 (py68))) 15 = F9 15 := (fn rfl (by decide))
          have hey141 : (uZ F9 56 (r9 (py68))) 16 = F9 16 := (fn rfl (by decide))
          have hey142 : (uZ F9 56 (r9 (py68))) 17 = F9 17 := (fn rfl (by decide))
          have hey143 : (uZ F9 56 (r9 (py68))) 18 = F9 18 := (fn rfl (by decide))
          have hey144 : (uZ F9 56 (r9 (py68))) 19 = F9 19 := (fn rfl (by decide))
          have hey145 : (uZ F9 56 (r9 (py68))) 20 = F9 20 := (fn rfl (by decide))
          have hey146 : (uZ F9 56 (r9 (py68))) 23 = F9 23 := (fn rfl (by decide))
          have hey147 : (uZ F9 56 (r9 (py68))) 25 = F9 25 := (fn rfl (by decide))
          have hey148 : (uZ F9 56 (r9 (py68))) 27 = F9 27 := (fn rfl (by decide))
          have hey149 : (uZ F9 56 (r9 (py68))) 28 = F9 28 := (fn rfl (by decide))
          have hey150 : (uZ F9 56 (r9 (py68))) 29 = F9 29 := (fn rfl (by decide))
          have hKy151 : okF (uZ F9 56 (r9 (py68))) := by unfold okF; omega
          have hMy152 : okMr cs ad gy71 i (x) (uZ F9 56 (r9 (py68))) r9 := okMr.upd fM hgy73 hKy151 (fun f a => hFy137 f (by omega)) hgy136 (hA_y41.mono (by omega)) (fun j a b => by
              exact Or.inl (by rw [egy72, va_up_ne _ _ (by omega)]))
          have hFy153 : ∀ f, f ≠ 56 → (uZ F9 56 (r9 (py68))) f = F9 f := fun f n56 => ((uZ_n _ _ n56).trans rfl)
          have hFFb : (∀ f, f ≠ 12 → f ≠ 55 → f ≠ 56 → (uZ F9 56 (r9 (py68))) f = F f) := fun f n12 n55 n56 => (hFy153 f n56).trans (fF f n12 n55 n56)
          have hey154 : (uZ F9 56 (r9 (py68))) 13 = F9 13 := (fn rfl (by decide))
          have hey155 : (uZ F9 56 (r9 (py68))) 14 = F9 14 := (fn rfl (by decide))
          have hey156 : (uZ F9 56 (r9 (py68))) 55 = F9 55 := (fn rfl (by decide))
          have hey157 : (uZ F9 56 (r9 (py68))) 56 = r9 (py68) := (uZ_s _ _ _)
          refine z_lv (lv' := [(0, .ref (ad i)), (2, .int (zI (it))), (3, .int (zI (fw))), (4, .int (zI ((ny67 : Int)))), (5, .int (zI (0)))]) [1, 2, 3, 4, 0] rfl ?_
          exact lp2 _ (0) _ _ gy71 rfl hMy152 hFFb (fun j j1 => by rw [egy72, va_up_ne _ _ (by omega)]; exact f3 j j1) (by omega) (by omega)
    have hgy158 := (hfvy40 (i) (ne_o (i := i) (c := 0) (d := 25) rfl)).trans hgy35
    have hgy159 := (hfvy28 (i + 1) (ne_o (i := i) (c := 1) (d := 0) rfl)).trans hgy27
    have hgy160 := up_n egy34 hgy159 (ne_o (i := i) (c := 1) (d := 0) rfl)
    have hgy161 := (hfvy40 (i + 1) (ne_o (i := i) (c := 1) (d := 25) rfl)).trans hgy160
    have hFy162 : ∀ f, f ≠ 12 → f ≠ 55 → (uZ Fvy28 55 (pi (90 * n0 + 2))) f = F f := fun f n12 n55 => ((uZ_n _ _ n55).trans ((hFvy28 f n12).trans ((uZ_n _ _ n12).trans rfl)))
    have hey163 : (uZ Fvy28 55 (pi (90 * n0 + 2))) 13 = F 13 := (fn ((hFvy28 13 (by decide)).trans (fn rfl (by decide))) (by decide))
    have hey164 : (uZ Fvy28 55 (pi (90 * n0 + 2))) 14 = F 14 := (fn ((hFvy28 14 (by decide)).trans (fn rfl (by decide))) (by decide))
    have hey165 : (uZ Fvy28 55 (pi (90 * n0 + 2))) 15 = F 15 := (fn ((hFvy28 15 (by decide)).trans (fn rfl (by decide))) (by decide))
    have hey166 : (uZ Fvy28 55 (pi (90 * n0 + 2))) 16 = F 16 := (fn ((hFvy28 16 (by decide)).trans (fn rfl (by decide))) (by decide))
    have hey167 : (uZ Fvy28 55 (pi (90 * n0 + 2))) 17 = F 17 := (fn ((hFvy28 17 (by decide)).trans (fn rfl (by decide))) (by decide))
    have hey168 : (uZ Fvy28 55 (pi (90 * n0 + 2))) 18 = F 18 := (fn ((hFvy28 18 (by decide)).trans (fn rfl (by decide))) (by decide))
    have hey169 : (uZ Fvy28 55 (pi (90 * n0 + 2))) 19 = F 19 := (fn ((hFvy28 19 (by decide)).trans (fn rfl (by decide))) (by decide))
    have hey170 : (uZ Fvy28 55 (pi (90 * n0 + 2))) 20 = F 20 := (fn ((hFvy28 20 (by decide)).trans (fn rfl (by decide))) (by decide))
    have hey171 : (uZ Fvy28 55 (pi (90 * n0 + 2))) 23 = F 23 := (fn ((hFvy28 23 (by decide)).trans (fn rfl (by decide))) (by decide))
    have hey172 : (uZ Fvy28 55 (pi (90 * n0 + 2))) 25 = F 25 := (fn ((hFvy28 25 (by decide)).trans (fn rfl (by decide))) (by decide))
    have hey173 : (uZ Fvy28 55 (pi (90 * n0 + 2))) 27 = F 27 := (fn ((hFvy28 27 (by decide)).trans (fn rfl (by decide))) (by decide))
    have hey174 : (uZ Fvy28 55 (pi (90 * n0 + 2))) 28 = F 28 := (fn ((hFvy28 28 (by decide)).trans (fn rfl (by decide))) (by decide))
    have hey175 : (uZ Fvy28 55 (pi (90 * n0 + 2))) 29 = F 29 := (fn ((hFvy28 29 (by decide)).trans (fn rfl (by decide))) (by decide))
    have hKy176 : okF (uZ Fvy28 55 (pi (90 * n0 + 2))) := by unfold okF; omega
    have hMy177 : okMr cs ad gvy40 i (x) (uZ Fvy28 55 (pi (90 * n0 + 2))) r := okMr.upd hM hgy158 hKy176 (fun f a => hFy162 f (by omega) (by omega)) hgy161 (hA.mono (by omega)) (fun j a b => by
        by_cases e0 : j = i + 25
        · exact Or.inr ⟨25, _, e0, lsP.l (by decide), by rw [e0]; exact hdvy40⟩
        exact Or.inl (by rw [hfvy40 _ (by omega)]; rw [egy34, va_up_ne _ _ (by omega)]; rw [hfvy28 _ (by omega)]; rw [egy25, va_up_ne _ _ (by omega)]))
    have hFy178 : ∀ f, f ≠ 12 → f ≠ 55 → (uZ Fvy28 55 (pi (90 * n0 + 2))) f = F f := fun f n12 n55 => ((uZ_n _ _ n55).trans ((hFvy28 f n12).trans ((uZ_n _ _ n12).trans rfl)))
    have hFF : (∀ f, f ≠ 12 → f ≠ 55 → f ≠ 56 → (uZ Fvy28 55 (pi (90 * n0 + 2))) f = F f) := fun f n12 n55 n56 => (hFy178 f n12 n55)
    have hey179 : (uZ Fvy28 55 (pi (90 * n0 + 2))) 13 = F 13 := (fn ((hFvy28 13 (by decide)).trans (fn rfl (by decide))) (by decide))
    have hey180 : (uZ Fvy28 55 (pi (90 * n0 + 2))) 14 = F 14 := (fn ((hFvy28 14 (by decide)).trans (fn rfl (by decide))) (by decide))
    have hey181 : (uZ Fvy28 55 (pi (90 * n0 + 2))) 55 = pi (90 * n0 + 2) := (uZ_s _ _ _)
    refine z_lv (lv' := [(0, .ref (ad i)), (2, .int (zI (-1))), (3, .int (zI (0))), (4, .int (zI (0)))]) [3, 2, 1, 0] rfl ?_
    exact lp1 _ (-1) (0) (0) _ _ gvy40 rfl hMy177 hFF (fun j j1 => by rw [hfvy40 _ (by omega)]; rw [egy34, va_up_ne _ _ (by omega)]; rw [hfvy28 _ (by omega)]; rw [egy25, va_up_ne _ _ (by omega)]) (by omega) (by omega) (by omega) (by omega)
  · refine z_if_ne (tgt := 15) C dX10_nearest_10 (by decide) (by omega) (fun h => absurd h (by omega)) (fun _ => ?_)
    refine z_iconst (z := 0) C dX10_nearest_13 rfl ?_
    have hgy182 := (hfvy28 (i + 1) (ne_o (i := i) (c := 1) (d := 0) rfl)).trans hgy27
    have hFy183 : ∀ f, f ≠ 12 → Fvy28 f = F f := fun f n12 => ((hFvy28 f n12).trans ((uZ_n _ _ n12).trans rfl))
    have hey184 : Fvy28 13 = F 13 := ((hFvy28 13 (by decide)).trans (fn rfl (by decide)))
    have hey185 : Fvy28 14 = F 14 := ((hFvy28 14 (by decide)).trans (fn rfl (by decide)))
    have hey186 : Fvy28 15 = F 15 := ((hFvy28 15 (by decide)).trans (fn rfl (by decide)))
    have hey187 : Fvy28 16 = F 16 := ((hFvy28 16 (by decide)).trans (fn rfl (by decide)))
    have hey188 : Fvy28 17 = F 17 := ((hFvy28 17 (by decide)).trans (fn rfl (by decide)))
    have hey189 : Fvy28 18 = F 18 := ((hFvy28 18 (by decide)).trans (fn rfl (by decide)))
    have hey190 : Fvy28 19 = F 19 := ((hFvy28 19 (by decide)).trans (fn rfl (by decide)))
    have hey191 : Fvy28 20 = F 20 := ((hFvy28 20 (by decide)).trans (fn rfl (by decide)))
    have hey192 : Fvy28 23 = F 23 := ((hFvy28 23 (by decide)).trans (fn rfl (by decide)))
    have hey193 : Fvy28 25 = F 25 := ((hFvy28 25 (by decide)).trans (fn rfl (by decide)))
    have hey194 : Fvy28 27 = F 27 := ((hFvy28 27 (by decide)).trans (fn rfl (by decide)))
    have hey195 : Fvy28 28 = F 28 := ((hFvy28 28 (by decide)).trans (fn rfl (by decide)))
    have hey196 : Fvy28 29 = F 29 := ((hFvy28 29 (by decide)).trans (fn rfl (by decide)))
    have hKy197 : okF Fvy28 := by unfold okF; omega
    have hMy198 : okMr cs ad gvy28 i (x + 1) Fvy28 r := okMr.upd hM hcvy28 hKy197 (fun f a => hFy183 f (by omega)) hgy182 (hA.mono (by omega)) (fun j a b => by
        exact Or.inl (by rw [hfvy28 _ (by omega)]; rw [egy25, va_up_ne _ _ (by omega)]))
    have h23 : Fvy28 23 = F 23 := ((hFvy28 23 (by decide)).trans (fn rfl (by decide)))
    exact z_iret C hr hlk dX10_nearest_14 (by decide) (by decide) ⟨0, rfl, rfl, rfl, by omega, ⟨_, _, hMy198, by omega⟩, fun j j1 => by rw [hfvy28 _ (by omega)]; rw [egy25, va_up_ne _ _ (by omega)]⟩

set_option maxRecDepth 100000 in
set_option maxHeartbeats 4000000 in
theorem c_X10_nearest_b (l : Launch) (D : va_G) (A : Nat → Prop) (cs : Nat → ClassId) (tt : Nat) (N : Nat) (ad : Nat → Nat) (g : Nat → va_E) (i : Nat) (hN : i + 30 ≤ N) (x : Int) (hx : 0 ≤ x ∧ x ≤ 512) (F r : Nat → Int) (hM : okMr cs ad g i x F r) (z : Int) (hz : -2147483648 ≤ z ∧ z ≤ 2147483647) (ho0 : z < 0 ∨ 5 < z) : zM l yX10_nearest cX10_nearest 6 (some .int) ({ frames := 3, cells := 0, slots := 0, locals := 180 } : Room) D A cs tt N ad g [.ref (ad i), .int (zI (z))] (rI0 N ad fun q g' => (-2147483648 ≤ q ∧ q ≤ 2147483647) ∧ (∃ F' r' : Nat → Int, okMr cs ad g' i (x + 1) F' r' ∧ F' 23 = F 23) ∧ ∀ j, j < i ∨ i + 30 ≤ j → g' j = g j) := by
  obtain ⟨hg, ⟨⟨e13, e14, e25, e27, e29⟩, k15, k16, k17, k18, k19, k20, k23⟩, hRD, hTx, hA, st, op, ai, fa, mu, tb, ns, nh, nd, rf, pi, tp, te, ki, li, ok1, ok2, fo, dd, dps, ⟨ha1, ha2, ha3, ha4, ha5, ha6, ha7, ha8, ha9, ha10, ha11, ha12, ha13, ha14, ha15, ha24, ha25, ha26, ha27, ha28, ha29⟩, hEv, hPt, hns, htp⟩ := id hM
  obtain ⟨-, hop, hai, hfa, hT, hT1⟩ := id hEv
  have hay1 : zAt ad (i) (ad i) := rfl
  have hay2 : zAt ad (i + 1) (ad (i + 1)) := rfl
  have hay3 : zAt ad (i + 2) (ad (i + 2)) := rfl
  have hay4 : zAt ad (i + 3) (ad (i + 3)) := rfl
  have hay5 : zAt ad (i + 4) (ad (i + 4)) := rfl
  have hay6 : zAt ad (i + 5) (ad (i + 5)) := rfl
  have hay7 : zAt ad (i + 6) (ad (i + 6)) := rfl
  have hay8 : zAt ad (i + 7) (ad (i + 7)) := rfl
  have hay9 : zAt ad (i + 8) (ad (i + 8)) := rfl
  have hay10 : zAt ad (i + 9) (ad (i + 9)) := rfl
  have hay11 : zAt ad (i + 10) (ad (i + 10)) := rfl
  have hay12 : zAt ad (i + 11) (ad (i + 11)) := rfl
  have hay13 : zAt ad (i + 12) (ad (i + 12)) := rfl
  have hay14 : zAt ad (i + 13) (ad (i + 13)) := rfl
  have hay15 : zAt ad (i + 14) (ad (i + 14)) := rfl
  have hay16 : zAt ad (i + 15) (ad (i + 15)) := rfl
  have hay17 : zAt ad (i + 24) (ad (i + 24)) := rfl
  have hay18 : zAt ad (i + 25) (ad (i + 25)) := rfl
  have hay19 : zAt ad (i + 26) (ad (i + 26)) := rfl
  have hay20 : zAt ad (i + 27) (ad (i + 27)) := rfl
  have hay21 : zAt ad (i + 28) (ad (i + 28)) := rfl
  have hay22 : zAt ad (i + 29) (ad (i + 29)) := rfl
  obtain ⟨⟨hsyy23, htyy23, hnyy23, hpyy23⟩, hlyy23⟩ := okA.at0 hA
  simp only [Nat.zero_add] at hsyy23 hnyy23 hpyy23
  have hmn : ∀ s, s < 4 → 0 ≤ r (6 + 86 * s) ∧ r (6 + 86 * s) ≤ 12 := fun s hs => (hsyy23 s hs).1
  have h5 : 0 ≤ r 5 ∧ r 5 ≤ 6 := hpyy23
  refine z_of (by decide) (Nat.le_of_ble_eq_true rfl) ?_
  intro pZ eZ sZ mZ below meth cZ C hr hlk hnm
  refine z_lv (lv' := [(0, .ref (ad i)), (1, .int (zI (z)))]) [0, 1] rfl ?_
  refine z_aload_n C 0 dX10_nearest_0 rfl ?_
  refine z_iconst (z := 0) C dX10_nearest_1 rfl ?_
  refine z_put (fs' := mF ad (i) (uZ F 12 (0))) C (by omega) hay1 hg tyX10 tyX10_ok nmX10 rfl inA_X10 12 (by decide) q_1471 rfl rfl rfl rfl (Nat.le_of_ble_eq_true rfl) rfl dX10_nearest_2 (fun gy24 egy25 => ?_)
  have hgy26 := up_s egy25
  refine z_aload_n C 0 dX10_nearest_5 rfl ?_
  refine z_iload_n C 1 dX10_nearest_6 rfl ?_
  have hgy27 := up_n egy25 ha1 (ne_o (i := i) (c := 1) (d := 0) rfl)
  have hey29 : (uZ F 12 (0)) 12 = 0 := (uZ_s _ _ _)
  refine z_cV (As := [.int (zI (z))]) (rest := []) (ci := 12) C (c_X10_isPit l D A cs tt N ad _ i hN _ hgy26 _ hgy27 (by omega) h5 (z) (by omega)) (by omega) hay1 hgy26 rfl rfl mv_yX10_isPit q_2027 hd_yX10_isPit (by decide) (Nat.le_of_ble_eq_true rfl) (by decide) dX10_nearest_7 rfl (kI0 fun vy28 gvy28 hvy28 => ?_)
  obtain ⟨hrvy28, ⟨Fvy28, hcvy28, htvy28, hFvy28⟩, hfvy28⟩ := hvy28
  obtain rfl : vy28 = 0 := by omega
  refine z_if_ne (tgt := 15) C dX10_nearest_10 (by decide) (by omega) (fun h => absurd h (by omega)) (fun _ => ?_)
  refine z_iconst (z := 0) C dX10_nearest_13 rfl ?_
  have hgy30 := (hfvy28 (i + 1) (ne_o (i := i) (c := 1) (d := 0) rfl)).trans hgy27
  have hFy31 : ∀ f, f ≠ 12 → Fvy28 f = F f := fun f n12 => ((hFvy28 f n12).trans ((uZ_n _ _ n12).trans rfl))
  have hey32 : Fvy28 13 = F 13 := ((hFvy28 13 (by decide)).trans (fn rfl (by decide)))
  have hey33 : Fvy28 14 = F 14 := ((hFvy28 14 (by decide)).trans (fn rfl (by decide)))
  have hey34 : Fvy28 15 = F 15 := ((hFvy28 15 (by decide)).trans (fn rfl (by decide)))
  have hey35 : Fvy28 16 = F 16 := ((hFvy28 16 (by decide)).trans (fn rfl (by decide)))
  have hey36 : Fvy28 17 = F 17 := ((hFvy28 17 (by decide)).trans (fn rfl (by decide)))
  have hey37 : Fvy28 18 = F 18 := ((hFvy28 18 (by decide)).trans (fn rfl (by decide)))
  have hey38 : Fvy28 19 = F 19 := ((hFvy28 19 (by decide)).trans (fn rfl (by decide)))
  have hey39 : Fvy28 20 = F 20 := ((hFvy28 20 (by decide)).trans (fn rfl (by decide)))
  have hey40 : Fvy28 23 = F 23 := ((hFvy28 23 (by decide)).trans (fn rfl (by decide)))
  have hey41 : Fvy28 25 = F 25 := ((hFvy28 25 (by decide)).trans (fn rfl (by decide)))
  have hey42 : Fvy28 27 = F 27 := ((hFvy28 27 (by decide)).trans (fn rfl (by decide)))
  have hey43 : Fvy28 28 = F 28 := ((hFvy28 28 (by decide)).trans (fn rfl (by decide)))
  have hey44 : Fvy28 29 = F 29 := ((hFvy28 29 (by decide)).trans (fn rfl (by decide)))
  have hKy45 : okF Fvy28 := by unfold okF; omega
  have hMy46 : okMr cs ad gvy28 i (x + 1) Fvy28 r := okMr.upd hM hcvy28 hKy45 (fun f a => hFy31 f (by omega)) hgy30 (hA.mono (by omega)) (fun j a b => by
      exact Or.inl (by rw [hfvy28 _ (by omega)]; rw [egy25, va_up_ne _ _ (by omega)]))
  have h23 : Fvy28 23 = F 23 := ((hFvy28 23 (by decide)).trans (fn rfl (by decide)))
  exact z_iret C hr hlk dX10_nearest_14 (by decide) (by decide) ⟨0, rfl, rfl, rfl, by omega, ⟨_, _, hMy46, by omega⟩, fun j j1 => by rw [hfvy28 _ (by omega)]; rw [egy25, va_up_ne _ _ (by omega)]⟩

set_option maxRecDepth 100000 in
set_option maxHeartbeats 4000000 in
theorem c_X10_nearest (l : Launch) (D : va_G) (A : Nat → Prop) (cs : Nat → ClassId) (tt : Nat) (N : Nat) (ad : Nat → Nat) (g : Nat → va_E) (i : Nat) (hN : i + 30 ≤ N) (x : Int) (hx : 0 ≤ x ∧ x ≤ 512) (F r : Nat → Int) (hM : okMr cs ad g i x F r) (z : Int) (hz : -2147483648 ≤ z ∧ z ≤ 2147483647) : zM l yX10_nearest cX10_nearest 6 (some .int) ({ frames := 3, cells := 0, slots := 0, locals := 180 } : Room) D A cs tt N ad g [.ref (ad i), .int (zI (z))] (rI0 N ad fun q g' => (-2147483648 ≤ q ∧ q ≤ 2147483647) ∧ (∃ F' r' : Nat → Int, okMr cs ad g' i (x + 1) F' r' ∧ F' 23 = F 23) ∧ ∀ j, j < i ∨ i + 30 ≤ j → g' j = g j) := by
  by_cases hk0 : 0 ≤ z ∧ z ≤ 5
  · obtain ⟨n0, rfl⟩ : ∃ n : Nat, z = (n : Int) := ⟨z.toNat, by omega⟩
    exact c_X10_nearest_a l D A cs tt N ad g i hN x hx F r hM n0 (by omega) 
  · exact c_X10_nearest_b l D A cs tt N ad g i hN x hx F r hM z hz (by omega)

