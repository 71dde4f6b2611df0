section
-- 99o.refimg.lean.txt
set_option maxRecDepth 100000 in
set_option maxHeartbeats 4000000 in
theorem c_X10_pit_a (l : Launch) (D : va_G) (A : Nat → Prop) (cs : Nat → ClassId) (tt : Nat) (N : Nat) (ad : Nat → Nat) (g : Nat → va_E) (i : Nat) (hN : i + 30 ≤ N) (x : Int) (hx : 0 ≤ x ∧ x ≤ 512) (F r : Nat → Int) {st op ai fa mu tb tp : Nat → Int} (hM : okMr cs ad g i x F r st op ai fa mu tb tp) (n : Nat) (hn4 : n < 4) : zM l yX10_pit cX10_pit 4 (some .int) ({ frames := 3, cells := 0, slots := 0, locals := 180 } : Room) D A cs tt N ad g [.ref (ad i), .int (zI ((n : Int)))] (rI0 N ad fun q g' => (-2147483648 ≤ q ∧ q ≤ 2147483647) ∧ (∃ F' r' : Nat → Int, okMr cs ad g' i (x + 1) F' r' st op ai fa mu tb tp ∧ (F' 13 = F 13 ∧ F' 14 = F 14 ∧ F' 17 = F 17 ∧ F' 20 = F 20 ∧ F' 21 = F 21 ∧ F' 23 = F 23 ∧ F' 24 = F 24)) ∧ ∀ j, j < i ∨ i + 30 ≤ j → g' j = g j) := by
  obtain ⟨hg, ⟨⟨e13, e14, e25, e27, e29⟩, k15, k16, k17, k18, k19, k20, k23, k21⟩, hRD, hTx, hA, ns, nh, nd, rf, pi, te, ki, li, ok1, ok2, fo, dd, dps, ⟨ha1, ha2, ha3, ha4, ha5, ha6, ha7, ha8, ha9, ha10, ha11, ha12, ha13, ha14, ha15, ha24, ha25, ha26, ha27, ha28, ha29⟩, hEv, hPt, hns, htp⟩ := id hM
  obtain ⟨-, hop, hai, hfa, hT, hT1⟩ := id hEv
  have hay1 : zAt ad (i) (ad i) := rfl
  have hay2 : zAt ad (i + 1) (ad (i + 1)) := rfl
  have hay3 : zAt ad (i + 2) (ad (i + 2)) := rfl
  have hay4 : zAt ad (i + 3) (ad (i + 3)) := rfl
  have hay5 : zAt ad (i + 4) (ad (i + 4)) := rfl
  have hay6 : zAt ad (i + 5) (ad (i + 5)) := rfl
  have hay7 : zAt ad (i + 6) (ad (i + 6)) := rfl
  have hay8 : zAt ad (i + 7) (ad (i + 7)) := rfl
  have hay9 : zAt ad (i + 8) (ad (i + 8)) := rfl
  have hay10 : zAt ad (i + 9) (ad (i + 9)) := rfl
  have hay11 : zAt ad (i + 10) (ad (i + 10)) := rfl
  have hay12 : zAt ad (i + 11) (ad (i + 11)) := rfl
  have hay13 : zAt ad (i + 12) (ad (i + 12)) := rfl
  have hay14 : zAt ad (i + 13) (ad (i + 13)) := rfl
  have hay15 : zAt ad (i + 14) (ad (i + 14)) := rfl
  have hay16 : zAt ad (i + 15) (ad (i + 15)) := rfl
  have hay17 : zAt ad (i + 24) (ad (i + 24)) := rfl
  have hay18 : zAt ad (i + 25) (ad (i + 25)) := rfl
  have hay19 : zAt ad (i + 26) (ad (i + 26)) := rfl
  have hay20 : zAt ad (i + 27) (ad (i + 27)) := rfl
  have hay21 : zAt ad (i + 28) (ad (i + 28)) := rfl
  have hay22 : zAt ad (i + 29) (ad (i + 29)) := rfl
  obtain ⟨⟨hsyy23, htyy23, hnyy23, hpyy23⟩, hlyy23⟩ := okA.at0 hA
  simp only [Nat.zero_add] at hsyy23 hnyy23 hpyy23
  have hmn : ∀ s, s < 4 → 0 ≤ r (6 + 86 * s) ∧ r (6 + 86 * s) ≤ 12 := fun s hs => (hsyy23 s hs).1
  have h5 : 0 ≤ r 5 ∧ r 5 ≤ 6 := hpyy23
  refine z_of (by decide) (Nat.le_of_ble_eq_true rfl) ?_
  intro pZ eZ sZ mZ below meth cZ C hr hlk hnm
  refine z_lv (lv' := [(0, .ref (ad i)), (1, .int (zI ((n : Int))))]) [0, 1] rfl ?_
  refine z_aload_n C 0 dX10_pit_0 rfl ?_
  refine z_iconst (z := 0) C dX10_pit_1 rfl ?_
  refine z_put (fs' := mF ad (i) (uZ F 12 (0))) C (lt_A0 hN rfl) hay1 hg tyX10 tyX10_ok nmX10 rfl inA_X10 12 (by decide) q_1471 rfl rfl rfl rfl (Nat.le_of_ble_eq_true rfl) rfl dX10_pit_2 (fun gy24 egy25 => ?_)
  have hgy26 := up_s egy25
  refine z_iload_n C 1 dX10_pit_5 rfl ?_
  refine z_iconst (z := 0) C dX10_pit_6 rfl ?_
  refine z_aload_n C 0 dX10_pit_7 rfl ?_
  refine z_get (v := .int (zI (F 13))) C (lt_A0 hN rfl) hay1 hgy26 rfl inA_X10 13 (by decide) q_1472 rfl (fv (F := (uZ F 12 (0))) (f := 13) (fn rfl (by decide))) dX10_pit_8 ?_
  refine z_iconst (z := 1) C dX10_pit_11 rfl ?_
  refine z_isub C dX10_pit_12 ?_
  refine z_cS (As := [.int (zI ((n : Int))), .int (zI (0)), .int (zI ((F 13) - 1))]) (rest := []) C (c_X10_within l D A cs tt N ad _ ((n : Int)) (by omega) (0) (by omega) ((F 13) - 1) (by omega)) ms_yX10_within q_1686 hd_yX10_within (by decide) (Nat.le_of_ble_eq_true rfl) (by decide) dX10_pit_13 rfl (kI0 fun vy27 gvy27 hvy27 => ?_)
  obtain ⟨hvy27, rfl⟩ := hvy27
  rcases hvy27 with ⟨rfl, hxvy27⟩ | ⟨rfl, hxvy27⟩
  · refine z_if_eq (tgt := 30) C dX10_pit_16 (by decide) (by omega) (fun h => absurd h (by omega)) (fun _ => ?_)
    refine z_aload_n C 0 dX10_pit_19 rfl ?_
    refine z_get (v := .ref (ad (i + 1))) C (lt_A0 hN rfl) hay1 hgy26 rfl inA_X10 0 (by decide) q_1459 rfl rfl dX10_pit_20 ?_
    refine z_iconst (z := 5) C dX10_pit_23 rfl ?_
    have hgy28 := up_n egy25 ha1 (ne_o (i := i) (c := 1) (d := 0) rfl)
    refine z_iald C (lt_A (c := 1) hN rfl) hay2 hgy28 (5) (by omega) (by omega) (by decide) dX10_pit_24 ?_
    refine z_bipush (z := 6) C dX10_pit_25 (by decide) ?_
    refine z_icmp_ne (tgt := 36) C dX10_pit_27 (by decide) (by omega) (by omega) (fun hby29 => ?_) (fun hby29 => ?_)
    · refine z_aload_n C 0 dX10_pit_36 rfl ?_
      have hey31 : (uZ F 12 (0)) 15 = F 15 := (fn rfl (by decide))
      have hey32 : (uZ F 12 (0)) 16 = F 16 := (fn rfl (by decide))
      refine z_cV (As := []) (rest := []) (ci := 12) C (c_X10_keeps l D A cs tt N ad _ i hN _ hgy26 _ hgy28 (x) hA (by omega) (by omega)) (lt_A0 hN rfl) hay1 hgy26 rfl rfl mv_yX10_keeps q_1870 hd_yX10_keeps (by decide) (Nat.le_of_ble_eq_true rfl) (by decide) dX10_pit_37 rfl (kV0 fun gvy30 hvy30 => ?_)
      obtain ⟨⟨Fvy30, hcvy30, hbvy30, hFvy30⟩, ⟨rvy30, hdvy30, hAvy30, hyvy30⟩, hfvy30⟩ := hvy30
      have hk0vy30 : rvy30 0 = r 0 := hyvy30 0 (by omega)
      have hk1vy30 : rvy30 1 = r 1 := hyvy30 1 (by omega)
      have hk5vy30 : rvy30 5 = r 5 := hyvy30 5 (by omega)
      obtain ⟨⟨hsyy33, htyy33, hnyy33, hpyy33⟩, hlyy33⟩ := okA.at0 hAvy30
      simp only [Nat.zero_add] at hsyy33 hnyy33 hpyy33
      have hmn : ∀ s, s < 4 → 0 ≤ rvy30 (6 + 86 * s) ∧ rvy30 (6 + 86 * s) ≤ 12 := fun s hs => (hsyy33 s hs).1
      have h5 : 0 ≤ rvy30 5 ∧ rvy30 5 ≤ 6 := hpyy33
      refine z_bipush (z := 90) C dX10_pit_40 (by decide) ?_
      refine z_aload_n C 0 dX10_pit_42 rfl ?_
      refine z_get (v := .ref (ad (i + 1))) C (lt_A0 hN rfl) hay1 hcvy30 rfl inA_X10 0 (by decide) q_1459 rfl rfl dX10_pit_43 ?_
      refine z_iconst (z := 5) C dX10_pit_46 rfl ?_
      refine z_iald C (lt_A (c := 1) hN rfl) hay2 hdvy30 (5) (by omega) (by omega) (by decide) dX10_pit_47 ?_
      rw [show rvy30 (5) = r (5) from (hyvy30 _ (by omega)).trans (rfl)]
      refine z_imul C dX10_pit_48 ?_
      obtain ⟨kp, hkp⟩ : ∃ n9 : Nat, r (5) = (n9 : Int) := ⟨(r (5)).toNat, by omega⟩
      obtain ⟨kq, hkq⟩ : ∃ n9 : Nat, 90 * kp = n9 := ⟨_, rfl⟩
      rw [show 90 * (r (5)) = (kq : Int) by omega]
      refine z_istore_n (lv' := [(2, .int (zI ((kq : Int)))), (0, .ref (ad i)), (1, .int (zI ((n : Int))))]) C dX10_pit_49 rfl (by decide) rfl ?_
      refine z_aload_n C 1 dX10_pit_50 rfl ?_
      refine z_get (v := .ref (ad (i + 12))) C (lt_A0 hN rfl) hay1 hcvy30 rfl inA_X10 11 (by decide) q_1470 rfl rfl dX10_pit_51 ?_
      refine z_iload_n C 0 dX10_pit_54 rfl ?_
      refine z_iload_n C 2 dX10_pit_55 rfl ?_
      have hgy34 := up_n egy25 ha12 (ne_o (i := i) (c := 12) (d := 0) rfl)
      have hgy35 := (hfvy30 (i + 12) (ne_o (i := i) (c := 12) (d := 0) rfl) (ne_o (i := i) (c := 12) (d := 1) rfl)).trans hgy34
      refine z_iast C (lt_A (c := 12) hN rfl) hay13 hgy35 (kq) (by omega) (by omega) (by decide) dX10_pit_56 (fun gy36 egy37 => ?_)
      have hgy38 := up_s egy37
      obtain ⟨ry39, hvy40⟩ : ∃ rZ9 : Nat → Int, rZ9 = uZ pi (kq) ((n : Int)) := ⟨_, rfl⟩
      rw [← hvy40] at hgy38
      refine z_aload_n C 1 dX10_pit_57 rfl ?_
      have hgy41 := up_n egy37 hcvy30 (ne_o (i := i) (c := 0) (d := 12) rfl)
      refine z_get (v := .ref (ad (i + 12))) C (lt_A0 hN rfl) hay1 hgy41 rfl inA_X10 11 (by decide) q_1470 rfl rfl dX10_pit_58 ?_
      refine z_iload_n C 0 dX10_pit_61 rfl ?_
      refine z_iconst (z := 1) C dX10_pit_62 rfl ?_
      refine z_iadd C dX10_pit_63 ?_
      refine z_aload_n C 1 dX10_pit_64 rfl ?_
      refine z_get (v := .ref (ad (i + 1))) C (lt_A0 hN rfl) hay1 hgy41 rfl inA_X10 0 (by decide) q_1459 rfl rfl dX10_pit_65 ?_
      refine z_iconst (z := 0) C dX10_pit_68 rfl ?_
      have hgy42 := up_n egy37 hdvy30 (ne_o (i := i) (c := 1) (d := 12) rfl)
      refine z_iald C (lt_A (c := 1) hN rfl) hay2 hgy42 (0) (by omega) (by omega) (by decide) dX10_pit_69 ?_
      rw [show rvy30 (0) = r (0) from (hyvy30 _ (by omega)).trans (rfl)]
      refine z_iast C (lt_A (c := 12) hN rfl) hay13 hgy38 (kq + 1) (by omega) (by omega) (by decide) dX10_pit_70 (fun gy43 egy44 => ?_)
      have hgy45 := up_s egy44
      obtain ⟨ry46, hvy47⟩ : ∃ rZ9 : Nat → Int, rZ9 = uZ ry39 (kq + 1) (r (0)) := ⟨_, rfl⟩
      rw [← hvy47] at hgy45
      refine z_aload_n C 1 dX10_pit_71 rfl ?_
      have hgy48 := up_n egy44 hgy41 (ne_o (i := i) (c := 0) (d := 12) rfl)
      refine z_get (v := .ref (ad (i + 12))) C (lt_A0 hN rfl) hay1 hgy48 rfl inA_X10 11 (by decide) q_1470 rfl rfl dX10_pit_72 ?_
      refine z_iload_n C 0 dX10_pit_75 rfl ?_
      refine z_iconst (z := 2) C dX10_pit_76 rfl ?_
      refine z_iadd C dX10_pit_77 ?_
      refine z_aload_n C 1 dX10_pit_78 rfl ?_
      refine z_iconst (z := 0) C dX10_pit_79 rfl ?_
      refine z_iload_n C 2 dX10_pit_80 rfl ?_
      obtain ⟨py49, hpy49⟩ : ∃ p9 : Nat, 0 + 6 + 86 * n = p9 := ⟨_, rfl⟩
      have hmyy50 := ((okA.at0 hAvy30).1.1 n (by omega)).1
      rw [hpy49] at hmyy50
      rw [show rvy30 (py49) = r (py49) from (hyvy30 _ (by omega)).trans (rfl)] at hmyy50
      have hgy51 := up_n egy44 hgy42 (ne_o (i := i) (c := 1) (d := 12) rfl)
      refine z_cV (As := [.int (zI (0)), .int (zI ((n : Int)))]) (rest := [.int (zI (((kq : Int)) + 2)), .ref (ad (i + 12))]) (ci := 12) C (c_X10_many l D A cs tt N ad _ i hN _ hgy48 _ hgy51 0 n py49 hpy49 (by omega) (by omega)) (lt_A0 hN rfl) hay1 hgy48 rfl rfl mv_yX10_many q_1733 hd_yX10_many (by decide) (Nat.le_of_ble_eq_true rfl) (by decide) dX10_pit_81 rfl (kI0 fun vy52 gvy52 hvy52 => ?_)
      obtain ⟨rfl, rfl⟩ := hvy52
      rw [show rvy30 (py49) = r (py49) from (hyvy30 _ (by omega)).trans (rfl)]
      refine z_iast C (lt_A (c := 12) hN rfl) hay13 hgy45 (kq + 2) (by omega) (by omega) (by decide) dX10_pit_84 (fun gy53 egy54 => ?_)
      have hgy55 := up_s egy54
      obtain ⟨ry56, hvy57⟩ : ∃ rZ9 : Nat → Int, rZ9 = uZ ry46 (kq + 2) (r (py49)) := ⟨_, rfl⟩
      rw [← hvy57] at hgy55
      refine z_iconst (z := 0) C dX10_pit_85 rfl ?_
      refine z_istore_n (lv' := [(3, .int (zI (0))), (2, .int (zI ((kq : Int)))), (0, .ref (ad i)), (1, .int (zI ((n : Int))))]) C dX10_pit_86 rfl (by decide) rfl ?_
      have hSy58 := ((okA.at0 hAvy30).1.1 n (by omega)).of (p2 := py49) (by omega)
      obtain ⟨b1hSy58, b2hSy58, b3hSy58, b4hSy58⟩ := mBb (t := rvy30 0 + x) (by omega)
      have hmky59 := hSy58.1
      have hfry60 : ∀ j, j ≠ kq + 2 → j ≠ kq + 1 → j ≠ kq → ry56 j = pi j := fun j n0 n1 n2 => (congrFun hvy57 _).trans ((uZ_n _ _ n0).trans ((congrFun hvy47 _).trans ((uZ_n _ _ n1).trans ((congrFun hvy40 _).trans ((uZ_n _ _ n2).trans (rfl))))))
      have hwy61 : ry56 (kq) = (n : Int) := (congrFun hvy57 _).trans ((uZ_n _ _ (by omega)).trans ((congrFun hvy47 _).trans ((uZ_n _ _ (by omega)).trans ((congrFun hvy40 _).trans (uZ_s _ _ _)))))
      have hwy62 : ry56 (kq + 2) = r (py49) := (congrFun hvy57 _).trans (uZ_s _ _ _)
      have hmn9 : rvy30 py49 = r py49 := (hyvy30 _ (by omega)).trans (rfl)
      have lpw : ∀ (n9 : Nat) (kk : Int) (p9 : Nat → Int) (g1 : Nat → va_E), (85 - kk).toNat = n9 → (g1 (i + 12) = iA cs 1080 p9) → (∀ j, j ≠ i + 12 → g1 j = gy53 j) → (∀ j, j < kq ∨ kq + 90 ≤ j → p9 j = pi j) → (p9 kq = (n : Int)) → (p9 (kq + 2) = rvy30 py49) → (∀ k : Nat, (k : Int) < kk → p9 (kq + 3 + k) = rvy30 (py49 + 2 + k)) → (0 ≤ kk ∧ kk ≤ 84) → zV pZ l eZ ({ frames := 3, cells := 0, slots := 0, locals := 180 } : Room) sZ mZ ([.ref (ad i), .int (zI ((n : Int)))] : List Value).toArray below meth cZ (MQ below (zPost D A (rI0 N ad fun q g' => (-2147483648 ≤ q ∧ q ≤ 2147483647) ∧ (∃ F' r' : Nat → Int, okMr cs ad g' i (x + 1) F' r' st op ai fa mu tb tp ∧ (F' 13 = F 13 ∧ F' 14 = F 14 ∧ F' 17 = F 17 ∧ F' 20 = F 20 ∧ F' 21 = F 21 ∧ F' 23 = F 23 ∧ F' 24 = F 24)) ∧ ∀ j, j < i ∨ i + 30 ≤ j → g' j = g j)) ([.ref (ad i), .int (zI ((n : Int)))] : List Value).toArray sZ ({ frames := 3, cells := 0, slots := 0, locals := 180 } : Room).cells ({ frames := 3, cells := 0, slots := 0, locals := 180 } : Room).slots A) D A 4 (N) ad g1 (0) (0) 87 [(0, .ref (ad i)), (1, .int (zI ((n : Int)))), (2, .int (zI ((kq : Int)))), (3, .int (zI (kk)))] [] := by
        intro n9
        induction n9 using Nat.strongRecOn with
        | ind n9 ih_lpw =>
          intro kk p9 g1 hm9 f2 f3w fA fB fC fk hvk
          obtain ⟨nk, hnk⟩ : ∃ n9 : Nat, kk = (n9 : Int) := ⟨kk.toNat, by omega⟩
          obtain ⟨nj, hnj⟩ : ∃ n9 : Nat, py49 + 2 + nk = n9 := ⟨_, rfl⟩
          obtain ⟨np, hnp⟩ : ∃ n9 : Nat, kq + 3 + nk = n9 := ⟨_, rfl⟩
          have hPt9 : kk = 84 → okPt p9 := fun e => okPt.put (kp := kp) (p := py49) (s := n) (r := rvy30) hPt (by omega) (by omega) hSy58 (by omega) (fun j a => fA j (by omega)) (by rw [show 90 * kp = kq by omega]; exact fB) (by rw [show 90 * kp = kq by omega]; exact fC) (fun m hm => by rw [show 90 * kp = kq by omega]; exact fk m (by omega))
          refine z_iload_n C 3 dX10_pit_87 rfl ?_
          refine z_bipush (z := 84) C dX10_pit_88 (by decide) ?_
          refine z_icmp_ge (tgt := 125) C dX10_pit_90 (by decide) (by omega) (by omega) (fun hby63 => ?_) (fun hby63 => ?_)
          · refine z_aload_n C 0 dX10_pit_125 rfl ?_
            have hgy64 := up_n egy54 hgy48 (ne_o (i := i) (c := 0) (d := 12) rfl)
            have hgy65 := (f3w (i) (ne_o (i := i) (c := 0) (d := 12) rfl)).trans hgy64
            refine z_get (v := .ref (ad (i + 1))) C (lt_A0 hN rfl) hay1 hgy65 rfl inA_X10 0 (by decide) q_1459 rfl rfl dX10_pit_126 ?_
            refine z_iconst (z := 5) C dX10_pit_129 rfl ?_
            refine z_dup2 C dX10_pit_130 rfl rfl ?_
            have hgy66 := up_n egy54 hgy51 (ne_o (i := i) (c := 1) (d := 12) rfl)
            have hgy67 := (f3w (i + 1) (ne_o (i := i) (c := 1) (d := 12) rfl)).trans hgy66
            refine z_iald C (lt_A (c := 1) hN rfl) hay2 hgy67 (5) (by omega) (by omega) (by decide) dX10_pit_131 ?_
            rw [show rvy30 (5) = r (5) from (hyvy30 _ (by omega)).trans (rfl)]
            refine z_iconst (z := 1) C dX10_pit_132 rfl ?_
            refine z_iadd C dX10_pit_133 ?_
            refine z_iast C (lt_A (c := 1) hN rfl) hay2 hgy67 (5) (by omega) (by omega) (by decide) dX10_pit_134 (fun gy68 egy69 => ?_)
            have hgy70 := up_s egy69
            obtain ⟨ry71, hvy72⟩ : ∃ rZ9 : Nat → Int, rZ9 = uZ rvy30 (5) ((r (5)) + 1) := ⟨_, rfl⟩
            rw [← hvy72] at hgy70
            refine z_aload_n C 0 dX10_pit_135 rfl ?_
            have hgy73 := up_n egy69 hgy65 (ne_o (i := i) (c := 0) (d := 1) rfl)
            refine z_get (v := .ref (ad (i + 1))) C (lt_A0 hN rfl) hay1 hgy73 rfl inA_X10 0 (by decide) q_1459 rfl rfl dX10_pit_136 ?_
            refine z_iconst (z := 5) C dX10_pit_139 rfl ?_
            refine z_iald C (lt_A (c := 1) hN rfl) hay2 hgy70 (5) (by omega) (by omega) (by decide) dX10_pit_140 ?_
            rw [show ry71 (5) = (r (5)) + 1 from (congrFun hvy72 _).trans (uZ_s _ _ _)]
            have hfry74 : ∀ j, j ≠ 5 → ry71 j = rvy30 j := fun j n0 => (congrFun hvy72 _).trans ((uZ_n _ _ n0).trans (rfl))
            have hwy75 : ry71 (5) = (r (5)) + 1 := (congrFun hvy72 _).trans (uZ_s _ _ _)
            have hwy76 : ry71 (0) = r (0) := (congrFun hvy72 _).trans ((uZ_n _ _ (by omega)).trans ((hyvy30 _ (by omega)).trans (rfl)))
            have hP10 := hPt9 (by omega)
            have hr5 : rvy30 5 = r 5 := (hyvy30 _ (by omega)).trans (rfl)
            have hr0 : ry71 0 = rvy30 0 := hfry74 0 (by omega)
            have hW5 : okW ry71 0 (x) := okW.five (okA.at0 hAvy30).1 (fun j a => hfry74 j (by omega)) (by show 0 ≤ ry71 5 ∧ ry71 5 ≤ 6; omega)
            have hA10 : okA ry71 (x) := okA.first hAvy30 (Int.le_refl _) (fun j a => hfry74 j (by omega)) hW5 (by omega)
            have hFy77 : ∀ f, f ≠ 12 → f ≠ 15 → f ≠ 16 → Fvy30 f = F f := fun f n12 n15 n16 => ((hFvy30 f n15 n16).trans ((uZ_n _ _ n12).trans rfl))
            have hey78 : Fvy30 13 = F 13 := ((hFvy30 13 (by decide) (by decide)).trans (fn rfl (by decide)))
            have hey79 : Fvy30 14 = F 14 := ((hFvy30 14 (by decide) (by decide)).trans (fn rfl (by decide)))
            have hey80 : Fvy30 15 = Fvy30 15 := rfl
            have hey81 : Fvy30 16 = Fvy30 16 := rfl
            have hey82 : Fvy30 17 = F 17 := ((hFvy30 17 (by decide) (by decide)).trans (fn rfl (by decide)))
            have hey83 : Fvy30 18 = F 18 := ((hFvy30 18 (by decide) (by decide)).trans (fn rfl (by decide)))
            have hey84 : Fvy30 19 = F 19 := ((hFvy30 19 (by decide) (by decide)).trans (fn rfl (by decide)))
            have hey85 : Fvy30 20 = F 20 := ((hFvy30 20 (by decide) (by decide)).trans (fn rfl (by decide)))
            have hey86 : Fvy30 21 = F 21 := ((hFvy30 21 (by decide) (by decide)).trans (fn rfl (by decide)))
            have hey87 : Fvy30 23 = F 23 := ((hFvy30 23 (by decide) (by decide)).trans (fn rfl (by decide)))
            have hey88 : Fvy30 25 = F 25 := ((hFvy30 25 (by decide) (by decide)).trans (fn rfl (by decide)))
            have hey89 : Fvy30 27 = F 27 := ((hFvy30 27 (by decide) (by decide)).trans (fn rfl (by decide)))
            have hey90 : Fvy30 28 = F 28 := ((hFvy30 28 (by decide) (by decide)).trans (fn rfl (by decide)))
            have hey91 : Fvy30 29 = F 29 := ((hFvy30 29 (by decide) (by decide)).trans (fn rfl (by decide)))
            have hKy92 : okF Fvy30 := by unfold okF; omega
            have hgy94 := up_n egy69 f2 (ne_o (i := i) (c := 12) (d := 1) rfl)
            have hMy93 : okMr cs ad gy68 i (x + 1) Fvy30 ry71 st op ai fa mu tb tp := okMr.upd hM hgy73 hKy92 (fun f a => hFy77 f (by omega) (by omega) (by omega)) hgy70 (hA10.mono (by omega)) (fun j a b => by
                by_cases e0 : j = i + 12
                · exact Or.inr ⟨12, (p9), e0, (Or.inr (Or.inr ⟨rfl, hP10⟩)), by rw [e0]; exact hgy94⟩
                exact Or.inl (by rw [egy69, va_up_ne _ _ (by omega)]; rw [f3w _ (by omega)]; rw [egy54, va_up_ne _ _ (by omega)]; rw [egy44, va_up_ne _ _ (by omega)]; rw [egy37, va_up_ne _ _ (by omega)]; rw [hfvy30 _ (by omega) (by omega)]; rw [egy25, va_up_ne _ _ (by omega)]))
            have hkpy95 : Fvy30 13 = F 13 := ((hFvy30 13 (by decide) (by decide)).trans (fn rfl (by decide)))
            have hkpy96 : Fvy30 14 = F 14 := ((hFvy30 14 (by decide) (by decide)).trans (fn rfl (by decide)))
            have hkpy97 : Fvy30 17 = F 17 := ((hFvy30 17 (by decide) (by decide)).trans (fn rfl (by decide)))
            have hkpy98 : Fvy30 20 = F 20 := ((hFvy30 20 (by decide) (by decide)).trans (fn rfl (by decide)))
            have hkpy99 : Fvy30 21 = F 21 := ((hFvy30 21 (by decide) (by decide)).trans (fn rfl (by decide)))
            have hkpy100 : Fvy30 23 = F 23 := ((hFvy30 23 (by decide) (by decide)).trans (fn rfl (by decide)))
            have hkpy101 : Fvy30 24 = F 24 := ((hFvy30 24 (by decide) (by decide)).trans (fn rfl (by decide)))
            exact z_iret C hr hlk dX10_pit_141 (by decide) (by decide) ⟨(r (5)) + 1, rfl, rfl, rfl, by omega, ⟨_, _, hMy93, ⟨hkpy95, hkpy96, hkpy97, hkpy98, hkpy99, hkpy100, hkpy101⟩⟩, fun j j1 => by rw [egy69, va_up_ne _ _ (by omega)]; rw [f3w _ (by omega)]; rw [egy54, va_up_ne _ _ (by omega)]; rw [egy44, va_up_ne _ _ (by omega)]; rw [egy37, va_up_ne _ _ (by omega)]; rw [hfvy30 _ (by omega) (by omega)]; rw [egy25, va_up_ne _ _ (by omega)]⟩
          · refine z_aload_n C 0 dX10_pit_93 rfl ?_
            have hgy102 := up_n egy54 hgy48 (ne_o (i := i) (c := 0) (d := 12) rfl)
            have hgy103 := (f3w (i) (ne_o (i := i) (c := 0) (d := 12) rfl)).trans hgy102
            refine z_get (v := .ref (ad (i + 12))) C (lt_A0 hN rfl) hay1 hgy103 rfl inA_X10 11 (by decide) q_1470 rfl rfl dX10_pit_94 ?_
            refine z_iload_n C 2 dX10_pit_97 rfl ?_
            refine z_iconst (z := 3) C dX10_pit_98 rfl ?_
            refine z_iadd C dX10_pit_99 ?_
            refine z_iload_n C 3 dX10_pit_100 rfl ?_
            refine z_iadd C dX10_pit_101 ?_
            refine z_aload_n C 0 dX10_pit_102 rfl ?_
            refine z_get (v := .ref (ad (i + 1))) C (lt_A0 hN rfl) hay1 hgy103 rfl inA_X10 0 (by decide) q_1459 rfl rfl dX10_pit_103 ?_
            refine z_bipush (z := 6) C dX10_pit_106 (by decide) ?_
            refine z_bipush (z := 86) C dX10_pit_108 (by decide) ?_
            refine z_iload_n C 1 dX10_pit_110 rfl ?_
            refine z_imul C dX10_pit_111 ?_
            refine z_iadd C dX10_pit_112 ?_
            refine z_iconst (z := 2) C dX10_pit_113 rfl ?_
            refine z_iadd C dX10_pit_114 ?_
            refine z_iload_n C 3 dX10_pit_115 rfl ?_
            refine z_iadd C dX10_pit_116 ?_
            have hgy104 := up_n egy54 hgy51 (ne_o (i := i) (c := 1) (d := 12) rfl)
            have hgy105 := (f3w (i + 1) (ne_o (i := i) (c := 1) (d := 12) rfl)).trans hgy104
            refine z_iald C (lt_A (c := 1) hN rfl) hay2 hgy105 (nj) (by omega) (by omega) (by decide) dX10_pit_117 ?_
            rw [show rvy30 (nj) = r (nj) from (hyvy30 _ (by omega)).trans (rfl)]
            refine z_iast C (lt_A (c := 12) hN rfl) hay13 f2 (np) (by omega) (by omega) (by decide) dX10_pit_118 (fun gy106 egy107 => ?_)
            have hgy108 := up_s egy107
            obtain ⟨ry109, hvy110⟩ : ∃ rZ9 : Nat → Int, rZ9 = uZ p9 (np) (r (nj)) := ⟨_, rfl⟩
            rw [← hvy110] at hgy108
            refine z_iinc (z := kk + 1) (lv' := [(3, .int (zI (kk + 1))), (0, .ref (ad i)), (1, .int (zI ((n : Int)))), (2, .int (zI ((kq : Int))))]) (j := 3) C dX10_pit_119 rfl rfl (by decide) rfl ?_
            refine z_goto (tgt := 87) C dX10_pit_122 (by decide) ?_
            have hfry111 : ∀ j, j ≠ np → ry109 j = p9 j := fun j n0 => (congrFun hvy110 _).trans ((uZ_n _ _ n0).trans (rfl))
            have hwy112 : ry109 (np) = r (nj) := (congrFun hvy110 _).trans (uZ_s _ _ _)
            have hrj : rvy30 nj = r (nj) := (hyvy30 _ (by omega)).trans (rfl)
            refine z_lv (lv' := [(0, .ref (ad i)), (1, .int (zI ((n : Int)))), (2, .int (zI ((kq : Int)))), (3, .int (zI (kk + 1)))]) [1, 2, 3, 0] rfl ?_
            exact ih_lpw _ (by omega) (kk + 1) ry109 gy106 rfl hgy108 (fun j j1 => by rw [egy107, va_up_ne _ _ (by omega)]; exact f3w j j1) (fun j a => (hfry111 j (by omega)).trans (fA j a)) ((hfry111 kq (by omega)).trans fB) ((hfry111 (kq + 2) (by omega)).trans fC) (fun k a => by by_cases e : k = nk; (subst e; rw [show kq + 3 + k = np by omega, show py49 + 2 + k = nj by omega]; omega); (rw [hfry111 (kq + 3 + k) (by omega)]; exact fk k (by omega))) (by omega)
      refine z_lv (lv' := [(0, .ref (ad i)), (1, .int (zI ((n : Int)))), (2, .int (zI ((kq : Int)))), (3, .int (zI (0)))]) [2, 3, 1, 0] rfl ?_
      exact lpw _ (0) ry56 gy53 rfl hgy55 (fun j _ => rfl) (fun j a => hfry60 j (by omega) (by omega) (by omega)) (by omega) (by omega) (fun k a => absurd a (by omega)) (by omega)
    · refine z_aload_n C 0 dX10_pit_30 rfl ?_
      refine z_iconst (z := 1) C dX10_pit_31 rfl ?_
      have hgy113 := up_n egy25 ha11 (ne_o (i := i) (c := 11) (d := 0) rfl)
      refine z_cV (As := [.int (zI (1))]) (rest := []) (ci := 12) C (c_X10_refuses l D A cs tt N ad _ i hN _ hgy26 _ hgy113 (1) (by omega)) (lt_A0 hN rfl) hay1 hgy26 rfl rfl mv_yX10_refuses q_1866 hd_yX10_refuses (by decide) (Nat.le_of_ble_eq_true rfl) (by decide) dX10_pit_32 rfl (kI0 fun vy114 gvy114 hvy114 => ?_)
      obtain ⟨hrvy114, ⟨tvy114, hdvy114⟩, hfvy114⟩ := hvy114
      have hgy115 := (hfvy114 (i) (ne_o (i := i) (c := 0) (d := 11) rfl)).trans hgy26
      have hgy116 := (hfvy114 (i + 1) (ne_o (i := i) (c := 1) (d := 11) rfl)).trans hgy28
      have hFy117 : ∀ f, f ≠ 12 → (uZ F 12 (0)) f = F f := fun f n12 => ((uZ_n _ _ n12).trans rfl)
      have hey118 : (uZ F 12 (0)) 13 = F 13 := (fn rfl (by decide))
      have hey119 : (uZ F 12 (0)) 14 = F 14 := (fn rfl (by decide))
      have hey120 : (uZ F 12 (0)) 15 = F 15 := (fn rfl (by decide))
      have hey121 : (uZ F 12 (0)) 16 = F 16 := (fn rfl (by decide))
      have hey122 : (uZ F 12 (0)) 17 = F 17 := (fn rfl (by decide))
      have hey123 : (uZ F 12 (0)) 18 = F 18 := (fn rfl (by decide))
      have hey124 : (uZ F 12 (0)) 19 = F 19 := (fn rfl (by decide))
      have hey125 : (uZ F 12 (0)) 20 = F 20 := (fn rfl (by decide))
      have hey126 : (uZ F 12 (0)) 21 = F 21 := (fn rfl (by decide))
      have hey127 : (uZ F 12 (0)) 23 = F 23 := (fn rfl (by decide))
      have hey128 : (uZ F 12 (0)) 25 = F 25 := (fn rfl (by decide))
      have hey129 : (uZ F 12 (0)) 27 = F 27 := (fn rfl (by decide))
      have hey130 : (uZ F 12 (0)) 28 = F 28 := (fn rfl (by decide))
      have hey131 : (uZ F 12 (0)) 29 = F 29 := (fn rfl (by decide))
      have hKy132 : okF (uZ F 12 (0)) := okF.mv hM.2.1 hey118 hey119 hey120 hey121 hey122 hey123 hey124 hey125 hey126 hey127 hey128 hey129 hey130 hey131
      have hMy133 : okMr cs ad gvy114 i (x + 1) (uZ F 12 (0)) r st op ai fa mu tb tp := okMr.upd hM hgy115 hKy132 (fun f a => hFy117 f (by omega)) hgy116 (hA.mono (by omega)) (fun j a b => by
          by_cases e0 : j = i + 11
          · exact Or.inr ⟨11, _, e0, lsP.l (by decide), by rw [e0]; exact hdvy114⟩
          exact Or.inl (by rw [hfvy114 _ (by omega)]; rw [egy25, va_up_ne _ _ (by omega)]))
      have hkpy134 : (uZ F 12 (0)) 13 = F 13 := (fn rfl (by decide))
      have hkpy135 : (uZ F 12 (0)) 14 = F 14 := (fn rfl (by decide))
      have hkpy136 : (uZ F 12 (0)) 17 = F 17 := (fn rfl (by decide))
      have hkpy137 : (uZ F 12 (0)) 20 = F 20 := (fn rfl (by decide))
      have hkpy138 : (uZ F 12 (0)) 21 = F 21 := (fn rfl (by decide))
      have hkpy139 : (uZ F 12 (0)) 23 = F 23 := (fn rfl (by decide))
      have hkpy140 : (uZ F 12 (0)) 24 = F 24 := (fn rfl (by decide))
      exact z_iret C hr hlk dX10_pit_35 (by decide) (by decide) ⟨vy114, rfl, rfl, rfl, by omega, ⟨_, _, hMy133, ⟨hkpy134, hkpy135, hkpy136, hkpy137, hkpy138, hkpy139, hkpy140⟩⟩, fun j j1 => by rw [hfvy114 _ (by omega)]; rw [egy25, va_up_ne _ _ (by omega)]⟩
  · refine z_if_eq (tgt := 30) C dX10_pit_16 (by decide) (by omega) (fun _ => ?_) (fun h => absurd h (by omega))
    refine z_aload_n C 0 dX10_pit_30 rfl ?_
    refine z_iconst (z := 1) C dX10_pit_31 rfl ?_
    have hgy141 := up_n egy25 ha11 (ne_o (i := i) (c := 11) (d := 0) rfl)
    refine z_cV (As := [.int (zI (1))]) (rest := []) (ci := 12) C (c_X10_refuses l D A cs tt N ad _ i hN _ hgy26 _ hgy141 (1) (by omega)) (lt_A0 hN rfl) hay1 hgy26 rfl rfl mv_yX10_refuses q_1866 hd_yX10_refuses (by decide) (Nat.le_of_ble_eq_true rfl) (by decide) dX10_pit_32 rfl (kI0 fun vy142 gvy142 hvy142 => ?_)
    obtain ⟨hrvy142, ⟨tvy142, hdvy142⟩, hfvy142⟩ := hvy142
    have hgy143 := (hfvy142 (i) (ne_o (i := i) (c := 0) (d := 11) rfl)).trans hgy26
    have hgy144 := up_n egy25 ha1 (ne_o (i := i) (c := 1) (d := 0) rfl)
    have hgy145 := (hfvy142 (i + 1) (ne_o (i := i) (c := 1) (d := 11) rfl)).trans hgy144
    have hFy146 : ∀ f, f ≠ 12 → (uZ F 12 (0)) f = F f := fun f n12 => ((uZ_n _ _ n12).trans rfl)
    have hey147 : (uZ F 12 (0)) 13 = F 13 := (fn rfl (by decide))
    have hey148 : (uZ F 12 (0)) 14 = F 14 := (fn rfl (by decide))
    have hey149 : (uZ F 12 (0)) 15 = F 15 := (fn rfl (by decide))
    have hey150 : (uZ F 12 (0)) 16 = F 16 := (fn rfl (by decide))
    have hey151 : (uZ F 12 (0)) 17 = F 17 := (fn rfl (by decide))
    have hey152 : (uZ F 12 (0)) 18 = F 18 := (fn rfl (by decide))
    have hey153 : (uZ F 12 (0)) 19 = F 19 := (fn rfl (by decide))
    have hey154 : (uZ F 12 (0)) 20 = F 20 := (fn rfl (by decide))
    have hey155 : (uZ F 12 (0)) 21 = F 21 := (fn rfl (by decide))
    have hey156 : (uZ F 12 (0)) 23 = F 23 := (fn rfl (by decide))
    have hey157 : (uZ F 12 (0)) 25 = F 25 := (fn rfl (by decide))
    have hey158 : (uZ F 12 (0)) 27 = F 27 := (fn rfl (by decide))
    have hey159 : (uZ F 12 (0)) 28 = F 28 := (fn rfl (by decide))
    have hey160 : (uZ F 12 (0)) 29 = F 29 := (fn rfl (by decide))
    have hKy161 : okF (uZ F 12 (0)) := okF.mv hM.2.1 hey147 hey148 hey149 hey150 hey151 hey152 hey153 hey154 hey155 hey156 hey157 hey158 hey159 hey160
    have hMy162 : okMr cs ad gvy142 i (x + 1) (uZ F 12 (0)) r st op ai fa mu tb tp := okMr.upd hM hgy143 hKy161 (fun f a => hFy146 f (by omega)) hgy145 (hA.mono (by omega)) (fun j a b => by
        by_cases e0 : j = i + 11
        · exact Or.inr ⟨11, _, e0, lsP.l (by decide), by rw [e0]; exact hdvy142⟩
        exact Or.inl (by rw [hfvy142 _ (by omega)]; rw [egy25, va_up_ne _ _ (by omega)]))
    have hkpy163 : (uZ F 12 (0)) 13 = F 13 := (fn rfl (by decide))
    have hkpy164 : (uZ F 12 (0)) 14 = F 14 := (fn rfl (by decide))
    have hkpy165 : (uZ F 12 (0)) 17 = F 17 := (fn rfl (by decide))
    have hkpy166 : (uZ F 12 (0)) 20 = F 20 := (fn rfl (by decide))
    have hkpy167 : (uZ F 12 (0)) 21 = F 21 := (fn rfl (by decide))
    have hkpy168 : (uZ F 12 (0)) 23 = F 23 := (fn rfl (by decide))
    have hkpy169 : (uZ F 12 (0)) 24 = F 24 := (fn rfl (by decide))
    exact z_iret C hr hlk dX10_pit_35 (by decide) (by decide) ⟨vy142, rfl, rfl, rfl, by omega, ⟨_, _, hMy162, ⟨hkpy163, hkpy164, hkpy165, hkpy166, hkpy167, hkpy168, hkpy169⟩⟩, fun j j1 => by rw [hfvy142 _ (by omega)]; rw [egy25, va_up_ne _ _ (by omega)]⟩

set_option maxRecDepth 100000 in
set_option maxHeartbeats 4000000 in
theorem c_X10_pit_b (l : Launch) (D : va_G) (A : Nat → Prop) (cs : Nat → ClassId) (tt : Nat) (N : Nat) (ad : Nat → Nat) (g : Nat → va_E) (i : Nat) (hN : i + 30 ≤ N) (x : Int) (hx : 0 ≤ x ∧ x ≤ 512) (F r : Nat → Int) {st op ai fa mu tb tp : Nat → Int} (hM : okMr cs ad g i x F r st op ai fa mu tb tp) (z : Int) (hz : -2147483648 ≤ z ∧ z ≤ 2147483647) (hzo : z < 0 ∨ 3 < z) : zM l yX10_pit cX10_pit 4 (some .int) ({ frames := 3, cells := 0, slots := 0, locals := 180 } : Room) D A cs tt N ad g [.ref (ad i), .int (zI (z))] (rI0 N ad fun q g' => (-2147483648 ≤ q ∧ q ≤ 2147483647) ∧ (∃ F' r' : Nat → Int, okMr cs ad g' i (x + 1) F' r' st op ai fa mu tb tp ∧ (F' 13 = F 13 ∧ F' 14 = F 14 ∧ F' 17 = F 17 ∧ F' 20 = F 20 ∧ F' 21 = F 21 ∧ F' 23 = F 23 ∧ F' 24 = F 24)) ∧ ∀ j, j < i ∨ i + 30 ≤ j → g' j = g j) := by
  obtain ⟨hg, ⟨⟨e13, e14, e25, e27, e29⟩, k15, k16, k17, k18, k19, k20, k23, k21⟩, hRD, hTx, hA, ns, nh, nd, rf, pi, te, ki, li, ok1, ok2, fo, dd, dps, ⟨ha1, ha2, ha3, ha4, ha5, ha6, ha7, ha8, ha9, ha10, ha11, ha12, ha13, ha14, ha15, ha24, ha25, ha26, ha27, ha28, ha29⟩, hEv, hPt, hns, htp⟩ := id hM
  obtain ⟨-, hop, hai, hfa, hT, hT1⟩ := id hEv
  have hay1 : zAt ad (i) (ad i) := rfl
  have hay2 : zAt ad (i + 1) (ad (i + 1)) := rfl
  have hay3 : zAt ad (i + 2) (ad (i + 2)) := rfl
  have hay4 : zAt ad (i + 3) (ad (i + 3)) := rfl
  have hay5 : zAt ad (i + 4) (ad (i + 4)) := rfl
  have hay6 : zAt ad (i + 5) (ad (i + 5)) := rfl
  have hay7 : zAt ad (i + 6) (ad (i + 6)) := rfl
  have hay8 : zAt ad (i + 7) (ad (i + 7)) := rfl
  have hay9 : zAt ad (i + 8) (ad (i + 8)) := rfl
  have hay10 : zAt ad (i + 9) (ad (i + 9)) := rfl
  have hay11 : zAt ad (i + 10) (ad (i + 10)) := rfl
  have hay12 : zAt ad (i + 11) (ad (i + 11)) := rfl
  have hay13 : zAt ad (i + 12) (ad (i + 12)) := rfl
  have hay14 : zAt ad (i + 13) (ad (i + 13)) := rfl
  have hay15 : zAt ad (i + 14) (ad (i + 14)) := rfl
  have hay16 : zAt ad (i + 15) (ad (i + 15)) := rfl
  have hay17 : zAt ad (i + 24) (ad (i + 24)) := rfl
  have hay18 : zAt ad (i + 25) (ad (i + 25)) := rfl
  have hay19 : zAt ad (i + 26) (ad (i + 26)) := rfl
  have hay20 : zAt ad (i + 27) (ad (i + 27)) := rfl
  have hay21 : zAt ad (i + 28) (ad (i + 28)) := rfl
  have hay22 : zAt ad (i + 29) (ad (i + 29)) := rfl
  obtain ⟨⟨hsyy23, htyy23, hnyy23, hpyy23⟩, hlyy23⟩ := okA.at0 hA
  simp only [Nat.zero_add] at hsyy23 hnyy23 hpyy23
  have hmn : ∀ s, s < 4 → 0 ≤ r (6 + 86 * s) ∧ r (6 + 86 * s) ≤ 12 := fun s hs => (hsyy23 s hs).1
  have h5 : 0 ≤ r 5 ∧ r 5 ≤ 6 := hpyy23
  refine z_of (by decide) (Nat.le_of_ble_eq_true rfl) ?_
  intro pZ eZ sZ mZ below meth cZ C hr hlk hnm
  refine z_lv (lv' := [(0, .ref (ad i)), (1, .int (zI (z)))]) [0, 1] rfl ?_
  refine z_aload_n C 0 dX10_pit_0 rfl ?_
  refine z_iconst (z := 0) C dX10_pit_1 rfl ?_
  refine z_put (fs' := mF ad (i) (uZ F 12 (0))) C (lt_A0 hN rfl) hay1 hg tyX10 tyX10_ok nmX10 rfl inA_X10 12 (by decide) q_1471 rfl rfl rfl rfl (Nat.le_of_ble_eq_true rfl) rfl dX10_pit_2 (fun gy24 egy25 => ?_)
  have hgy26 := up_s egy25
  refine z_iload_n C 1 dX10_pit_5 rfl ?_
  refine z_iconst (z := 0) C dX10_pit_6 rfl ?_
  refine z_aload_n C 0 dX10_pit_7 rfl ?_
  refine z_get (v := .int (zI (F 13))) C (lt_A0 hN rfl) hay1 hgy26 rfl inA_X10 13 (by decide) q_1472 rfl (fv (F := (uZ F 12 (0))) (f := 13) (fn rfl (by decide))) dX10_pit_8 ?_
  refine z_iconst (z := 1) C dX10_pit_11 rfl ?_
  refine z_isub C dX10_pit_12 ?_
  refine z_cS (As := [.int (zI (z)), .int (zI (0)), .int (zI ((F 13) - 1))]) (rest := []) C (c_X10_within l D A cs tt N ad _ (z) (by omega) (0) (by omega) ((F 13) - 1) (by omega)) ms_yX10_within q_1686 hd_yX10_within (by decide) (Nat.le_of_ble_eq_true rfl) (by decide) dX10_pit_13 rfl (kI0 fun vy27 gvy27 hvy27 => ?_)
  obtain ⟨hvy27, rfl⟩ := hvy27
  obtain rfl : vy27 = 0 := by omega
  refine z_if_eq (tgt := 30) C dX10_pit_16 (by decide) (by omega) (fun _ => ?_) (fun h => absurd h (by omega))
  refine z_aload_n C 0 dX10_pit_30 rfl ?_
  refine z_iconst (z := 1) C dX10_pit_31 rfl ?_
  have hgy28 := up_n egy25 ha11 (ne_o (i := i) (c := 11) (d := 0) rfl)
  refine z_cV (As := [.int (zI (1))]) (rest := []) (ci := 12) C (c_X10_refuses l D A cs tt N ad _ i hN _ hgy26 _ hgy28 (1) (by omega)) (lt_A0 hN rfl) hay1 hgy26 rfl rfl mv_yX10_refuses q_1866 hd_yX10_refuses (by decide) (Nat.le_of_ble_eq_true rfl) (by decide) dX10_pit_32 rfl (kI0 fun vy29 gvy29 hvy29 => ?_)
  obtain ⟨hrvy29, ⟨tvy29, hdvy29⟩, hfvy29⟩ := hvy29
  have hgy30 := (hfvy29 (i) (ne_o (i := i) (c := 0) (d := 11) rfl)).trans hgy26
  have hgy31 := up_n egy25 ha1 (ne_o (i := i) (c := 1) (d := 0) rfl)
  have hgy32 := (hfvy29 (i + 1) (ne_o (i := i) (c := 1) (d := 11) rfl)).trans hgy31
  have hFy33 : ∀ f, f ≠ 12 → (uZ F 12 (0)) f = F f := fun f n12 => ((uZ_n _ _ n12).trans rfl)
  have hey34 : (uZ F 12 (0)) 13 = F 13 := (fn rfl (by decide))
  have hey35 : (uZ F 12 (0)) 14 = F 14 := (fn rfl (by decide))
  have hey36 : (uZ F 12 (0)) 15 = F 15 := (fn rfl (by decide))
  have hey37 : (uZ F 12 (0)) 16 = F 16 := (fn rfl (by decide))
  have hey38 : (uZ F 12 (0)) 17 = F 17 := (fn rfl (by decide))
  have hey39 : (uZ F 12 (0)) 18 = F 18 := (fn rfl (by decide))
  have hey40 : (uZ F 12 (0)) 19 = F 19 := (fn rfl (by decide))
  have hey41 : (uZ F 12 (0)) 20 = F 20 := (fn rfl (by decide))
  have hey42 : (uZ F 12 (0)) 21 = F 21 := (fn rfl (by decide))
  have hey43 : (uZ F 12 (0)) 23 = F 23 := (fn rfl (by decide))
  have hey44 : (uZ F 12 (0)) 25 = F 25 := (fn rfl (by decide))
  have hey45 : (uZ F 12 (0)) 27 = F 27 := (fn rfl (by decide))
  have hey46 : (uZ F 12 (0)) 28 = F 28 := (fn rfl (by decide))
  have hey47 : (uZ F 12 (0)) 29 = F 29 := (fn rfl (by decide))
  have hKy48 : okF (uZ F 12 (0)) := okF.mv hM.2.1 hey34 hey35 hey36 hey37 hey38 hey39 hey40 hey41 hey42 hey43 hey44 hey45 hey46 hey47
  have hMy49 : okMr cs ad gvy29 i (x + 1) (uZ F 12 (0)) r st op ai fa mu tb tp := okMr.upd hM hgy30 hKy48 (fun f a => hFy33 f (by omega)) hgy32 (hA.mono (by omega)) (fun j a b => by
      by_cases e0 : j = i + 11
      · exact Or.inr ⟨11, _, e0, lsP.l (by decide), by rw [e0]; exact hdvy29⟩
      exact Or.inl (by rw [hfvy29 _ (by omega)]; rw [egy25, va_up_ne _ _ (by omega)]))
  have hkpy50 : (uZ F 12 (0)) 13 = F 13 := (fn rfl (by decide))
  have hkpy51 : (uZ F 12 (0)) 14 = F 14 := (fn rfl (by decide))
  have hkpy52 : (uZ F 12 (0)) 17 = F 17 := (fn rfl (by decide))
  have hkpy53 : (uZ F 12 (0)) 20 = F 20 := (fn rfl (by decide))
  have hkpy54 : (uZ F 12 (0)) 21 = F 21 := (fn rfl (by decide))
  have hkpy55 : (uZ F 12 (0)) 23 = F 23 := (fn rfl (by decide))
  have hkpy56 : (uZ F 12 (0)) 24 = F 24 := (fn rfl (by decide))
  exact z_iret C hr hlk dX10_pit_35 (by decide) (by decide) ⟨vy29, rfl, rfl, rfl, by omega, ⟨_, _, hMy49, ⟨hkpy50, hkpy51, hkpy52, hkpy53, hkpy54, hkpy55, hkpy56⟩⟩, fun j j1 => by rw [hfvy29 _ (by omega)]; rw [egy25, va_up_ne _ _ (by omega)]⟩

set_option maxRecDepth 100000 in
set_option maxHeartbeats 4000000 in
theorem c_X10_pit (l : Launch) (D : va_G) (A : Nat → Prop) (cs : Nat → ClassId) (tt : Nat) (N : Nat) (ad : Nat → Nat) (g : Nat → va_E) (i : Nat) (hN : i + 30 ≤ N) (x : Int) (hx : 0 ≤ x ∧ x ≤ 512) (F r : Nat → Int) {st op ai fa mu tb tp : Nat → Int} (hM : okMr cs ad g i x F r st op ai fa mu tb tp) (z : Int) (hz : -2147483648 ≤ z ∧ z ≤ 2147483647) : zM l yX10_pit cX10_pit 4 (some .int) ({ frames := 3, cells := 0, slots := 0, locals := 180 } : Room) D A cs tt N ad g [.ref (ad i), .int (zI (z))] (rI0 N ad fun q g' => (-2147483648 ≤ q ∧ q ≤ 2147483647) ∧ (∃ F' r' : Nat → Int, okMr cs ad g' i (x + 1) F' r' st op ai fa mu tb tp ∧ (F' 13 = F 13 ∧ F' 14 = F 14 ∧ F' 17 = F 17 ∧ F' 20 = F 20 ∧ F' 21 = F 21 ∧ F' 23 = F 23 ∧ F' 24 = F 24)) ∧ ∀ j, j < i ∨ i + 30 ≤ j → g' j = g j) := by
  by_cases h9 : 0 ≤ z ∧ z ≤ 3
  · obtain ⟨n, rfl⟩ : ∃ n : Nat, z = (n : Int) := ⟨z.toNat, by omega⟩
    exact c_X10_pit_a l D A cs tt N ad g i hN x hx F r hM n (by omega) 
  · exact c_X10_pit_b l D A cs tt N ad g i hN x hx F r hM z hz (by omega) 

set_option maxRecDepth 100000 in
set_option maxHeartbeats 4000000 in
theorem c_X10_image (l : Launch) (D : va_G) (A : Nat → Prop) (cs : Nat → ClassId) (tt : Nat) (N : Nat) (ad : Nat → Nat) (g : Nat → va_E) (i : Nat) (hN : i + 30 ≤ N) (x : Int) (hx : 0 ≤ x ∧ x ≤ 512) (F r : Nat → Int) {st op ai fa mu tb tp : Nat → Int} (hM : okMr cs ad g i x F r st op ai fa mu tb tp) : zM l yX10_image cX10_image 2 none ({ frames := 2, cells := 0, slots := 0, locals := 120 } : Room) D A cs tt N ad g [.ref (ad i)] (rV0 N ad fun g' => (∃ F' r' : Nat → Int, okMr cs ad g' i (x + 1) F' r' st op ai fa mu tb tp ∧ (F' 13 = F 13 ∧ F' 14 = F 14 ∧ F' 17 = F 17 ∧ F' 20 = F 17 ∧ F' 21 = 1 ∧ F' 23 = F 23 ∧ F' 24 = F 24)) ∧ ∀ j, j < i ∨ i + 30 ≤ j → g' j = g j) := by
  obtain ⟨hg, ⟨⟨e13, e14, e25, e27, e29⟩, k15, k16, k17, k18, k19, k20, k23, k21⟩, hRD, hTx, hA, ns, nh, nd, rf, pi, te, ki, li, ok1, ok2, fo, dd, dps, ⟨ha1, ha2, ha3, ha4, ha5, ha6, ha7, ha8, ha9, ha10, ha11, ha12, ha13, ha14, ha15, ha24, ha25, ha26, ha27, ha28, ha29⟩, hEv, hPt, hns, htp⟩ := id hM
  obtain ⟨-, hop, hai, hfa, hT, hT1⟩ := id hEv
  have hay1 : zAt ad (i) (ad i) := rfl
  have hay2 : zAt ad (i + 1) (ad (i + 1)) := rfl
  have hay3 : zAt ad (i + 2) (ad (i + 2)) := rfl
  have hay4 : zAt ad (i + 3) (ad (i + 3)) := rfl
  have hay5 : zAt ad (i + 4) (ad (i + 4)) := rfl
  have hay6 : zAt ad (i + 5) (ad (i + 5)) := rfl
  have hay7 : zAt ad (i + 6) (ad (i + 6)) := rfl
  have hay8 : zAt ad (i + 7) (ad (i + 7)) := rfl
  have hay9 : zAt ad (i + 8) (ad (i + 8)) := rfl
  have hay10 : zAt ad (i + 9) (ad (i + 9)) := rfl
  have hay11 : zAt ad (i + 10) (ad (i + 10)) := rfl
  have hay12 : zAt ad (i + 11) (ad (i + 11)) := rfl
  have hay13 : zAt ad (i + 12) (ad (i + 12)) := rfl
  have hay14 : zAt ad (i + 13) (ad (i + 13)) := rfl
  have hay15 : zAt ad (i + 14) (ad (i + 14)) := rfl
  have hay16 : zAt ad (i + 15) (ad (i + 15)) := rfl
  have hay17 : zAt ad (i + 24) (ad (i + 24)) := rfl
  have hay18 : zAt ad (i + 25) (ad (i + 25)) := rfl
  have hay19 : zAt ad (i + 26) (ad (i + 26)) := rfl
  have hay20 : zAt ad (i + 27) (ad (i + 27)) := rfl
  have hay21 : zAt ad (i + 28) (ad (i + 28)) := rfl
  have hay22 : zAt ad (i + 29) (ad (i + 29)) := rfl
  obtain ⟨⟨hsyy23, htyy23, hnyy23, hpyy23⟩, hlyy23⟩ := okA.at0 hA
  simp only [Nat.zero_add] at hsyy23 hnyy23 hpyy23
  have hmn : ∀ s, s < 4 → 0 ≤ r (6 + 86 * s) ∧ r (6 + 86 * s) ≤ 12 := fun s hs => (hsyy23 s hs).1
  have h5 : 0 ≤ r 5 ∧ r 5 ≤ 6 := hpyy23
  refine z_of (by decide) (Nat.le_of_ble_eq_true rfl) ?_
  intro pZ eZ sZ mZ below meth cZ C hr hlk hnm
  refine z_lv (lv' := [(0, .ref (ad i))]) [0] rfl ?_
  refine z_aload_n C 0 dX10_image_0 rfl ?_
  refine z_iconst (z := 0) C dX10_image_1 rfl ?_
  refine z_put (fs' := mF ad (i) (uZ F 12 (0))) C (lt_A0 hN rfl) hay1 hg tyX10 tyX10_ok nmX10 rfl inA_X10 12 (by decide) q_1471 rfl rfl rfl rfl (Nat.le_of_ble_eq_true rfl) rfl dX10_image_2 (fun gy24 egy25 => ?_)
  have hgy26 := up_s egy25
  refine z_aload_n C 0 dX10_image_5 rfl ?_
  refine z_iconst (z := 0) C dX10_image_6 rfl ?_
  refine z_sipush (z := 14700) C dX10_image_7 (by decide) ?_
  refine z_sipush (z := 350) C dX10_image_10 (by decide) ?_
  have hgy27 := up_n egy25 ha1 (ne_o (i := i) (c := 1) (d := 0) rfl)
  refine z_cV (As := [.int (zI (0)), .int (zI (14700)), .int (zI (350))]) (rest := []) (ci := 12) C (c_X10_copies l D A cs tt N ad _ i hN _ hgy26 _ hgy27 0 14700 350 (by omega) (by omega) (by omega)) (lt_A0 hN rfl) hay1 hgy26 rfl rfl mv_yX10_copies q_1877 hd_yX10_copies (by decide) (Nat.le_of_ble_eq_true rfl) (by decide) dX10_image_13 rfl (kV0 fun gvy28 hvy28 => ?_)
  obtain ⟨⟨rvy28, hcvy28, hevy28, hovy28⟩, hfvy28⟩ := hvy28
  have hAy29 : okA rvy28 (x) := okA.copy (a := 0) (b := 42) (m := 1) hA (by omega) (by omega) (by omega) (fun k hk => hevy28 k (by omega)) (fun j hj => hovy28 j (by omega))
  refine z_aload_n C 0 dX10_image_16 rfl ?_
  refine z_sipush (z := 700) C dX10_image_17 (by decide) ?_
  refine z_sipush (z := 15050) C dX10_image_20 (by decide) ?_
  refine z_sipush (z := 14000) C dX10_image_23 (by decide) ?_
  have hgy30 := (hfvy28 (i) (ne_o (i := i) (c := 0) (d := 1) rfl)).trans hgy26
  refine z_cV (As := [.int (zI (700)), .int (zI (15050)), .int (zI (14000))]) (rest := []) (ci := 12) C (c_X10_copies l D A cs tt N ad _ i hN _ hgy30 _ hcvy28 700 15050 14000 (by omega) (by omega) (by omega)) (lt_A0 hN rfl) hay1 hgy30 rfl rfl mv_yX10_copies q_1877 hd_yX10_copies (by decide) (Nat.le_of_ble_eq_true rfl) (by decide) dX10_image_26 rfl (kV0 fun gvy31 hvy31 => ?_)
  obtain ⟨⟨rvy31, hcvy31, hevy31, hovy31⟩, hfvy31⟩ := hvy31
  have hAy32 : okA rvy31 (x) := okA.copy (a := 2) (b := 43) (m := 40) hAy29 (by omega) (by omega) (by omega) (fun k hk => hevy31 k (by omega)) (fun j hj => hovy31 j (by omega))
  refine z_aload_n C 0 dX10_image_29 rfl ?_
  refine z_aload_n C 0 dX10_image_30 rfl ?_
  have hgy33 := (hfvy31 (i) (ne_o (i := i) (c := 0) (d := 1) rfl)).trans hgy30
  refine z_get (v := .int (zI (F 15))) C (lt_A0 hN rfl) hay1 hgy33 rfl inA_X10 15 (by decide) q_1474 rfl (fv (F := (uZ F 12 (0))) (f := 15) (fn rfl (by decide))) dX10_image_31 ?_
  refine z_put (fs' := mF ad (i) (uZ (uZ F 12 (0)) 18 (F 15))) C (lt_A0 hN rfl) hay1 hgy33 tyX10 tyX10_ok nmX10 rfl inA_X10 18 (by decide) q_1477 rfl rfl rfl rfl (Nat.le_of_ble_eq_true rfl) rfl dX10_image_34 (fun gy34 egy35 => ?_)
  have hgy36 := up_s egy35
  refine z_aload_n C 0 dX10_image_37 rfl ?_
  refine z_aload_n C 0 dX10_image_38 rfl ?_
  refine z_get (v := .int (zI (F 16))) C (lt_A0 hN rfl) hay1 hgy36 rfl inA_X10 16 (by decide) q_1475 rfl (fv (F := (uZ (uZ F 12 (0)) 18 (F 15))) (f := 16) (fn (fn rfl (by decide)) (by decide))) dX10_image_39 ?_
  refine z_put (fs' := mF ad (i) (uZ (uZ (uZ F 12 (0)) 18 (F 15)) 19 (F 16))) C (lt_A0 hN rfl) hay1 hgy36 tyX10 tyX10_ok nmX10 rfl inA_X10 19 (by decide) q_1478 rfl rfl rfl rfl (Nat.le_of_ble_eq_true rfl) rfl dX10_image_42 (fun gy37 egy38 => ?_)
  have hgy39 := up_s egy38
  refine z_aload_n C 0 dX10_image_45 rfl ?_
  refine z_aload_n C 0 dX10_image_46 rfl ?_
  refine z_get (v := .int (zI (F 17))) C (lt_A0 hN rfl) hay1 hgy39 rfl inA_X10 17 (by decide) q_1476 rfl (fv (F := (uZ (uZ (uZ F 12 (0)) 18 (F 15)) 19 (F 16))) (f := 17) (fn (fn (fn rfl (by decide)) (by decide)) (by decide))) dX10_image_47 ?_
  refine z_put (fs' := mF ad (i) (uZ (uZ (uZ (uZ F 12 (0)) 18 (F 15)) 19 (F 16)) 20 (F 17))) C (lt_A0 hN rfl) hay1 hgy39 tyX10 tyX10_ok nmX10 rfl inA_X10 20 (by decide) q_1479 rfl rfl rfl rfl (Nat.le_of_ble_eq_true rfl) rfl dX10_image_50 (fun gy40 egy41 => ?_)
  have hgy42 := up_s egy41
  refine z_iconst (z := 0) C dX10_image_53 rfl ?_
  refine z_istore_n (lv' := [(1, .int (zI (0))), (0, .ref (ad i))]) C dX10_image_54 rfl (by decide) rfl ?_
  have lpw : ∀ (n9 : Nat) (kk : Int) (p9 : Nat → Int) (g1 : Nat → va_E), (541 - kk).toNat = n9 → (g1 (i + 12) = iA cs 1080 p9) → (∀ j, j ≠ i + 12 → g1 j = gy40 j) → (∀ m, m < 540 → p9 (0 + m) = pi (0 + m)) → (∀ k : Nat, (k : Int) < kk → p9 (540 + k) = pi (0 + k)) → (0 ≤ kk ∧ kk ≤ 540) → zV pZ l eZ ({ frames := 2, cells := 0, slots := 0, locals := 120 } : Room) sZ mZ ([.ref (ad i)] : List Value).toArray below meth cZ (MQ below (zPost D A (rV0 N ad fun g' => (∃ F' r' : Nat → Int, okMr cs ad g' i (x + 1) F' r' st op ai fa mu tb tp ∧ (F' 13 = F 13 ∧ F' 14 = F 14 ∧ F' 17 = F 17 ∧ F' 20 = F 17 ∧ F' 21 = 1 ∧ F' 23 = F 23 ∧ F' 24 = F 24)) ∧ ∀ j, j < i ∨ i + 30 ≤ j → g' j = g j)) ([.ref (ad i)] : List Value).toArray sZ ({ frames := 2, cells := 0, slots := 0, locals := 120 } : Room).cells ({ frames := 2, cells := 0, slots := 0, locals := 120 } : Room).slots A) D A 2 (N) ad g1 (0) (0) 55 [(0, .ref (ad i)), (1, .int (zI (kk)))] [] := by
    intro n9
    induction n9 using Nat.strongRecOn with
    | ind n9 ih_lpw =>
      intro kk p9 g1 hm9 f2 f3w fA fk hvk
      obtain ⟨nk, hnk⟩ : ∃ n9 : Nat, kk = (n9 : Int) := ⟨kk.toNat, by omega⟩
      have hP9 : kk = 540 → okPt p9 := fun e => okPt.cpy (a := 0) (b := 6) hPt (by omega) (fun m hm => fk m (by omega)) (fun m hm => fA m hm)
      refine z_iload_n C 1 dX10_image_55 rfl ?_
      refine z_sipush (z := 540) C dX10_image_56 (by decide) ?_
      refine z_icmp_ge (tgt := 84) C dX10_image_59 (by decide) (by omega) (by omega) (fun hby43 => ?_) (fun hby43 => ?_)
      · refine z_iconst (z := 0) C dX10_image_84 rfl ?_
        refine z_istore_n (lv' := [(1, .int (zI (0))), (0, .ref (ad i))]) C dX10_image_85 rfl (by decide) rfl ?_
        have hP10 := hP9 (by omega)
        have lp2 : ∀ (n9 : Nat) (kk : Int) (F9b : Nat → Int) (r9b : Nat → Int) (g1 : Nat → va_E), (9 - kk).toNat = n9 → (okMr cs ad g1 i x F9b r9b st op ai fa mu tb tp) → ((∀ f, f ≠ 12 → f ≠ 18 → f ≠ 19 → f ≠ 20 → f ≠ 21 → F9b f = F f)) → (∀ j, j < i ∨ i + 30 ≤ j → g1 j = g j) → (0 ≤ kk ∧ kk ≤ 8) → (F9b 20 = F 17) → zV pZ l eZ ({ frames := 2, cells := 0, slots := 0, locals := 120 } : Room) sZ mZ ([.ref (ad i)] : List Value).toArray below meth cZ (MQ below (zPost D A (rV0 N ad fun g' => (∃ F' r' : Nat → Int, okMr cs ad g' i (x + 1) F' r' st op ai fa mu tb tp ∧ (F' 13 = F 13 ∧ F' 14 = F 14 ∧ F' 17 = F 17 ∧ F' 20 = F 17 ∧ F' 21 = 1 ∧ F' 23 = F 23 ∧ F' 24 = F 24)) ∧ ∀ j, j < i ∨ i + 30 ≤ j → g' j = g j)) ([.ref (ad i)] : List Value).toArray sZ ({ frames := 2, cells := 0, slots := 0, locals := 120 } : Room).cells ({ frames := 2, cells := 0, slots := 0, locals := 120 } : Room).slots A) D A 2 (N) ad g1 (0) (0) 86 [(0, .ref (ad i)), (1, .int (zI (kk)))] [] := by
          intro n9
          induction n9 using Nat.strongRecOn with
          | ind n9 ih_lp2 =>
            intro kk F9b r9b g1 hm9 fMb fFb f3 hvlp20 hvlp21
            obtain ⟨hg_y44, ⟨⟨e13_y44, e14_y44, e25_y44, e27_y44, e29_y44⟩, k15_y44, k16_y44, k17_y44, k18_y44, k19_y44, k20_y44, k23_y44, k21_y44⟩, hRD_y44, hTx_y44, hA_y44, ns_y44, nh_y44, nd_y44, rf_y44, pi_y44, te_y44, ki_y44, li_y44, ok1_y44, ok2_y44, fo_y44, dd_y44, dps_y44, ⟨ha1_y44, ha2_y44, ha3_y44, ha4_y44, ha5_y44, ha6_y44, ha7_y44, ha8_y44, ha9_y44, ha10_y44, ha11_y44, ha12_y44, ha13_y44, ha14_y44, ha15_y44, ha24_y44, ha25_y44, ha26_y44, ha27_y44, ha28_y44, ha29_y44⟩, hEv_y44, hPt_y44, hns_y44, htp_y44⟩ := id fMb
            obtain ⟨-, hop_y44, hai_y44, hfa_y44, hT_y44, hT1_y44⟩ := id hEv_y44
            have e14 := e14_y44
            have e25 := e25_y44
            have e27 := e27_y44
            have e29 := e29_y44
            have hop := hop_y44
            have hai := hai_y44
            have hfa := hfa_y44
            have hT := hT_y44
            have hT1 := hT1_y44
            have hEv := hEv_y44
            have htp := htp_y44
            have hns := hns_y44
            have hPt := hPt_y44
            have hay45 : zAt ad (i) (ad i) := rfl
            have hay46 : zAt ad (i + 1) (ad (i + 1)) := rfl
            have hay47 : zAt ad (i + 2) (ad (i + 2)) := rfl
            have hay48 : zAt ad (i + 3) (ad (i + 3)) := rfl
            have hay49 : zAt ad (i + 4) (ad (i + 4)) := rfl
            have hay50 : zAt ad (i + 5) (ad (i + 5)) := rfl
            have hay51 : zAt ad (i + 6) (ad (i + 6)) := rfl
            have hay52 : zAt ad (i + 7) (ad (i + 7)) := rfl
            have hay53 : zAt ad (i + 8) (ad (i + 8)) := rfl
            have hay54 : zAt ad (i + 9) (ad (i + 9)) := rfl
            have hay55 : zAt ad (i + 10) (ad (i + 10)) := rfl
            have hay56 : zAt ad (i + 11) (ad (i + 11)) := rfl
            have hay57 : zAt ad (i + 12) (ad (i + 12)) := rfl
            have hay58 : zAt ad (i + 13) (ad (i + 13)) := rfl
            have hay59 : zAt ad (i + 14) (ad (i + 14)) := rfl
            have hay60 : zAt ad (i + 15) (ad (i + 15)) := rfl
            have hay61 : zAt ad (i + 24) (ad (i + 24)) := rfl
            have hay62 : zAt ad (i + 25) (ad (i + 25)) := rfl
            have hay63 : zAt ad (i + 26) (ad (i + 26)) := rfl
            have hay64 : zAt ad (i + 27) (ad (i + 27)) := rfl
            have hay65 : zAt ad (i + 28) (ad (i + 28)) := rfl
            have hay66 : zAt ad (i + 29) (ad (i + 29)) := rfl
            obtain ⟨⟨hsyy67, htyy67, hnyy67, hpyy67⟩, hlyy67⟩ := okA.at0 hA_y44
            simp only [Nat.zero_add] at hsyy67 hnyy67 hpyy67
            have hmn : ∀ s, s < 4 → 0 ≤ r9b (6 + 86 * s) ∧ r9b (6 + 86 * s) ≤ 12 := fun s hs => (hsyy67 s hs).1
            have h5 : 0 ≤ r9b 5 ∧ r9b 5 ≤ 6 := hpyy67
            have h13be : F9b 13 = F 13 := fFb 13 (by decide) (by decide) (by decide) (by decide) (by decide)
            have h14be : F9b 14 = F 14 := fFb 14 (by decide) (by decide) (by decide) (by decide) (by decide)
            have h17be : F9b 17 = F 17 := fFb 17 (by decide) (by decide) (by decide) (by decide) (by decide)
            have h23be : F9b 23 = F 23 := fFb 23 (by decide) (by decide) (by decide) (by decide) (by decide)
            have h24be : F9b 24 = F 24 := fFb 24 (by decide) (by decide) (by decide) (by decide) (by decide)
            refine z_iload_n C 1 dX10_image_86 rfl ?_
            refine z_bipush (z := 8) C dX10_image_87 (by decide) ?_
            refine z_icmp_ge (tgt := 143) C dX10_image_89 (by decide) (by omega) (by omega) (fun hby68 => ?_) (fun hby68 => ?_)
            · refine z_iconst (z := 0) C dX10_image_143 rfl ?_
              refine z_istore_n (lv' := [(1, .int (zI (0))), (0, .ref (ad i))]) C dX10_image_144 rfl (by decide) rfl ?_
              have lp3 : ∀ (n9 : Nat) (kk : Int) (F9c : Nat → Int) (r9c : Nat → Int) (g1 : Nat → va_E), (4 - kk).toNat = n9 → (okMr cs ad g1 i x F9c r9c st op ai fa mu tb tp) → ((∀ f, f ≠ 12 → f ≠ 18 → f ≠ 19 → f ≠ 20 → f ≠ 21 → F9c f = F f)) → (∀ j, j < i ∨ i + 30 ≤ j → g1 j = g j) → (0 ≤ kk ∧ kk ≤ 3) → (F9c 20 = F 17) → zV pZ l eZ ({ frames := 2, cells := 0, slots := 0, locals := 120 } : Room) sZ mZ ([.ref (ad i)] : List Value).toArray below meth cZ (MQ below (zPost D A (rV0 N ad fun g' => (∃ F' r' : Nat → Int, okMr cs ad g' i (x + 1) F' r' st op ai fa mu tb tp ∧ (F' 13 = F 13 ∧ F' 14 = F 14 ∧ F' 17 = F 17 ∧ F' 20 = F 17 ∧ F' 21 = 1 ∧ F' 23 = F 23 ∧ F' 24 = F 24)) ∧ ∀ j, j < i ∨ i + 30 ≤ j → g' j = g j)) ([.ref (ad i)] : List Value).toArray sZ ({ frames := 2, cells := 0, slots := 0, locals := 120 } : Room).cells ({ frames := 2, cells := 0, slots := 0, locals := 120 } : Room).slots A) D A 2 (N) ad g1 (0) (0) 145 [(0, .ref (ad i)), (1, .int (zI (kk)))] [] := by
                intro n9
                induction n9 using Nat.strongRecOn with
                | ind n9 ih_lp3 =>
                  intro kk F9c r9c g1 hm9 fMc fFc f3 hvlp30 hvlp31
                  obtain ⟨hg_y69, ⟨⟨e13_y69, e14_y69, e25_y69, e27_y69, e29_y69⟩, k15_y69, k16_y69, k17_y69, k18_y69, k19_y69, k20_y69, k23_y69, k21_y69⟩, hRD_y69, hTx_y69, hA_y69, ns_y69, nh_y69, nd_y69, rf_y69, pi_y69, te_y69, ki_y69, li_y69, ok1_y69, ok2_y69, fo_y69, dd_y69, dps_y69, ⟨ha1_y69, ha2_y69, ha3_y69, ha4_y69, ha5_y69, ha6_y69, ha7_y69, ha8_y69, ha9_y69, ha10_y69, ha11_y69, ha12_y69, ha13_y69, ha14_y69, ha15_y69, ha24_y69, ha25_y69, ha26_y69, ha27_y69, ha28_y69, ha29_y69⟩, hEv_y69, hPt_y69, hns_y69, htp_y69⟩ := id fMc
                  obtain ⟨-, hop_y69, hai_y69, hfa_y69, hT_y69, hT1_y69⟩ := id hEv_y69
                  have e14 := e14_y69
                  have e25 := e25_y69
                  have e27 := e27_y69
                  have e29 := e29_y69
                  have hop := hop_y69
                  have hai := hai_y69
                  have hfa := hfa_y69
                  have hT := hT_y69
                  have hT1 := hT1_y69
                  have hEv := hEv_y69
                  have htp := htp_y69
                  have hns := hns_y69
                  have hPt := hPt_y69
                  have hay70 : zAt ad (i) (ad i) := rfl
                  have hay71 : zAt ad (i + 1) (ad (i + 1)) := rfl
                  have hay72 : zAt ad (i + 2) (ad (i + 2)) := rfl
                  have hay73 : zAt ad (i + 3) (ad (i + 3)) := rfl
                  have hay74 : zAt ad (i + 4) (ad (i + 4)) := rfl
                  have hay75 : zAt ad (i + 5) (ad (i + 5)) := rfl
                  have hay76 : zAt ad (i + 6) (ad (i + 6)) := rfl
                  have hay77 : zAt ad (i + 7) (ad (i + 7)) := rfl
                  have hay78 : zAt ad (i + 8) (ad (i + 8)) := rfl
                  have hay79 : zAt ad (i + 9) (ad (i + 9)) := rfl
                  have hay80 : zAt ad (i + 10) (ad (i + 10)) := rfl
                  have hay81 : zAt ad (i + 11) (ad (i + 11)) := rfl
                  have hay82 : zAt ad (i + 12) (ad (i + 12)) := rfl
                  have hay83 : zAt ad (i + 13) (ad (i + 13)) := rfl
                  have hay84 : zAt ad (i + 14) (ad (i + 14)) := rfl
                  have hay85 : zAt ad (i + 15) (ad (i + 15)) := rfl
                  have hay86 : zAt ad (i + 24) (ad (i + 24)) := rfl
                  have hay87 : zAt ad (i + 25) (ad (i + 25)) := rfl
                  have hay88 : zAt ad (i + 26) (ad (i + 26)) := rfl
                  have hay89 : zAt ad (i + 27) (ad (i + 27)) := rfl
                  have hay90 : zAt ad (i + 28) (ad (i + 28)) := rfl
                  have hay91 : zAt ad (i + 29) (ad (i + 29)) := rfl
                  obtain ⟨⟨hsyy92, htyy92, hnyy92, hpyy92⟩, hlyy92⟩ := okA.at0 hA_y69
                  simp only [Nat.zero_add] at hsyy92 hnyy92 hpyy92
                  have hmn : ∀ s, s < 4 → 0 ≤ r9c (6 + 86 * s) ∧ r9c (6 + 86 * s) ≤ 12 := fun s hs => (hsyy92 s hs).1
                  have h5 : 0 ≤ r9c 5 ∧ r9c 5 ≤ 6 := hpyy92
                  have h13ce : F9c 13 = F 13 := fFc 13 (by decide) (by decide) (by decide) (by decide) (by decide)
                  have h14ce : F9c 14 = F 14 := fFc 14 (by decide) (by decide) (by decide) (by decide) (by decide)
                  have h17ce : F9c 17 = F 17 := fFc 17 (by decide) (by decide) (by decide) (by decide) (by decide)
                  have h23ce : F9c 23 = F 23 := fFc 23 (by decide) (by decide) (by decide) (by decide) (by decide)
                  have h24ce : F9c 24 = F 24 := fFc 24 (by decide) (by decide) (by decide) (by decide) (by decide)
                  refine z_iload_n C 1 dX10_image_145 rfl ?_
                  refine z_iconst (z := 3) C dX10_image_146 rfl ?_
                  refine z_icmp_ge (tgt := 170) C dX10_image_147 (by decide) (by omega) (by omega) (fun hby93 => ?_) (fun hby93 => ?_)
                  · refine z_aload_n C 0 dX10_image_170 rfl ?_
                    refine z_iconst (z := 1) C dX10_image_171 rfl ?_
                    refine z_put (fs' := mF ad (i) (uZ F9c 21 (1))) C (lt_A0 hN rfl) hay70 hg_y69 tyX10 tyX10_ok nmX10 rfl inA_X10 21 (by decide) q_1480 rfl rfl rfl rfl (Nat.le_of_ble_eq_true rfl) rfl dX10_image_172 (fun gy94 egy95 => ?_)
                    have hgy96 := up_s egy95
                    have hgy97 := up_n egy95 ha1_y69 (ne_o (i := i) (c := 1) (d := 0) rfl)
                    have hFy98 : ∀ f, f ≠ 21 → (uZ F9c 21 (1)) f = F9c f := fun f n21 => ((uZ_n _ _ n21).trans rfl)
                    have hey99 : (uZ F9c 21 (1)) 13 = F9c 13 := (fn rfl (by decide))
                    have hey100 : (uZ F9c 21 (1)) 14 = F9c 14 := (fn rfl (by decide))
                    have hey101 : (uZ F9c 21 (1)) 15 = F9c 15 := (fn rfl (by decide))
                    have hey102 : (uZ F9c 21 (1)) 16 = F9c 16 := (fn rfl (by decide))
                    have hey103 : (uZ F9c 21 (1)) 17 = F9c 17 := (fn rfl (by decide))
                    have hey104 : (uZ F9c 21 (1)) 18 = F9c 18 := (fn rfl (by decide))
                    have hey105 : (uZ F9c 21 (1)) 19 = F9c 19 := (fn rfl (by decide))
                    have hey106 : (uZ F9c 21 (1)) 20 = F9c 20 := (fn rfl (by decide))
                    have hey107 : (uZ F9c 21 (1)) 21 = 1 := (uZ_s _ _ _)
                    have hey108 : (uZ F9c 21 (1)) 23 = F9c 23 := (fn rfl (by decide))
                    have hey109 : (uZ F9c 21 (1)) 25 = F9c 25 := (fn rfl (by decide))
                    have hey110 : (uZ F9c 21 (1)) 27 = F9c 27 := (fn rfl (by decide))
                    have hey111 : (uZ F9c 21 (1)) 28 = F9c 28 := (fn rfl (by decide))
                    have hey112 : (uZ F9c 21 (1)) 29 = F9c 29 := (fn rfl (by decide))
                    have hKy113 : okF (uZ F9c 21 (1)) := by unfold okF; omega
                    have hMy114 : okMr cs ad gy94 i (x + 1) (uZ F9c 21 (1)) r9c st op ai fa mu tb tp := okMr.upd fMc hgy96 hKy113 (fun f a => hFy98 f (by omega)) hgy97 (hA_y69.mono (by omega)) (fun j a b => by
                        exact Or.inl (by rw [egy95, va_up_ne _ _ (by omega)]))
                    have hkpy115 : (uZ F9c 21 (1)) 13 = F9c 13 := (fn rfl (by decide))
                    have hkpy116 : (uZ F9c 21 (1)) 14 = F9c 14 := (fn rfl (by decide))
                    have hkpy117 : (uZ F9c 21 (1)) 17 = F9c 17 := (fn rfl (by decide))
                    have hkpy118 : (uZ F9c 21 (1)) 20 = F9c 20 := (fn rfl (by decide))
                    have hkpy119 : (uZ F9c 21 (1)) 21 = 1 := (uZ_s _ _ _)
                    have hkpy120 : (uZ F9c 21 (1)) 23 = F9c 23 := (fn rfl (by decide))
                    have hkpy121 : (uZ F9c 21 (1)) 24 = F9c 24 := (fn rfl (by decide))
                    exact z_vret C hr hlk dX10_image_175 (by decide) (by decide) ⟨rfl, rfl, rfl, ⟨_, _, hMy114, by omega⟩, fun j j1 => by rw [egy95, va_up_ne _ _ (by omega)]; exact f3 j j1⟩
                  · refine z_aload_n C 0 dX10_image_150 rfl ?_
                    refine z_get (v := .ref (ad (i + 11))) C (lt_A0 hN rfl) hay70 hg_y69 rfl inA_X10 10 (by decide) q_1469 rfl rfl dX10_image_151 ?_
                    refine z_iconst (z := 3) C dX10_image_154 rfl ?_
                    refine z_iload_n C 1 dX10_image_155 rfl ?_
                    refine z_iadd C dX10_image_156 ?_
                    refine z_aload_n C 0 dX10_image_157 rfl ?_
                    refine z_get (v := .ref (ad (i + 11))) C (lt_A0 hN rfl) hay70 hg_y69 rfl inA_X10 10 (by decide) q_1469 rfl rfl dX10_image_158 ?_
                    refine z_iload_n C 1 dX10_image_161 rfl ?_
                    refine z_iald C (lt_A (c := 11) hN rfl) hay81 ha11_y69 ((kk).toNat) (by omega) (by omega) (by decide) dX10_image_162 ?_
                    refine z_iast C (lt_A (c := 11) hN rfl) hay81 ha11_y69 ((3 + kk).toNat) (by omega) (by omega) (by decide) dX10_image_163 (fun gy122 egy123 => ?_)
                    have hgy124 := up_s egy123
                    refine z_iinc (z := kk + 1) (lv' := [(1, .int (zI (kk + 1))), (0, .ref (ad i))]) (j := 1) C dX10_image_164 rfl rfl (by decide) rfl ?_
                    refine z_goto (tgt := 145) C dX10_image_167 (by decide) ?_
                    have hgy125 := up_n egy123 hg_y69 (ne_o (i := i) (c := 0) (d := 11) rfl)
                    have hgy126 := up_n egy123 ha1_y69 (ne_o (i := i) (c := 1) (d := 11) rfl)
                    have hMy127 : okMr cs ad gy122 i (x) F9c r9c st op ai fa mu tb tp := okMr.upd fMc hgy125 fMc.2.1 (fun f _ => rfl) hgy126 (hA_y69.mono (by omega)) (fun j a b => by
                        by_cases e0 : j = i + 11
                        · exact Or.inr ⟨11, _, e0, lsP.l (by decide), by rw [e0]; exact hgy124⟩
                        exact Or.inl (by rw [egy123, va_up_ne _ _ (by omega)]))
                    have hFFc : (∀ f, f ≠ 12 → f ≠ 18 → f ≠ 19 → f ≠ 20 → f ≠ 21 → F9c f = F f) := fun f n12 n18 n19 n20 n21 => fFc f n12 n18 n19 n20 n21
                    have hey128 : F9c 13 = F9c 13 := rfl
                    have hey129 : F9c 14 = F9c 14 := rfl
                    have hey130 : F9c 15 = F9c 15 := rfl
                    have hey131 : F9c 16 = F9c 16 := rfl
                    have hey132 : F9c 17 = F9c 17 := rfl
                    have hey133 : F9c 18 = F9c 18 := rfl
                    have hey134 : F9c 19 = F9c 19 := rfl
                    have hey135 : F9c 20 = F9c 20 := rfl
                    refine z_lv (lv' := [(0, .ref (ad i)), (1, .int (zI (kk + 1)))]) [1, 0] rfl ?_
                    exact ih_lp3 _ (by omega) (kk + 1) _ _ gy122 rfl hMy127 hFFc (fun j j1 => by rw [egy123, va_up_ne _ _ (by omega)]; exact f3 j j1) (by omega) (by omega)
              have hMy136 : okMr cs ad g1 i (x) F9b r9b st op ai fa mu tb tp := okMr.upd fMb hg_y44 fMb.2.1 (fun f _ => rfl) ha1_y44 (hA_y44.mono (by omega)) (fun j a b => by
                  exact Or.inl (by rfl))
              have hFFc : (∀ f, f ≠ 12 → f ≠ 18 → f ≠ 19 → f ≠ 20 → f ≠ 21 → F9b f = F f) := fun f n12 n18 n19 n20 n21 => fFb f n12 n18 n19 n20 n21
              have hey137 : F9b 13 = F9b 13 := rfl
              have hey138 : F9b 14 = F9b 14 := rfl
              have hey139 : F9b 15 = F9b 15 := rfl
              have hey140 : F9b 16 = F9b 16 := rfl
              have hey141 : F9b 17 = F9b 17 := rfl
              have hey142 : F9b 18 = F9b 18 := rfl
              have hey143 : F9b 19 = F9b 19 := rfl
              have hey144 : F9b 20 = F9b 20 := rfl
              refine z_lv (lv' := [(0, .ref (ad i)), (1, .int (zI (0)))]) [1, 0] rfl ?_
              exact lp3 _ (0) _ _ g1 rfl hMy136 hFFc (fun j j1 => by exact f3 j j1) (by omega) (by omega)
            · refine z_aload_n C 0 dX10_image_92 rfl ?_
              refine z_get (v := .ref (ad (i + 8))) C (lt_A0 hN rfl) hay45 hg_y44 rfl inA_X10 7 (by decide) q_1466 rfl rfl dX10_image_93 ?_
              refine z_bipush (z := 8) C dX10_image_96 (by decide) ?_
              refine z_iload_n C 1 dX10_image_98 rfl ?_
              refine z_iadd C dX10_image_99 ?_
              refine z_aload_n C 0 dX10_image_100 rfl ?_
              refine z_get (v := .ref (ad (i + 8))) C (lt_A0 hN rfl) hay45 hg_y44 rfl inA_X10 7 (by decide) q_1466 rfl rfl dX10_image_101 ?_
              refine z_iload_n C 1 dX10_image_104 rfl ?_
              refine z_iald C (lt_A (c := 8) hN rfl) hay53 ha8_y44 ((kk).toNat) (by omega) (by omega) (by decide) dX10_image_105 ?_
              have hrfy145 := hns_y44 ((kk).toNat) (by omega)
              refine z_iast C (lt_A (c := 8) hN rfl) hay53 ha8_y44 ((8 + kk).toNat) (by omega) (by omega) (by decide) dX10_image_106 (fun gy146 egy147 => ?_)
              have hgy148 := up_s egy147
              refine z_aload_n C 0 dX10_image_107 rfl ?_
              have hgy149 := up_n egy147 hg_y44 (ne_o (i := i) (c := 0) (d := 8) rfl)
              refine z_get (v := .ref (ad (i + 9))) C (lt_A0 hN rfl) hay45 hgy149 rfl inA_X10 8 (by decide) q_1467 rfl rfl dX10_image_108 ?_
              refine z_bipush (z := 8) C dX10_image_111 (by decide) ?_
              refine z_iload_n C 1 dX10_image_113 rfl ?_
              refine z_iadd C dX10_image_114 ?_
              refine z_aload_n C 0 dX10_image_115 rfl ?_
              refine z_get (v := .ref (ad (i + 9))) C (lt_A0 hN rfl) hay45 hgy149 rfl inA_X10 8 (by decide) q_1467 rfl rfl dX10_image_116 ?_
              refine z_iload_n C 1 dX10_image_119 rfl ?_
              have hgy150 := up_n egy147 ha9_y44 (ne_o (i := i) (c := 9) (d := 8) rfl)
              refine z_iald C (lt_A (c := 9) hN rfl) hay54 hgy150 ((kk).toNat) (by omega) (by omega) (by decide) dX10_image_120 ?_
              refine z_iast C (lt_A (c := 9) hN rfl) hay54 hgy150 ((8 + kk).toNat) (by omega) (by omega) (by decide) dX10_image_121 (fun gy151 egy152 => ?_)
              have hgy153 := up_s egy152
              refine z_aload_n C 0 dX10_image_122 rfl ?_
              have hgy154 := up_n egy152 hgy149 (ne_o (i := i) (c := 0) (d := 9) rfl)
              refine z_get (v := .ref (ad (i + 10))) C (lt_A0 hN rfl) hay45 hgy154 rfl inA_X10 9 (by decide) q_1468 rfl rfl dX10_image_123 ?_
              refine z_bipush (z := 8) C dX10_image_126 (by decide) ?_
              refine z_iload_n C 1 dX10_image_128 rfl ?_
              refine z_iadd C dX10_image_129 ?_
              refine z_aload_n C 0 dX10_image_130 rfl ?_
              refine z_get (v := .ref (ad (i + 10))) C (lt_A0 hN rfl) hay45 hgy154 rfl inA_X10 9 (by decide) q_1468 rfl rfl dX10_image_131 ?_
              refine z_iload_n C 1 dX10_image_134 rfl ?_
              have hgy155 := up_n egy147 ha10_y44 (ne_o (i := i) (c := 10) (d := 8) rfl)
              have hgy156 := up_n egy152 hgy155 (ne_o (i := i) (c := 10) (d := 9) rfl)
              refine z_iald C (lt_A (c := 10) hN rfl) hay55 hgy156 ((kk).toNat) (by omega) (by omega) (by decide) dX10_image_135 ?_
              refine z_iast C (lt_A (c := 10) hN rfl) hay55 hgy156 ((8 + kk).toNat) (by omega) (by omega) (by decide) dX10_image_136 (fun gy157 egy158 => ?_)
              have hgy159 := up_s egy158
              refine z_iinc (z := kk + 1) (lv' := [(1, .int (zI (kk + 1))), (0, .ref (ad i))]) (j := 1) C dX10_image_137 rfl rfl (by decide) rfl ?_
              refine z_goto (tgt := 86) C dX10_image_140 (by decide) ?_
              have hgy160 := up_n egy158 hgy154 (ne_o (i := i) (c := 0) (d := 10) rfl)
              have hgy161 := up_n egy147 ha1_y44 (ne_o (i := i) (c := 1) (d := 8) rfl)
              have hgy162 := up_n egy152 hgy161 (ne_o (i := i) (c := 1) (d := 9) rfl)
              have hgy163 := up_n egy158 hgy162 (ne_o (i := i) (c := 1) (d := 10) rfl)
              have hgy165 := up_n egy152 hgy148 (ne_o (i := i) (c := 8) (d := 9) rfl)
              have hgy166 := up_n egy158 hgy165 (ne_o (i := i) (c := 8) (d := 10) rfl)
              have hgy167 := up_n egy158 hgy153 (ne_o (i := i) (c := 9) (d := 10) rfl)
              have hMy164 : okMr cs ad gy157 i (x) F9b r9b st op ai fa mu tb tp := okMr.upd fMb hgy160 fMb.2.1 (fun f _ => rfl) hgy163 (hA_y44.mono (by omega)) (fun j a b => by
                  by_cases e0 : j = i + 8
                  · exact Or.inr ⟨8, (uZ (ns_y44) ((8 + kk).toNat) (ns_y44 ((kk).toNat))), e0, (Or.inr (Or.inl ⟨rfl, uZ_any hns (by omega)⟩)), by rw [e0]; exact hgy166⟩
                  by_cases e1 : j = i + 9
                  · exact Or.inr ⟨9, _, e1, lsP.l (by decide), by rw [e1]; exact hgy167⟩
                  by_cases e2 : j = i + 10
                  · exact Or.inr ⟨10, _, e2, lsP.l (by decide), by rw [e2]; exact hgy159⟩
                  exact Or.inl (by rw [egy158, va_up_ne _ _ (by omega)]; rw [egy152, va_up_ne _ _ (by omega)]; rw [egy147, va_up_ne _ _ (by omega)]))
              have hFFb : (∀ f, f ≠ 12 → f ≠ 18 → f ≠ 19 → f ≠ 20 → f ≠ 21 → F9b f = F f) := fun f n12 n18 n19 n20 n21 => fFb f n12 n18 n19 n20 n21
              have hey168 : F9b 13 = F9b 13 := rfl
              have hey169 : F9b 14 = F9b 14 := rfl
              have hey170 : F9b 15 = F9b 15 := rfl
              have hey171 : F9b 16 = F9b 16 := rfl
              have hey172 : F9b 17 = F9b 17 := rfl
              have hey173 : F9b 18 = F9b 18 := rfl
              have hey174 : F9b 19 = F9b 19 := rfl
              have hey175 : F9b 20 = F9b 20 := rfl
              refine z_lv (lv' := [(0, .ref (ad i)), (1, .int (zI (kk + 1)))]) [1, 0] rfl ?_
              exact ih_lp2 _ (by omega) (kk + 1) _ _ gy157 rfl hMy164 hFFb (fun j j1 => by rw [egy158, va_up_ne _ _ (by omega)]; rw [egy152, va_up_ne _ _ (by omega)]; rw [egy147, va_up_ne _ _ (by omega)]; exact f3 j j1) (by omega) (by omega)
        have hgy176 := (f3w (i) (ne_o (i := i) (c := 0) (d := 12) rfl)).trans hgy42
        have hgy177 := up_n egy35 hcvy31 (ne_o (i := i) (c := 1) (d := 0) rfl)
        have hgy178 := up_n egy38 hgy177 (ne_o (i := i) (c := 1) (d := 0) rfl)
        have hgy179 := up_n egy41 hgy178 (ne_o (i := i) (c := 1) (d := 0) rfl)
        have hgy180 := (f3w (i + 1) (ne_o (i := i) (c := 1) (d := 12) rfl)).trans hgy179
        have hFy181 : ∀ f, f ≠ 12 → f ≠ 18 → f ≠ 19 → f ≠ 20 → (uZ (uZ (uZ (uZ F 12 (0)) 18 (F 15)) 19 (F 16)) 20 (F 17)) f = F f := fun f n12 n18 n19 n20 => ((uZ_n _ _ n20).trans ((uZ_n _ _ n19).trans ((uZ_n _ _ n18).trans ((uZ_n _ _ n12).trans rfl))))
        have hey182 : (uZ (uZ (uZ (uZ F 12 (0)) 18 (F 15)) 19 (F 16)) 20 (F 17)) 13 = F 13 := (fn (fn (fn (fn rfl (by decide)) (by decide)) (by decide)) (by decide))
        have hey183 : (uZ (uZ (uZ (uZ F 12 (0)) 18 (F 15)) 19 (F 16)) 20 (F 17)) 14 = F 14 := (fn (fn (fn (fn rfl (by decide)) (by decide)) (by decide)) (by decide))
        have hey184 : (uZ (uZ (uZ (uZ F 12 (0)) 18 (F 15)) 19 (F 16)) 20 (F 17)) 15 = F 15 := (fn (fn (fn (fn rfl (by decide)) (by decide)) (by decide)) (by decide))
        have hey185 : (uZ (uZ (uZ (uZ F 12 (0)) 18 (F 15)) 19 (F 16)) 20 (F 17)) 16 = F 16 := (fn (fn (fn (fn rfl (by decide)) (by decide)) (by decide)) (by decide))
        have hey186 : (uZ (uZ (uZ (uZ F 12 (0)) 18 (F 15)) 19 (F 16)) 20 (F 17)) 17 = F 17 := (fn (fn (fn (fn rfl (by decide)) (by decide)) (by decide)) (by decide))
        have hey187 : (uZ (uZ (uZ (uZ F 12 (0)) 18 (F 15)) 19 (F 16)) 20 (F 17)) 18 = F 15 := (fn (fn (uZ_s _ _ _) (by decide)) (by decide))
        have hey188 : (uZ (uZ (uZ (uZ F 12 (0)) 18 (F 15)) 19 (F 16)) 20 (F 17)) 19 = F 16 := (fn (uZ_s _ _ _) (by decide))
        have hey189 : (uZ (uZ (uZ (uZ F 12 (0)) 18 (F 15)) 19 (F 16)) 20 (F 17)) 20 = F 17 := (uZ_s _ _ _)
        have hey190 : (uZ (uZ (uZ (uZ F 12 (0)) 18 (F 15)) 19 (F 16)) 20 (F 17)) 21 = F 21 := (fn (fn (fn (fn rfl (by decide)) (by decide)) (by decide)) (by decide))
        have hey191 : (uZ (uZ (uZ (uZ F 12 (0)) 18 (F 15)) 19 (F 16)) 20 (F 17)) 23 = F 23 := (fn (fn (fn (fn rfl (by decide)) (by decide)) (by decide)) (by decide))
        have hey192 : (uZ (uZ (uZ (uZ F 12 (0)) 18 (F 15)) 19 (F 16)) 20 (F 17)) 25 = F 25 := (fn (fn (fn (fn rfl (by decide)) (by decide)) (by decide)) (by decide))
        have hey193 : (uZ (uZ (uZ (uZ F 12 (0)) 18 (F 15)) 19 (F 16)) 20 (F 17)) 27 = F 27 := (fn (fn (fn (fn rfl (by decide)) (by decide)) (by decide)) (by decide))
        have hey194 : (uZ (uZ (uZ (uZ F 12 (0)) 18 (F 15)) 19 (F 16)) 20 (F 17)) 28 = F 28 := (fn (fn (fn (fn rfl (by decide)) (by decide)) (by decide)) (by decide))
        have hey195 : (uZ (uZ (uZ (uZ F 12 (0)) 18 (F 15)) 19 (F 16)) 20 (F 17)) 29 = F 29 := (fn (fn (fn (fn rfl (by decide)) (by decide)) (by decide)) (by decide))
        have hKy196 : okF (uZ (uZ (uZ (uZ F 12 (0)) 18 (F 15)) 19 (F 16)) 20 (F 17)) := by unfold okF; omega
        have hMy197 : okMr cs ad g1 i (x) (uZ (uZ (uZ (uZ F 12 (0)) 18 (F 15)) 19 (F 16)) 20 (F 17)) rvy31 st op ai fa mu tb tp := okMr.upd hM hgy176 hKy196 (fun f a => hFy181 f (by omega) (by omega) (by omega) (by omega)) hgy180 (hAy32.mono (by omega)) (fun j a b => by
            by_cases e0 : j = i + 12
            · exact Or.inr ⟨12, (p9), e0, (Or.inr (Or.inr ⟨rfl, hP10⟩)), by rw [e0]; exact f2⟩
            exact Or.inl (by rw [f3w _ (by omega)]; rw [egy41, va_up_ne _ _ (by omega)]; rw [egy38, va_up_ne _ _ (by omega)]; rw [egy35, va_up_ne _ _ (by omega)]; rw [hfvy31 _ (by omega)]; rw [hfvy28 _ (by omega)]; rw [egy25, va_up_ne _ _ (by omega)]))
        have hFy198 : ∀ f, f ≠ 12 → f ≠ 18 → f ≠ 19 → f ≠ 20 → (uZ (uZ (uZ (uZ F 12 (0)) 18 (F 15)) 19 (F 16)) 20 (F 17)) f = F f := fun f n12 n18 n19 n20 => ((uZ_n _ _ n20).trans ((uZ_n _ _ n19).trans ((uZ_n _ _ n18).trans ((uZ_n _ _ n12).trans rfl))))
        have hFFb : (∀ f, f ≠ 12 → f ≠ 18 → f ≠ 19 → f ≠ 20 → f ≠ 21 → (uZ (uZ (uZ (uZ F 12 (0)) 18 (F 15)) 19 (F 16)) 20 (F 17)) f = F f) := fun f n12 n18 n19 n20 n21 => (hFy198 f n12 n18 n19 n20)
        have hey199 : (uZ (uZ (uZ (uZ F 12 (0)) 18 (F 15)) 19 (F 16)) 20 (F 17)) 13 = F 13 := (fn (fn (fn (fn rfl (by decide)) (by decide)) (by decide)) (by decide))
        have hey200 : (uZ (uZ (uZ (uZ F 12 (0)) 18 (F 15)) 19 (F 16)) 20 (F 17)) 14 = F 14 := (fn (fn (fn (fn rfl (by decide)) (by decide)) (by decide)) (by decide))
        have hey201 : (uZ (uZ (uZ (uZ F 12 (0)) 18 (F 15)) 19 (F 16)) 20 (F 17)) 15 = F 15 := (fn (fn (fn (fn rfl (by decide)) (by decide)) (by decide)) (by decide))
        have hey202 : (uZ (uZ (uZ (uZ F 12 (0)) 18 (F 15)) 19 (F 16)) 20 (F 17)) 16 = F 16 := (fn (fn (fn (fn rfl (by decide)) (by decide)) (by decide)) (by decide))
        have hey203 : (uZ (uZ (uZ (uZ F 12 (0)) 18 (F 15)) 19 (F 16)) 20 (F 17)) 17 = F 17 := (fn (fn (fn (fn rfl (by decide)) (by decide)) (by decide)) (by decide))
        have hey204 : (uZ (uZ (uZ (uZ F 12 (0)) 18 (F 15)) 19 (F 16)) 20 (F 17)) 18 = F 15 := (fn (fn (uZ_s _ _ _) (by decide)) (by decide))
        have hey205 : (uZ (uZ (uZ (uZ F 12 (0)) 18 (F 15)) 19 (F 16)) 20 (F 17)) 19 = F 16 := (fn (uZ_s _ _ _) (by decide))
        have hey206 : (uZ (uZ (uZ (uZ F 12 (0)) 18 (F 15)) 19 (F 16)) 20 (F 17)) 20 = F 17 := (uZ_s _ _ _)
        refine z_lv (lv' := [(0, .ref (ad i)), (1, .int (zI (0)))]) [1, 0] rfl ?_
        exact lp2 _ (0) _ _ g1 rfl hMy197 hFFb (fun j j1 => by rw [f3w _ (by omega)]; rw [egy41, va_up_ne _ _ (by omega)]; rw [egy38, va_up_ne _ _ (by omega)]; rw [egy35, va_up_ne _ _ (by omega)]; rw [hfvy31 _ (by omega)]; rw [hfvy28 _ (by omega)]; rw [egy25, va_up_ne _ _ (by omega)]) (by omega) (by omega)
      · refine z_aload_n C 0 dX10_image_62 rfl ?_
        have hgy207 := (f3w (i) (ne_o (i := i) (c := 0) (d := 12) rfl)).trans hgy42
        refine z_get (v := .ref (ad (i + 12))) C (lt_A0 hN rfl) hay1 hgy207 rfl inA_X10 11 (by decide) q_1470 rfl rfl dX10_image_63 ?_
        refine z_sipush (z := 540) C dX10_image_66 (by decide) ?_
        refine z_iload_n C 1 dX10_image_69 rfl ?_
        refine z_iadd C dX10_image_70 ?_
        refine z_aload_n C 0 dX10_image_71 rfl ?_
        refine z_get (v := .ref (ad (i + 12))) C (lt_A0 hN rfl) hay1 hgy207 rfl inA_X10 11 (by decide) q_1470 rfl rfl dX10_image_72 ?_
        refine z_iload_n C 1 dX10_image_75 rfl ?_
        refine z_iald C (lt_A (c := 12) hN rfl) hay13 f2 (nk) (by omega) (by omega) (by decide) dX10_image_76 ?_
        refine z_iast C (lt_A (c := 12) hN rfl) hay13 f2 (540 + nk) (by omega) (by omega) (by decide) dX10_image_77 (fun gy208 egy209 => ?_)
        have hgy210 := up_s egy209
        obtain ⟨ry211, hvy212⟩ : ∃ rZ9 : Nat → Int, rZ9 = uZ p9 (540 + nk) (p9 (nk)) := ⟨_, rfl⟩
        rw [← hvy212] at hgy210
        refine z_iinc (z := kk + 1) (lv' := [(1, .int (zI (kk + 1))), (0, .ref (ad i))]) (j := 1) C dX10_image_78 rfl rfl (by decide) rfl ?_
        refine z_goto (tgt := 55) C dX10_image_81 (by decide) ?_
        have hfry213 : ∀ j, j ≠ 540 + nk → ry211 j = p9 j := fun j n0 => (congrFun hvy212 _).trans ((uZ_n _ _ n0).trans (rfl))
        have hwy214 : ry211 (540 + nk) = p9 (nk) := (congrFun hvy212 _).trans (uZ_s _ _ _)
        have hsrc : p9 nk = pi nk := by have h9 := fA nk (by omega); rw [Nat.zero_add] at h9; exact h9
        have hfk9 : ∀ k : Nat, (k : Int) < kk + 1 → ry211 (540 + k) = pi (0 + k) := by
          intro k a
          by_cases e : k = nk
          · rw [e, Nat.zero_add]; have h9 : ry211 (540 + nk) = pi (nk) := by omega
            exact h9
          · rw [hfry213 _ (by omega)]; exact fk k (by omega)
        refine z_lv (lv' := [(0, .ref (ad i)), (1, .int (zI (kk + 1)))]) [1, 0] rfl ?_
        exact ih_lpw _ (by omega) (kk + 1) ry211 gy208 rfl hgy210 (fun j j1 => by rw [egy209, va_up_ne _ _ (by omega)]; exact f3w j j1) (fun m hm => (hfry213 _ (by omega)).trans (fA m hm)) hfk9 (by omega)
  have hgy215 := up_n egy25 ha12 (ne_o (i := i) (c := 12) (d := 0) rfl)
  have hgy216 := (hfvy28 (i + 12) (ne_o (i := i) (c := 12) (d := 1) rfl)).trans hgy215
  have hgy217 := (hfvy31 (i + 12) (ne_o (i := i) (c := 12) (d := 1) rfl)).trans hgy216
  have hgy218 := up_n egy35 hgy217 (ne_o (i := i) (c := 12) (d := 0) rfl)
  have hgy219 := up_n egy38 hgy218 (ne_o (i := i) (c := 12) (d := 0) rfl)
  have hgy220 := up_n egy41 hgy219 (ne_o (i := i) (c := 12) (d := 0) rfl)
  refine z_lv (lv' := [(0, .ref (ad i)), (1, .int (zI (0)))]) [1, 0] rfl ?_
  exact lpw _ (0) pi gy40 rfl hgy220 (fun j _ => rfl) (fun m _ => rfl) (fun k a => absurd a (by omega)) (by omega)

set_option maxRecDepth 100000 in
set_option maxHeartbeats 4000000 in
theorem c_X10_restore (l : Launch) (D : va_G) (A : Nat → Prop) (cs : Nat → ClassId) (tt : Nat) (N : Nat) (ad : Nat → Nat) (g : Nat → va_E) (i : Nat) (hN : i + 30 ≤ N) (x : Int) (hx : 0 ≤ x ∧ x ≤ 512) (F r : Nat → Int) {st op ai fa mu tb tp : Nat → Int} (hM : okMr cs ad g i x F r st op ai fa mu tb tp) : zM l yX10_restore cX10_restore 2 (some .boolean) ({ frames := 2, cells := 0, slots := 0, locals := 120 } : Room) D A cs tt N ad g [.ref (ad i)] (rI0 N ad fun q g' => (0 ≤ q ∧ q ≤ 1) ∧ (∃ F' r' : Nat → Int, okMr cs ad g' i (x + 1) F' r' st op ai fa mu tb tp ∧ ((q = 0 ∧ F 21 = 0 ∧ F' 17 = F 17) ∨ (q = 1 ∧ F 21 = 1 ∧ F' 17 = F 20)) ∧ (F' 13 = F 13 ∧ F' 14 = F 14 ∧ F' 17 = F' 17 ∧ F' 20 = F 20 ∧ F' 21 = F 21 ∧ F' 23 = F 23 ∧ F' 24 = F 24)) ∧ ∀ j, j < i ∨ i + 30 ≤ j → g' j = g j) := by
  obtain ⟨hg, ⟨⟨e13, e14, e25, e27, e29⟩, k15, k16, k17, k18, k19, k20, k23, k21⟩, hRD, hTx, hA, ns, nh, nd, rf, pi, te, ki, li, ok1, ok2, fo, dd, dps, ⟨ha1, ha2, ha3, ha4, ha5, ha6, ha7, ha8, ha9, ha10, ha11, ha12, ha13, ha14, ha15, ha24, ha25, ha26, ha27, ha28, ha29⟩, hEv, hPt, hns, htp⟩ := id hM
  obtain ⟨-, hop, hai, hfa, hT, hT1⟩ := id hEv
  have hay1 : zAt ad (i) (ad i) := rfl
  have hay2 : zAt ad (i + 1) (ad (i + 1)) := rfl
  have hay3 : zAt ad (i + 2) (ad (i + 2)) := rfl
  have hay4 : zAt ad (i + 3) (ad (i + 3)) := rfl
  have hay5 : zAt ad (i + 4) (ad (i + 4)) := rfl
  have hay6 : zAt ad (i + 5) (ad (i + 5)) := rfl
  have hay7 : zAt ad (i + 6) (ad (i + 6)) := rfl
  have hay8 : zAt ad (i + 7) (ad (i + 7)) := rfl
  have hay9 : zAt ad (i + 8) (ad (i + 8)) := rfl
  have hay10 : zAt ad (i + 9) (ad (i + 9)) := rfl
  have hay11 : zAt ad (i + 10) (ad (i + 10)) := rfl
  have hay12 : zAt ad (i + 11) (ad (i + 11)) := rfl
  have hay13 : zAt ad (i + 12) (ad (i + 12)) := rfl
  have hay14 : zAt ad (i + 13) (ad (i + 13)) := rfl
  have hay15 : zAt ad (i + 14) (ad (i + 14)) := rfl
  have hay16 : zAt ad (i + 15) (ad (i + 15)) := rfl
  have hay17 : zAt ad (i + 24) (ad (i + 24)) := rfl
  have hay18 : zAt ad (i + 25) (ad (i + 25)) := rfl
  have hay19 : zAt ad (i + 26) (ad (i + 26)) := rfl
  have hay20 : zAt ad (i + 27) (ad (i + 27)) := rfl
  have hay21 : zAt ad (i + 28) (ad (i + 28)) := rfl
  have hay22 : zAt ad (i + 29) (ad (i + 29)) := rfl
  obtain ⟨⟨hsyy23, htyy23, hnyy23, hpyy23⟩, hlyy23⟩ := okA.at0 hA
  simp only [Nat.zero_add] at hsyy23 hnyy23 hpyy23
  have hmn : ∀ s, s < 4 → 0 ≤ r (6 + 86 * s) ∧ r (6 + 86 * s) ≤ 12 := fun s hs => (hsyy23 s hs).1
  have h5 : 0 ≤ r 5 ∧ r 5 ≤ 6 := hpyy23
  refine z_of (by decide) (Nat.le_of_ble_eq_true rfl) ?_
  intro pZ eZ sZ mZ below meth cZ C hr hlk hnm
  refine z_lv (lv' := [(0, .ref (ad i))]) [0] rfl ?_
  refine z_aload_n C 0 dX10_restore_0 rfl ?_
  refine z_iconst (z := 0) C dX10_restore_1 rfl ?_
  refine z_put (fs' := mF ad (i) (uZ F 12 (0))) C (lt_A0 hN rfl) hay1 hg tyX10 tyX10_ok nmX10 rfl inA_X10 12 (by decide) q_1471 rfl rfl rfl rfl (Nat.le_of_ble_eq_true rfl) rfl dX10_restore_2 (fun gy24 egy25 => ?_)
  have hgy26 := up_s egy25
  refine z_aload_n C 0 dX10_restore_5 rfl ?_
  refine z_get (v := .int (zI (F 21))) C (lt_A0 hN rfl) hay1 hgy26 rfl inA_X10 21 (by decide) q_1480 rfl (fv (F := (uZ F 12 (0))) (f := 21) (fn rfl (by decide))) dX10_restore_6 ?_
  refine z_if_ne (tgt := 14) C dX10_restore_9 (by decide) (by omega) (fun hby27 => ?_) (fun hby27 => ?_)
  · refine z_aload_n C 0 dX10_restore_14 rfl ?_
    refine z_sipush (z := 14700) C dX10_restore_15 (by decide) ?_
    refine z_iconst (z := 0) C dX10_restore_18 rfl ?_
    refine z_sipush (z := 350) C dX10_restore_19 (by decide) ?_
    have hgy28 := up_n egy25 ha1 (ne_o (i := i) (c := 1) (d := 0) rfl)
    refine z_cV (As := [.int (zI (14700)), .int (zI (0)), .int (zI (350))]) (rest := []) (ci := 12) C (c_X10_copies l D A cs tt N ad _ i hN _ hgy26 _ hgy28 14700 0 350 (by omega) (by omega) (by omega)) (lt_A0 hN rfl) hay1 hgy26 rfl rfl mv_yX10_copies q_1877 hd_yX10_copies (by decide) (Nat.le_of_ble_eq_true rfl) (by decide) dX10_restore_22 rfl (kV0 fun gvy29 hvy29 => ?_)
    obtain ⟨⟨rvy29, hcvy29, hevy29, hovy29⟩, hfvy29⟩ := hvy29
    have hAy30 : okA rvy29 (x) := okA.copy (a := 42) (b := 0) (m := 1) hA (by omega) (by omega) (by omega) (fun k hk => hevy29 k (by omega)) (fun j hj => hovy29 j (by omega))
    refine z_aload_n C 0 dX10_restore_25 rfl ?_
    refine z_sipush (z := 15050) C dX10_restore_26 (by decide) ?_
    refine z_sipush (z := 700) C dX10_restore_29 (by decide) ?_
    refine z_sipush (z := 14000) C dX10_restore_32 (by decide) ?_
    have hgy31 := (hfvy29 (i) (ne_o (i := i) (c := 0) (d := 1) rfl)).trans hgy26
    refine z_cV (As := [.int (zI (15050)), .int (zI (700)), .int (zI (14000))]) (rest := []) (ci := 12) C (c_X10_copies l D A cs tt N ad _ i hN _ hgy31 _ hcvy29 15050 700 14000 (by omega) (by omega) (by omega)) (lt_A0 hN rfl) hay1 hgy31 rfl rfl mv_yX10_copies q_1877 hd_yX10_copies (by decide) (Nat.le_of_ble_eq_true rfl) (by decide) dX10_restore_35 rfl (kV0 fun gvy32 hvy32 => ?_)
    obtain ⟨⟨rvy32, hcvy32, hevy32, hovy32⟩, hfvy32⟩ := hvy32
    have hAy33 : okA rvy32 (x) := okA.copy (a := 43) (b := 2) (m := 40) hAy30 (by omega) (by omega) (by omega) (fun k hk => hevy32 k (by omega)) (fun j hj => hovy32 j (by omega))
    refine z_aload_n C 0 dX10_restore_38 rfl ?_
    refine z_aload_n C 0 dX10_restore_39 rfl ?_
    have hgy34 := (hfvy32 (i) (ne_o (i := i) (c := 0) (d := 1) rfl)).trans hgy31
    refine z_get (v := .int (zI (F 18))) C (lt_A0 hN rfl) hay1 hgy34 rfl inA_X10 18 (by decide) q_1477 rfl (fv (F := (uZ F 12 (0))) (f := 18) (fn rfl (by decide))) dX10_restore_40 ?_
    refine z_put (fs' := mF ad (i) (uZ (uZ F 12 (0)) 15 (F 18))) C (lt_A0 hN rfl) hay1 hgy34 tyX10 tyX10_ok nmX10 rfl inA_X10 15 (by decide) q_1474 rfl rfl rfl rfl (Nat.le_of_ble_eq_true rfl) rfl dX10_restore_43 (fun gy35 egy36 => ?_)
    have hgy37 := up_s egy36
    refine z_aload_n C 0 dX10_restore_46 rfl ?_
    refine z_aload_n C 0 dX10_restore_47 rfl ?_
    refine z_get (v := .int (zI (F 19))) C (lt_A0 hN rfl) hay1 hgy37 rfl inA_X10 19 (by decide) q_1478 rfl (fv (F := (uZ (uZ F 12 (0)) 15 (F 18))) (f := 19) (fn (fn rfl (by decide)) (by decide))) dX10_restore_48 ?_
    refine z_put (fs' := mF ad (i) (uZ (uZ (uZ F 12 (0)) 15 (F 18)) 16 (F 19))) C (lt_A0 hN rfl) hay1 hgy37 tyX10 tyX10_ok nmX10 rfl inA_X10 16 (by decide) q_1475 rfl rfl rfl rfl (Nat.le_of_ble_eq_true rfl) rfl dX10_restore_51 (fun gy38 egy39 => ?_)
    have hgy40 := up_s egy39
    refine z_aload_n C 0 dX10_restore_54 rfl ?_
    refine z_aload_n C 0 dX10_restore_55 rfl ?_
    refine z_get (v := .int (zI (F 20))) C (lt_A0 hN rfl) hay1 hgy40 rfl inA_X10 20 (by decide) q_1479 rfl (fv (F := (uZ (uZ (uZ F 12 (0)) 15 (F 18)) 16 (F 19))) (f := 20) (fn (fn (fn rfl (by decide)) (by decide)) (by decide))) dX10_restore_56 ?_
    refine z_put (fs' := mF ad (i) (uZ (uZ (uZ (uZ F 12 (0)) 15 (F 18)) 16 (F 19)) 17 (F 20))) C (lt_A0 hN rfl) hay1 hgy40 tyX10 tyX10_ok nmX10 rfl inA_X10 17 (by decide) q_1476 rfl rfl rfl rfl (Nat.le_of_ble_eq_true rfl) rfl dX10_restore_59 (fun gy41 egy42 => ?_)
    have hgy43 := up_s egy42
    refine z_iconst (z := 0) C dX10_restore_62 rfl ?_
    refine z_istore_n (lv' := [(1, .int (zI (0))), (0, .ref (ad i))]) C dX10_restore_63 rfl (by decide) rfl ?_
    have lpw : ∀ (n9 : Nat) (kk : Int) (p9 : Nat → Int) (g1 : Nat → va_E), (541 - kk).toNat = n9 → (g1 (i + 12) = iA cs 1080 p9) → (∀ j, j ≠ i + 12 → g1 j = gy41 j) → (∀ m, m < 540 → p9 (540 + m) = pi (540 + m)) → (∀ k : Nat, (k : Int) < kk → p9 (0 + k) = pi (540 + k)) → (0 ≤ kk ∧ kk ≤ 540) → zV pZ l eZ ({ frames := 2, cells := 0, slots := 0, locals := 120 } : Room) sZ mZ ([.ref (ad i)] : List Value).toArray below meth cZ (MQ below (zPost D A (rI0 N ad fun q g' => (0 ≤ q ∧ q ≤ 1) ∧ (∃ F' r' : Nat → Int, okMr cs ad g' i (x + 1) F' r' st op ai fa mu tb tp ∧ ((q = 0 ∧ F 21 = 0 ∧ F' 17 = F 17) ∨ (q = 1 ∧ F 21 = 1 ∧ F' 17 = F 20)) ∧ (F' 13 = F 13 ∧ F' 14 = F 14 ∧ F' 17 = F' 17 ∧ F' 20 = F 20 ∧ F' 21 = F 21 ∧ F' 23 = F 23 ∧ F' 24 = F 24)) ∧ ∀ j, j < i ∨ i + 30 ≤ j → g' j = g j)) ([.ref (ad i)] : List Value).toArray sZ ({ frames := 2, cells := 0, slots := 0, locals := 120 } : Room).cells ({ frames := 2, cells := 0, slots := 0, locals := 120 } : Room).slots A) D A 2 (N) ad g1 (0) (0) 64 [(0, .ref (ad i)), (1, .int (zI (kk)))] [] := by
      intro n9
      induction n9 using Nat.strongRecOn with
      | ind n9 ih_lpw =>
        intro kk p9 g1 hm9 f2 f3w fA fk hvk
        obtain ⟨nk, hnk⟩ : ∃ n9 : Nat, kk = (n9 : Int) := ⟨kk.toNat, by omega⟩
        have hP9 : kk = 540 → okPt p9 := fun e => okPt.cpy (a := 6) (b := 0) hPt (by omega) (fun m hm => fk m (by omega)) (fun m hm => fA m hm)
        refine z_iload_n C 1 dX10_restore_64 rfl ?_
        refine z_sipush (z := 540) C dX10_restore_65 (by decide) ?_
        refine z_icmp_ge (tgt := 93) C dX10_restore_68 (by decide) (by omega) (by omega) (fun hby44 => ?_) (fun hby44 => ?_)
        · refine z_iconst (z := 0) C dX10_restore_93 rfl ?_
          refine z_istore_n (lv' := [(1, .int (zI (0))), (0, .ref (ad i))]) C dX10_restore_94 rfl (by decide) rfl ?_
          have hP10 := hP9 (by omega)
          have lp2 : ∀ (n9 : Nat) (kk : Int) (F9b : Nat → Int) (r9b : Nat → Int) (g1 : Nat → va_E), (9 - kk).toNat = n9 → (okMr cs ad g1 i x F9b r9b st op ai fa mu tb tp) → ((∀ f, f ≠ 12 → f ≠ 15 → f ≠ 16 → f ≠ 17 → F9b f = F f)) → (∀ j, j < i ∨ i + 30 ≤ j → g1 j = g j) → (0 ≤ kk ∧ kk ≤ 8) → (F9b 17 = F 20 ∧ F 21 = 1) → zV pZ l eZ ({ frames := 2, cells := 0, slots := 0, locals := 120 } : Room) sZ mZ ([.ref (ad i)] : List Value).toArray below meth cZ (MQ below (zPost D A (rI0 N ad fun q g' => (0 ≤ q ∧ q ≤ 1) ∧ (∃ F' r' : Nat → Int, okMr cs ad g' i (x + 1) F' r' st op ai fa mu tb tp ∧ ((q = 0 ∧ F 21 = 0 ∧ F' 17 = F 17) ∨ (q = 1 ∧ F 21 = 1 ∧ F' 17 = F 20)) ∧ (F' 13 = F 13 ∧ F' 14 = F 14 ∧ F' 17 = F' 17 ∧ F' 20 = F 20 ∧ F' 21 = F 21 ∧ F' 23 = F 23 ∧ F' 24 = F 24)) ∧ ∀ j, j < i ∨ i + 30 ≤ j → g' j = g j)) ([.ref (ad i)] : List Value).toArray sZ ({ frames := 2, cells := 0, slots := 0, locals := 120 } : Room).cells ({ frames := 2, cells := 0, slots := 0, locals := 120 } : Room).slots A) D A 2 (N) ad g1 (0) (0) 95 [(0, .ref (ad i)), (1, .int (zI (kk)))] [] := by
            intro n9
            induction n9 using Nat.strongRecOn with
            | ind n9 ih_lp2 =>
              intro kk F9b r9b g1 hm9 fMb fFb f3 hvlp20 hvlp21
              obtain ⟨hg_y45, ⟨⟨e13_y45, e14_y45, e25_y45, e27_y45, e29_y45⟩, k15_y45, k16_y45, k17_y45, k18_y45, k19_y45, k20_y45, k23_y45, k21_y45⟩, hRD_y45, hTx_y45, hA_y45, ns_y45, nh_y45, nd_y45, rf_y45, pi_y45, te_y45, ki_y45, li_y45, ok1_y45, ok2_y45, fo_y45, dd_y45, dps_y45, ⟨ha1_y45, ha2_y45, ha3_y45, ha4_y45, ha5_y45, ha6_y45, ha7_y45, ha8_y45, ha9_y45, ha10_y45, ha11_y45, ha12_y45, ha13_y45, ha14_y45, ha15_y45, ha24_y45, ha25_y45, ha26_y45, ha27_y45, ha28_y45, ha29_y45⟩, hEv_y45, hPt_y45, hns_y45, htp_y45⟩ := id fMb
              obtain ⟨-, hop_y45, hai_y45, hfa_y45, hT_y45, hT1_y45⟩ := id hEv_y45
              have e14 := e14_y45
              have e25 := e25_y45
              have e27 := e27_y45
              have e29 := e29_y45
              have hop := hop_y45
              have hai := hai_y45
              have hfa := hfa_y45
              have hT := hT_y45
              have hT1 := hT1_y45
              have hEv := hEv_y45
              have htp := htp_y45
              have hns := hns_y45
              have hPt := hPt_y45
              have hay46 : zAt ad (i) (ad i) := rfl
              have hay47 : zAt ad (i + 1) (ad (i + 1)) := rfl
              have hay48 : zAt ad (i + 2) (ad (i + 2)) := rfl
              have hay49 : zAt ad (i + 3) (ad (i + 3)) := rfl
              have hay50 : zAt ad (i + 4) (ad (i + 4)) := rfl
              have hay51 : zAt ad (i + 5) (ad (i + 5)) := rfl
              have hay52 : zAt ad (i + 6) (ad (i + 6)) := rfl
              have hay53 : zAt ad (i + 7) (ad (i + 7)) := rfl
              have hay54 : zAt ad (i + 8) (ad (i + 8)) := rfl
              have hay55 : zAt ad (i + 9) (ad (i + 9)) := rfl
              have hay56 : zAt ad (i + 10) (ad (i + 10)) := rfl
              have hay57 : zAt ad (i + 11) (ad (i + 11)) := rfl
              have hay58 : zAt ad (i + 12) (ad (i + 12)) := rfl
              have hay59 : zAt ad (i + 13) (ad (i + 13)) := rfl
              have hay60 : zAt ad (i + 14) (ad (i + 14)) := rfl
              have hay61 : zAt ad (i + 15) (ad (i + 15)) := rfl
              have hay62 : zAt ad (i + 24) (ad (i + 24)) := rfl
              have hay63 : zAt ad (i + 25) (ad (i + 25)) := rfl
              have hay64 : zAt ad (i + 26) (ad (i + 26)) := rfl
              have hay65 : zAt ad (i + 27) (ad (i + 27)) := rfl
              have hay66 : zAt ad (i + 28) (ad (i + 28)) := rfl
              have hay67 : zAt ad (i + 29) (ad (i + 29)) := rfl
              obtain ⟨⟨hsyy68, htyy68, hnyy68, hpyy68⟩, hlyy68⟩ := okA.at0 hA_y45
              simp only [Nat.zero_add] at hsyy68 hnyy68 hpyy68
              have hmn : ∀ s, s < 4 → 0 ≤ r9b (6 + 86 * s) ∧ r9b (6 + 86 * s) ≤ 12 := fun s hs => (hsyy68 s hs).1
              have h5 : 0 ≤ r9b 5 ∧ r9b 5 ≤ 6 := hpyy68
              have h13be : F9b 13 = F 13 := fFb 13 (by decide) (by decide) (by decide) (by decide)
              have h14be : F9b 14 = F 14 := fFb 14 (by decide) (by decide) (by decide) (by decide)
              have h20be : F9b 20 = F 20 := fFb 20 (by decide) (by decide) (by decide) (by decide)
              have h21be : F9b 21 = F 21 := fFb 21 (by decide) (by decide) (by decide) (by decide)
              have h23be : F9b 23 = F 23 := fFb 23 (by decide) (by decide) (by decide) (by decide)
              have h24be : F9b 24 = F 24 := fFb 24 (by decide) (by decide) (by decide) (by decide)
              refine z_iload_n C 1 dX10_restore_95 rfl ?_
              refine z_bipush (z := 8) C dX10_restore_96 (by decide) ?_
              refine z_icmp_ge (tgt := 152) C dX10_restore_98 (by decide) (by omega) (by omega) (fun hby69 => ?_) (fun hby69 => ?_)
              · refine z_iconst (z := 0) C dX10_restore_152 rfl ?_
                refine z_istore_n (lv' := [(1, .int (zI (0))), (0, .ref (ad i))]) C dX10_restore_153 rfl (by decide) rfl ?_
                have lp3 : ∀ (n9 : Nat) (kk : Int) (F9c : Nat → Int) (r9c : Nat → Int) (g1 : Nat → va_E), (4 - kk).toNat = n9 → (okMr cs ad g1 i x F9c r9c st op ai fa mu tb tp) → ((∀ f, f ≠ 12 → f ≠ 15 → f ≠ 16 → f ≠ 17 → F9c f = F f)) → (∀ j, j < i ∨ i + 30 ≤ j → g1 j = g j) → (0 ≤ kk ∧ kk ≤ 3) → (F9c 17 = F 20 ∧ F 21 = 1) → zV pZ l eZ ({ frames := 2, cells := 0, slots := 0, locals := 120 } : Room) sZ mZ ([.ref (ad i)] : List Value).toArray below meth cZ (MQ below (zPost D A (rI0 N ad fun q g' => (0 ≤ q ∧ q ≤ 1) ∧ (∃ F' r' : Nat → Int, okMr cs ad g' i (x + 1) F' r' st op ai fa mu tb tp ∧ ((q = 0 ∧ F 21 = 0 ∧ F' 17 = F 17) ∨ (q = 1 ∧ F 21 = 1 ∧ F' 17 = F 20)) ∧ (F' 13 = F 13 ∧ F' 14 = F 14 ∧ F' 17 = F' 17 ∧ F' 20 = F 20 ∧ F' 21 = F 21 ∧ F' 23 = F 23 ∧ F' 24 = F 24)) ∧ ∀ j, j < i ∨ i + 30 ≤ j → g' j = g j)) ([.ref (ad i)] : List Value).toArray sZ ({ frames := 2, cells := 0, slots := 0, locals := 120 } : Room).cells ({ frames := 2, cells := 0, slots := 0, locals := 120 } : Room).slots A) D A 2 (N) ad g1 (0) (0) 154 [(0, .ref (ad i)), (1, .int (zI (kk)))] [] := by
                  intro n9
                  induction n9 using Nat.strongRecOn with
                  | ind n9 ih_lp3 =>
                    intro kk F9c r9c g1 hm9 fMc fFc f3 hvlp30 hvlp31
                    obtain ⟨hg_y70, ⟨⟨e13_y70, e14_y70, e25_y70, e27_y70, e29_y70⟩, k15_y70, k16_y70, k17_y70, k18_y70, k19_y70, k20_y70, k23_y70, k21_y70⟩, hRD_y70, hTx_y70, hA_y70, ns_y70, nh_y70, nd_y70, rf_y70, pi_y70, te_y70, ki_y70, li_y70, ok1_y70, ok2_y70, fo_y70, dd_y70, dps_y70, ⟨ha1_y70, ha2_y70, ha3_y70, ha4_y70, ha5_y70, ha6_y70, ha7_y70, ha8_y70, ha9_y70, ha10_y70, ha11_y70, ha12_y70, ha13_y70, ha14_y70, ha15_y70, ha24_y70, ha25_y70, ha26_y70, ha27_y70, ha28_y70, ha29_y70⟩, hEv_y70, hPt_y70, hns_y70, htp_y70⟩ := id fMc
                    obtain ⟨-, hop_y70, hai_y70, hfa_y70, hT_y70, hT1_y70⟩ := id hEv_y70
                    have e14 := e14_y70
                    have e25 := e25_y70
                    have e27 := e27_y70
                    have e29 := e29_y70
                    have hop := hop_y70
                    have hai := hai_y70
                    have hfa := hfa_y70
                    have hT := hT_y70
                    have hT1 := hT1_y70
                    have hEv := hEv_y70
                    have htp := htp_y70
                    have hns := hns_y70
                    have hPt := hPt_y70
                    have hay71 : zAt ad (i) (ad i) := rfl
                    have hay72 : zAt ad (i + 1) (ad (i + 1)) := rfl
                    have hay73 : zAt ad (i + 2) (ad (i + 2)) := rfl
                    have hay74 : zAt ad (i + 3) (ad (i + 3)) := rfl
                    have hay75 : zAt ad (i + 4) (ad (i + 4)) := rfl
                    have hay76 : zAt ad (i + 5) (ad (i + 5)) := rfl
                    have hay77 : zAt ad (i + 6) (ad (i + 6)) := rfl
                    have hay78 : zAt ad (i + 7) (ad (i + 7)) := rfl
                    have hay79 : zAt ad (i + 8) (ad (i + 8)) := rfl
                    have hay80 : zAt ad (i + 9) (ad (i + 9)) := rfl
                    have hay81 : zAt ad (i + 10) (ad (i + 10)) := rfl
                    have hay82 : zAt ad (i + 11) (ad (i + 11)) := rfl
                    have hay83 : zAt ad (i + 12) (ad (i + 12)) := rfl
                    have hay84 : zAt ad (i + 13) (ad (i + 13)) := rfl
                    have hay85 : zAt ad (i + 14) (ad (i + 14)) := rfl
                    have hay86 : zAt ad (i + 15) (ad (i + 15)) := rfl
                    have hay87 : zAt ad (i + 24) (ad (i + 24)) := rfl
                    have hay88 : zAt ad (i + 25) (ad (i + 25)) := rfl
                    have hay89 : zAt ad (i + 26) (ad (i + 26)) := rfl
                    have hay90 : zAt ad (i + 27) (ad (i + 27)) := rfl
                    have hay91 : zAt ad (i + 28) (ad (i + 28)) := rfl
                    have hay92 : zAt ad (i + 29) (ad (i + 29)) := rfl
                    obtain ⟨⟨hsyy93, htyy93, hnyy93, hpyy93⟩, hlyy93⟩ := okA.at0 hA_y70
                    simp only [Nat.zero_add] at hsyy93 hnyy93 hpyy93
                    have hmn : ∀ s, s < 4 → 0 ≤ r9c (6 + 86 * s) ∧ r9c (6 + 86 * s) ≤ 12 := fun s hs => (hsyy93 s hs).1
                    have h5 : 0 ≤ r9c 5 ∧ r9c 5 ≤ 6 := hpyy93
                    have h13ce : F9c 13 = F 13 := fFc 13 (by decide) (by decide) (by decide) (by decide)
                    have h14ce : F9c 14 = F 14 := fFc 14 (by decide) (by decide) (by decide) (by decide)
                    have h20ce : F9c 20 = F 20 := fFc 20 (by decide) (by decide) (by decide) (by decide)
                    have h21ce : F9c 21 = F 21 := fFc 21 (by decide) (by decide) (by decide) (by decide)
                    have h23ce : F9c 23 = F 23 := fFc 23 (by decide) (by decide) (by decide) (by decide)
                    have h24ce : F9c 24 = F 24 := fFc 24 (by decide) (by decide) (by decide) (by decide)
                    refine z_iload_n C 1 dX10_restore_154 rfl ?_
                    refine z_iconst (z := 3) C dX10_restore_155 rfl ?_
                    refine z_icmp_ge (tgt := 179) C dX10_restore_156 (by decide) (by omega) (by omega) (fun hby94 => ?_) (fun hby94 => ?_)
                    · refine z_iconst (z := 1) C dX10_restore_179 rfl ?_
                      have hMy95 : okMr cs ad g1 i (x + 1) F9c r9c st op ai fa mu tb tp := okMr.upd fMc hg_y70 fMc.2.1 (fun f _ => rfl) ha1_y70 (hA_y70.mono (by omega)) (fun j a b => by
                          exact Or.inl (by rfl))
                      have hkpy96 : F9c 13 = F9c 13 := rfl
                      have hkpy97 : F9c 14 = F9c 14 := rfl
                      have hkpy98 : F9c 17 = F9c 17 := rfl
                      have hkpy99 : F9c 20 = F9c 20 := rfl
                      have hkpy100 : F9c 21 = F9c 21 := rfl
                      have hkpy101 : F9c 23 = F9c 23 := rfl
                      have hkpy102 : F9c 24 = F9c 24 := rfl
                      exact z_zret C hr hlk dX10_restore_180 (by decide) (by decide) (by decide) ⟨1, rfl, rfl, rfl, by omega, ⟨_, _, hMy95, by omega, by omega⟩, fun j j1 => by exact f3 j j1⟩
                    · refine z_aload_n C 0 dX10_restore_159 rfl ?_
                      refine z_get (v := .ref (ad (i + 11))) C (lt_A0 hN rfl) hay71 hg_y70 rfl inA_X10 10 (by decide) q_1469 rfl rfl dX10_restore_160 ?_
                      refine z_iload_n C 1 dX10_restore_163 rfl ?_
                      refine z_aload_n C 0 dX10_restore_164 rfl ?_
                      refine z_get (v := .ref (ad (i + 11))) C (lt_A0 hN rfl) hay71 hg_y70 rfl inA_X10 10 (by decide) q_1469 rfl rfl dX10_restore_165 ?_
                      refine z_iconst (z := 3) C dX10_restore_168 rfl ?_
                      refine z_iload_n C 1 dX10_restore_169 rfl ?_
                      refine z_iadd C dX10_restore_170 ?_
                      refine z_iald C (lt_A (c := 11) hN rfl) hay82 ha11_y70 ((3 + kk).toNat) (by omega) (by omega) (by decide) dX10_restore_171 ?_
                      refine z_iast C (lt_A (c := 11) hN rfl) hay82 ha11_y70 ((kk).toNat) (by omega) (by omega) (by decide) dX10_restore_172 (fun gy103 egy104 => ?_)
                      have hgy105 := up_s egy104
                      refine z_iinc (z := kk + 1) (lv' := [(1, .int (zI (kk + 1))), (0, .ref (ad i))]) (j := 1) C dX10_restore_173 rfl rfl (by decide) rfl ?_
                      refine z_goto (tgt := 154) C dX10_restore_176 (by decide) ?_
                      have hgy106 := up_n egy104 hg_y70 (ne_o (i := i) (c := 0) (d := 11) rfl)
                      have hgy107 := up_n egy104 ha1_y70 (ne_o (i := i) (c := 1) (d := 11) rfl)
                      have hMy108 : okMr cs ad gy103 i (x) F9c r9c st op ai fa mu tb tp := okMr.upd fMc hgy106 fMc.2.1 (fun f _ => rfl) hgy107 (hA_y70.mono (by omega)) (fun j a b => by
                          by_cases e0 : j = i + 11
                          · exact Or.inr ⟨11, _, e0, lsP.l (by decide), by rw [e0]; exact hgy105⟩
                          exact Or.inl (by rw [egy104, va_up_ne _ _ (by omega)]))
                      have hFFc : (∀ f, f ≠ 12 → f ≠ 15 → f ≠ 16 → f ≠ 17 → F9c f = F f) := fun f n12 n15 n16 n17 => fFc f n12 n15 n16 n17
                      have hey109 : F9c 13 = F9c 13 := rfl
                      have hey110 : F9c 14 = F9c 14 := rfl
                      have hey111 : F9c 15 = F9c 15 := rfl
                      have hey112 : F9c 16 = F9c 16 := rfl
                      have hey113 : F9c 17 = F9c 17 := rfl
                      have hey114 : F9c 18 = F9c 18 := rfl
                      have hey115 : F9c 19 = F9c 19 := rfl
                      have hey116 : F9c 20 = F9c 20 := rfl
                      refine z_lv (lv' := [(0, .ref (ad i)), (1, .int (zI (kk + 1)))]) [1, 0] rfl ?_
                      exact ih_lp3 _ (by omega) (kk + 1) _ _ gy103 rfl hMy108 hFFc (fun j j1 => by rw [egy104, va_up_ne _ _ (by omega)]; exact f3 j j1) (by omega) (by omega)
                have hMy117 : okMr cs ad g1 i (x) F9b r9b st op ai fa mu tb tp := okMr.upd fMb hg_y45 fMb.2.1 (fun f _ => rfl) ha1_y45 (hA_y45.mono (by omega)) (fun j a b => by
                    exact Or.inl (by rfl))
                have hFFc : (∀ f, f ≠ 12 → f ≠ 15 → f ≠ 16 → f ≠ 17 → F9b f = F f) := fun f n12 n15 n16 n17 => fFb f n12 n15 n16 n17
                have hey118 : F9b 13 = F9b 13 := rfl
                have hey119 : F9b 14 = F9b 14 := rfl
                have hey120 : F9b 15 = F9b 15 := rfl
                have hey121 : F9b 16 = F9b 16 := rfl
                have hey122 : F9b 17 = F9b 17 := rfl
                have hey123 : F9b 18 = F9b 18 := rfl
                have hey124 : F9b 19 = F9b 19 := rfl
                have hey125 : F9b 20 = F9b 20 := rfl
                refine z_lv (lv' := [(0, .ref (ad i)), (1, .int (zI (0)))]) [1, 0] rfl ?_
                exact lp3 _ (0) _ _ g1 rfl hMy117 hFFc (fun j j1 => by exact f3 j j1) (by omega) (by omega)
              · refine z_aload_n C 0 dX10_restore_101 rfl ?_
                refine z_get (v := .ref (ad (i + 8))) C (lt_A0 hN rfl) hay46 hg_y45 rfl inA_X10 7 (by decide) q_1466 rfl rfl dX10_restore_102 ?_
                refine z_iload_n C 1 dX10_restore_105 rfl ?_
                refine z_aload_n C 0 dX10_restore_106 rfl ?_
                refine z_get (v := .ref (ad (i + 8))) C (lt_A0 hN rfl) hay46 hg_y45 rfl inA_X10 7 (by decide) q_1466 rfl rfl dX10_restore_107 ?_
                refine z_bipush (z := 8) C dX10_restore_110 (by decide) ?_
                refine z_iload_n C 1 dX10_restore_112 rfl ?_
                refine z_iadd C dX10_restore_113 ?_
                refine z_iald C (lt_A (c := 8) hN rfl) hay54 ha8_y45 ((8 + kk).toNat) (by omega) (by omega) (by decide) dX10_restore_114 ?_
                have hrfy126 := hns_y45 ((8 + kk).toNat) (by omega)
                refine z_iast C (lt_A (c := 8) hN rfl) hay54 ha8_y45 ((kk).toNat) (by omega) (by omega) (by decide) dX10_restore_115 (fun gy127 egy128 => ?_)
                have hgy129 := up_s egy128
                refine z_aload_n C 0 dX10_restore_116 rfl ?_
                have hgy130 := up_n egy128 hg_y45 (ne_o (i := i) (c := 0) (d := 8) rfl)
                refine z_get (v := .ref (ad (i + 9))) C (lt_A0 hN rfl) hay46 hgy130 rfl inA_X10 8 (by decide) q_1467 rfl rfl dX10_restore_117 ?_
                refine z_iload_n C 1 dX10_restore_120 rfl ?_
                refine z_aload_n C 0 dX10_restore_121 rfl ?_
                refine z_get (v := .ref (ad (i + 9))) C (lt_A0 hN rfl) hay46 hgy130 rfl inA_X10 8 (by decide) q_1467 rfl rfl dX10_restore_122 ?_
                refine z_bipush (z := 8) C dX10_restore_125 (by decide) ?_
                refine z_iload_n C 1 dX10_restore_127 rfl ?_
                refine z_iadd C dX10_restore_128 ?_
                have hgy131 := up_n egy128 ha9_y45 (ne_o (i := i) (c := 9) (d := 8) rfl)
                refine z_iald C (lt_A (c := 9) hN rfl) hay55 hgy131 ((8 + kk).toNat) (by omega) (by omega) (by decide) dX10_restore_129 ?_
                refine z_iast C (lt_A (c := 9) hN rfl) hay55 hgy131 ((kk).toNat) (by omega) (by omega) (by decide) dX10_restore_130 (fun gy132 egy133 => ?_)
                have hgy134 := up_s egy133
                refine z_aload_n C 0 dX10_restore_131 rfl ?_
                have hgy135 := up_n egy133 hgy130 (ne_o (i := i) (c := 0) (d := 9) rfl)
                refine z_get (v := .ref (ad (i + 10))) C (lt_A0 hN rfl) hay46 hgy135 rfl inA_X10 9 (by decide) q_1468 rfl rfl dX10_restore_132 ?_
                refine z_iload_n C 1 dX10_restore_135 rfl ?_
                refine z_aload_n C 0 dX10_restore_136 rfl ?_
                refine z_get (v := .ref (ad (i + 10))) C (lt_A0 hN rfl) hay46 hgy135 rfl inA_X10 9 (by decide) q_1468 rfl rfl dX10_restore_137 ?_
                refine z_bipush (z := 8) C dX10_restore_140 (by decide) ?_
                refine z_iload_n C 1 dX10_restore_142 rfl ?_
                refine z_iadd C dX10_restore_143 ?_
                have hgy136 := up_n egy128 ha10_y45 (ne_o (i := i) (c := 10) (d := 8) rfl)
                have hgy137 := up_n egy133 hgy136 (ne_o (i := i) (c := 10) (d := 9) rfl)
                refine z_iald C (lt_A (c := 10) hN rfl) hay56 hgy137 ((8 + kk).toNat) (by omega) (by omega) (by decide) dX10_restore_144 ?_
                refine z_iast C (lt_A (c := 10) hN rfl) hay56 hgy137 ((kk).toNat) (by omega) (by omega) (by decide) dX10_restore_145 (fun gy138 egy139 => ?_)
                have hgy140 := up_s egy139
                refine z_iinc (z := kk + 1) (lv' := [(1, .int (zI (kk + 1))), (0, .ref (ad i))]) (j := 1) C dX10_restore_146 rfl rfl (by decide) rfl ?_
                refine z_goto (tgt := 95) C dX10_restore_149 (by decide) ?_
                have hgy141 := up_n egy139 hgy135 (ne_o (i := i) (c := 0) (d := 10) rfl)
                have hgy142 := up_n egy128 ha1_y45 (ne_o (i := i) (c := 1) (d := 8) rfl)
                have hgy143 := up_n egy133 hgy142 (ne_o (i := i) (c := 1) (d := 9) rfl)
                have hgy144 := up_n egy139 hgy143 (ne_o (i := i) (c := 1) (d := 10) rfl)
                have hgy146 := up_n egy133 hgy129 (ne_o (i := i) (c := 8) (d := 9) rfl)
                have hgy147 := up_n egy139 hgy146 (ne_o (i := i) (c := 8) (d := 10) rfl)
                have hgy148 := up_n egy139 hgy134 (ne_o (i := i) (c := 9) (d := 10) rfl)
                have hMy145 : okMr cs ad gy138 i (x) F9b r9b st op ai fa mu tb tp := okMr.upd fMb hgy141 fMb.2.1 (fun f _ => rfl) hgy144 (hA_y45.mono (by omega)) (fun j a b => by
                    by_cases e0 : j = i + 8
                    · exact Or.inr ⟨8, (uZ (ns_y45) ((kk).toNat) (ns_y45 ((8 + kk).toNat))), e0, (Or.inr (Or.inl ⟨rfl, uZ_any hns (by omega)⟩)), by rw [e0]; exact hgy147⟩
                    by_cases e1 : j = i + 9
                    · exact Or.inr ⟨9, _, e1, lsP.l (by decide), by rw [e1]; exact hgy148⟩
                    by_cases e2 : j = i + 10
                    · exact Or.inr ⟨10, _, e2, lsP.l (by decide), by rw [e2]; exact hgy140⟩
                    exact Or.inl (by rw [egy139, va_up_ne _ _ (by omega)]; rw [egy133, va_up_ne _ _ (by omega)]; rw [egy128, va_up_ne _ _ (by omega)]))
                have hFFb : (∀ f, f ≠ 12 → f ≠ 15 → f ≠ 16 → f ≠ 17 → F9b f = F f) := fun f n12 n15 n16 n17 => fFb f n12 n15 n16 n17
                have hey149 : F9b 13 = F9b 13 := rfl
                have hey150 : F9b 14 = F9b 14 := rfl
                have hey151 : F9b 15 = F9b 15 := rfl
                have hey152 : F9b 16 = F9b 16 := rfl
                have hey153 : F9b 17 = F9b 17 := rfl
                have hey154 : F9b 18 = F9b 18 := rfl
                have hey155 : F9b 19 = F9b 19 := rfl
                have hey156 : F9b 20 = F9b 20 := rfl
                refine z_lv (lv' := [(0, .ref (ad i)), (1, .int (zI (kk + 1)))]) [1, 0] rfl ?_
                exact ih_lp2 _ (by omega) (kk + 1) _ _ gy138 rfl hMy145 hFFb (fun j j1 => by rw [egy139, va_up_ne _ _ (by omega)]; rw [egy133, va_up_ne _ _ (by omega)]; rw [egy128, va_up_ne _ _ (by omega)]; exact f3 j j1) (by omega) (by omega)
          have hgy157 := (f3w (i) (ne_o (i := i) (c := 0) (d := 12) rfl)).trans hgy43
          have hgy158 := up_n egy36 hcvy32 (ne_o (i := i) (c := 1) (d := 0) rfl)
          have hgy159 := up_n egy39 hgy158 (ne_o (i := i) (c := 1) (d := 0) rfl)
          have hgy160 := up_n egy42 hgy159 (ne_o (i := i) (c := 1) (d := 0) rfl)
          have hgy161 := (f3w (i + 1) (ne_o (i := i) (c := 1) (d := 12) rfl)).trans hgy160
          have hFy162 : ∀ f, f ≠ 12 → f ≠ 15 → f ≠ 16 → f ≠ 17 → (uZ (uZ (uZ (uZ F 12 (0)) 15 (F 18)) 16 (F 19)) 17 (F 20)) f = F f := fun f n12 n15 n16 n17 => ((uZ_n _ _ n17).trans ((uZ_n _ _ n16).trans ((uZ_n _ _ n15).trans ((uZ_n _ _ n12).trans rfl))))
          have hey163 : (uZ (uZ (uZ (uZ F 12 (0)) 15 (F 18)) 16 (F 19)) 17 (F 20)) 13 = F 13 := (fn (fn (fn (fn rfl (by decide)) (by decide)) (by decide)) (by decide))
          have hey164 : (uZ (uZ (uZ (uZ F 12 (0)) 15 (F 18)) 16 (F 19)) 17 (F 20)) 14 = F 14 := (fn (fn (fn (fn rfl (by decide)) (by decide)) (by decide)) (by decide))
          have hey165 : (uZ (uZ (uZ (uZ F 12 (0)) 15 (F 18)) 16 (F 19)) 17 (F 20)) 15 = F 18 := (fn (fn (uZ_s _ _ _) (by decide)) (by decide))
          have hey166 : (uZ (uZ (uZ (uZ F 12 (0)) 15 (F 18)) 16 (F 19)) 17 (F 20)) 16 = F 19 := (fn (uZ_s _ _ _) (by decide))
          have hey167 : (uZ (uZ (uZ (uZ F 12 (0)) 15 (F 18)) 16 (F 19)) 17 (F 20)) 17 = F 20 := (uZ_s _ _ _)
          have hey168 : (uZ (uZ (uZ (uZ F 12 (0)) 15 (F 18)) 16 (F 19)) 17 (F 20)) 18 = F 18 := (fn (fn (fn (fn rfl (by decide)) (by decide)) (by decide)) (by decide))
          have hey169 : (uZ (uZ (uZ (uZ F 12 (0)) 15 (F 18)) 16 (F 19)) 17 (F 20)) 19 = F 19 := (fn (fn (fn (fn rfl (by decide)) (by decide)) (by decide)) (by decide))
          have hey170 : (uZ (uZ (uZ (uZ F 12 (0)) 15 (F 18)) 16 (F 19)) 17 (F 20)) 20 = F 20 := (fn (fn (fn (fn rfl (by decide)) (by decide)) (by decide)) (by decide))
          have hey171 : (uZ (uZ (uZ (uZ F 12 (0)) 15 (F 18)) 16 (F 19)) 17 (F 20)) 21 = F 21 := (fn (fn (fn (fn rfl (by decide)) (by decide)) (by decide)) (by decide))
          have hey172 : (uZ (uZ (uZ (uZ F 12 (0)) 15 (F 18)) 16 (F 19)) 17 (F 20)) 23 = F 23 := (fn (fn (fn (fn rfl (by decide)) (by decide)) (by decide)) (by decide))
          have hey173 : (uZ (uZ (uZ (uZ F 12 (0)) 15 (F 18)) 16 (F 19)) 17 (F 20)) 25 = F 25 := (fn (fn (fn (fn rfl (by decide)) (by decide)) (by decide)) (by decide))
          have hey174 : (uZ (uZ (uZ (uZ F 12 (0)) 15 (F 18)) 16 (F 19)) 17 (F 20)) 27 = F 27 := (fn (fn (fn (fn rfl (by decide)) (by decide)) (by decide)) (by decide))
          have hey175 : (uZ (uZ (uZ (uZ F 12 (0)) 15 (F 18)) 16 (F 19)) 17 (F 20)) 28 = F 28 := (fn (fn (fn (fn rfl (by decide)) (by decide)) (by decide)) (by decide))
          have hey176 : (uZ (uZ (uZ (uZ F 12 (0)) 15 (F 18)) 16 (F 19)) 17 (F 20)) 29 = F 29 := (fn (fn (fn (fn rfl (by decide)) (by decide)) (by decide)) (by decide))
          have hKy177 : okF (uZ (uZ (uZ (uZ F 12 (0)) 15 (F 18)) 16 (F 19)) 17 (F 20)) := by unfold okF; omega
          have hMy178 : okMr cs ad g1 i (x) (uZ (uZ (uZ (uZ F 12 (0)) 15 (F 18)) 16 (F 19)) 17 (F 20)) rvy32 st op ai fa mu tb tp := okMr.upd hM hgy157 hKy177 (fun f a => hFy162 f (by omega) (by omega) (by omega) (by omega)) hgy161 (hAy33.mono (by omega)) (fun j a b => by
              by_cases e0 : j = i + 12
              · exact Or.inr ⟨12, (p9), e0, (Or.inr (Or.inr ⟨rfl, hP10⟩)), by rw [e0]; exact f2⟩
              exact Or.inl (by rw [f3w _ (by omega)]; rw [egy42, va_up_ne _ _ (by omega)]; rw [egy39, va_up_ne _ _ (by omega)]; rw [egy36, va_up_ne _ _ (by omega)]; rw [hfvy32 _ (by omega)]; rw [hfvy29 _ (by omega)]; rw [egy25, va_up_ne _ _ (by omega)]))
          have hFy179 : ∀ f, f ≠ 12 → f ≠ 15 → f ≠ 16 → f ≠ 17 → (uZ (uZ (uZ (uZ F 12 (0)) 15 (F 18)) 16 (F 19)) 17 (F 20)) f = F f := fun f n12 n15 n16 n17 => ((uZ_n _ _ n17).trans ((uZ_n _ _ n16).trans ((uZ_n _ _ n15).trans ((uZ_n _ _ n12).trans rfl))))
          have hFFb : (∀ f, f ≠ 12 → f ≠ 15 → f ≠ 16 → f ≠ 17 → (uZ (uZ (uZ (uZ F 12 (0)) 15 (F 18)) 16 (F 19)) 17 (F 20)) f = F f) := fun f n12 n15 n16 n17 => (hFy179 f n12 n15 n16 n17)
          have hey180 : (uZ (uZ (uZ (uZ F 12 (0)) 15 (F 18)) 16 (F 19)) 17 (F 20)) 13 = F 13 := (fn (fn (fn (fn rfl (by decide)) (by decide)) (by decide)) (by decide))
          have hey181 : (uZ (uZ (uZ (uZ F 12 (0)) 15 (F 18)) 16 (F 19)) 17 (F 20)) 14 = F 14 := (fn (fn (fn (fn rfl (by decide)) (by decide)) (by decide)) (by decide))
          have hey182 : (uZ (uZ (uZ (uZ F 12 (0)) 15 (F 18)) 16 (F 19)) 17 (F 20)) 15 = F 18 := (fn (fn (uZ_s _ _ _) (by decide)) (by decide))
          have hey183 : (uZ (uZ (uZ (uZ F 12 (0)) 15 (F 18)) 16 (F 19)) 17 (F 20)) 16 = F 19 := (fn (uZ_s _ _ _) (by decide))
          have hey184 : (uZ (uZ (uZ (uZ F 12 (0)) 15 (F 18)) 16 (F 19)) 17 (F 20)) 17 = F 20 := (uZ_s _ _ _)
          have hey185 : (uZ (uZ (uZ (uZ F 12 (0)) 15 (F 18)) 16 (F 19)) 17 (F 20)) 18 = F 18 := (fn (fn (fn (fn rfl (by decide)) (by decide)) (by decide)) (by decide))
          have hey186 : (uZ (uZ (uZ (uZ F 12 (0)) 15 (F 18)) 16 (F 19)) 17 (F 20)) 19 = F 19 := (fn (fn (fn (fn rfl (by decide)) (by decide)) (by decide)) (by decide))
          have hey187 : (uZ (uZ (uZ (uZ F 12 (0)) 15 (F 18)) 16 (F 19)) 17 (F 20)) 20 = F 20 := (fn (fn (fn (fn rfl (by decide)) (by decide)) (by decide)) (by decide))
          refine z_lv (lv' := [(0, .ref (ad i)), (1, .int (zI (0)))]) [1, 0] rfl ?_
          exact lp2 _ (0) _ _ g1 rfl hMy178 hFFb (fun j j1 => by rw [f3w _ (by omega)]; rw [egy42, va_up_ne _ _ (by omega)]; rw [egy39, va_up_ne _ _ (by omega)]; rw [egy36, va_up_ne _ _ (by omega)]; rw [hfvy32 _ (by omega)]; rw [hfvy29 _ (by omega)]; rw [egy25, va_up_ne _ _ (by omega)]) (by omega) (by omega)
        · refine z_aload_n C 0 dX10_restore_71 rfl ?_
          have hgy188 := (f3w (i) (ne_o (i := i) (c := 0) (d := 12) rfl)).trans hgy43
          refine z_get (v := .ref (ad (i + 12))) C (lt_A0 hN rfl) hay1 hgy188 rfl inA_X10 11 (by decide) q_1470 rfl rfl dX10_restore_72 ?_
          refine z_iload_n C 1 dX10_restore_75 rfl ?_
          refine z_aload_n C 0 dX10_restore_76 rfl ?_
          refine z_get (v := .ref (ad (i + 12))) C (lt_A0 hN rfl) hay1 hgy188 rfl inA_X10 11 (by decide) q_1470 rfl rfl dX10_restore_77 ?_
          refine z_sipush (z := 540) C dX10_restore_80 (by decide) ?_
          refine z_iload_n C 1 dX10_restore_83 rfl ?_
          refine z_iadd C dX10_restore_84 ?_
          refine z_iald C (lt_A (c := 12) hN rfl) hay13 f2 (540 + nk) (by omega) (by omega) (by decide) dX10_restore_85 ?_
          refine z_iast C (lt_A (c := 12) hN rfl) hay13 f2 (nk) (by omega) (by omega) (by decide) dX10_restore_86 (fun gy189 egy190 => ?_)
          have hgy191 := up_s egy190
          obtain ⟨ry192, hvy193⟩ : ∃ rZ9 : Nat → Int, rZ9 = uZ p9 (nk) (p9 (540 + nk)) := ⟨_, rfl⟩
          rw [← hvy193] at hgy191
          refine z_iinc (z := kk + 1) (lv' := [(1, .int (zI (kk + 1))), (0, .ref (ad i))]) (j := 1) C dX10_restore_87 rfl rfl (by decide) rfl ?_
          refine z_goto (tgt := 64) C dX10_restore_90 (by decide) ?_
          have hfry194 : ∀ j, j ≠ nk → ry192 j = p9 j := fun j n0 => (congrFun hvy193 _).trans ((uZ_n _ _ n0).trans (rfl))
          have hwy195 : ry192 (nk) = p9 (540 + nk) := (congrFun hvy193 _).trans (uZ_s _ _ _)
          have hsrc : p9 (540 + nk) = pi (540 + nk) := fA nk (by omega)
          have hfk9 : ∀ k : Nat, (k : Int) < kk + 1 → ry192 (0 + k) = pi (540 + k) := by
            intro k a
            by_cases e : k = nk
            · rw [e, Nat.zero_add]; have h9 : ry192 (nk) = pi (540 + nk) := by omega
              exact h9
            · rw [hfry194 _ (by omega)]; exact fk k (by omega)
          refine z_lv (lv' := [(0, .ref (ad i)), (1, .int (zI (kk + 1)))]) [1, 0] rfl ?_
          exact ih_lpw _ (by omega) (kk + 1) ry192 gy189 rfl hgy191 (fun j j1 => by rw [egy190, va_up_ne _ _ (by omega)]; exact f3w j j1) (fun m hm => (hfry194 _ (by omega)).trans (fA m hm)) hfk9 (by omega)
    have hgy196 := up_n egy25 ha12 (ne_o (i := i) (c := 12) (d := 0) rfl)
    have hgy197 := (hfvy29 (i + 12) (ne_o (i := i) (c := 12) (d := 1) rfl)).trans hgy196
    have hgy198 := (hfvy32 (i + 12) (ne_o (i := i) (c := 12) (d := 1) rfl)).trans hgy197
    have hgy199 := up_n egy36 hgy198 (ne_o (i := i) (c := 12) (d := 0) rfl)
    have hgy200 := up_n egy39 hgy199 (ne_o (i := i) (c := 12) (d := 0) rfl)
    have hgy201 := up_n egy42 hgy200 (ne_o (i := i) (c := 12) (d := 0) rfl)
    refine z_lv (lv' := [(0, .ref (ad i)), (1, .int (zI (0)))]) [1, 0] rfl ?_
    exact lpw _ (0) pi gy41 rfl hgy201 (fun j _ => rfl) (fun m _ => rfl) (fun k a => absurd a (by omega)) (by omega)
  · refine z_iconst (z := 0) C dX10_restore_12 rfl ?_
    have hgy202 := up_n egy25 ha1 (ne_o (i := i) (c := 1) (d := 0) rfl)
    have hFy203 : ∀ f, f ≠ 12 → (uZ F 12 (0)) f = F f := fun f n12 => ((uZ_n _ _ n12).trans rfl)
    have hey204 : (uZ F 12 (0)) 13 = F 13 := (fn rfl (by decide))
    have hey205 : (uZ F 12 (0)) 14 = F 14 := (fn rfl (by decide))
    have hey206 : (uZ F 12 (0)) 15 = F 15 := (fn rfl (by decide))
    have hey207 : (uZ F 12 (0)) 16 = F 16 := (fn rfl (by decide))
    have hey208 : (uZ F 12 (0)) 17 = F 17 := (fn rfl (by decide))
    have hey209 : (uZ F 12 (0)) 18 = F 18 := (fn rfl (by decide))
    have hey210 : (uZ F 12 (0)) 19 = F 19 := (fn rfl (by decide))
    have hey211 : (uZ F 12 (0)) 20 = F 20 := (fn rfl (by decide))
    have hey212 : (uZ F 12 (0)) 21 = F 21 := (fn rfl (by decide))
    have hey213 : (uZ F 12 (0)) 23 = F 23 := (fn rfl (by decide))
    have hey214 : (uZ F 12 (0)) 25 = F 25 := (fn rfl (by decide))
    have hey215 : (uZ F 12 (0)) 27 = F 27 := (fn rfl (by decide))
    have hey216 : (uZ F 12 (0)) 28 = F 28 := (fn rfl (by decide))
    have hey217 : (uZ F 12 (0)) 29 = F 29 := (fn rfl (by decide))
    have hKy218 : okF (uZ F 12 (0)) := okF.mv hM.2.1 hey204 hey205 hey206 hey207 hey208 hey209 hey210 hey211 hey212 hey213 hey214 hey215 hey216 hey217
    have hMy219 : okMr cs ad gy24 i (x + 1) (uZ F 12 (0)) r st op ai fa mu tb tp := okMr.upd hM hgy26 hKy218 (fun f a => hFy203 f (by omega)) hgy202 (hA.mono (by omega)) (fun j a b => by
        exact Or.inl (by rw [egy25, va_up_ne _ _ (by omega)]))
    have hkpy220 : (uZ F 12 (0)) 13 = F 13 := (fn rfl (by decide))
    have hkpy221 : (uZ F 12 (0)) 14 = F 14 := (fn rfl (by decide))
    have hkpy222 : (uZ F 12 (0)) 17 = F 17 := (fn rfl (by decide))
    have hkpy223 : (uZ F 12 (0)) 20 = F 20 := (fn rfl (by decide))
    have hkpy224 : (uZ F 12 (0)) 21 = F 21 := (fn rfl (by decide))
    have hkpy225 : (uZ F 12 (0)) 23 = F 23 := (fn rfl (by decide))
    have hkpy226 : (uZ F 12 (0)) 24 = F 24 := (fn rfl (by decide))
    exact z_zret C hr hlk dX10_restore_13 (by decide) (by decide) (by decide) ⟨0, rfl, rfl, rfl, by omega, ⟨_, _, hMy219, by omega, by omega⟩, fun j j1 => by rw [egy25, va_up_ne _ _ (by omega)]⟩
end
section
-- 99p.words.lean.txt
-- words of refbec
end
section
-- 99q.dec.lean.txt
-- decode rows of refbec
theorem dX10_becomes_0 : decode cX10_becomes 0 = .ok (.aload_n 0, 1) := by decide +kernel
theorem dX10_becomes_1 : decode cX10_becomes 1 = .ok (.aload_n 0, 1) := by decide +kernel
theorem dX10_becomes_2 : decode cX10_becomes 2 = .ok (.getfield 288, 3) := by decide +kernel
theorem dX10_becomes_5 : decode cX10_becomes 5 = .ok (.putfield 198, 3) := by decide +kernel
theorem dX10_becomes_8 : decode cX10_becomes 8 = .ok (.aload_n 0, 1) := by decide +kernel
theorem dX10_becomes_9 : decode cX10_becomes 9 = .ok (.aload_n 0, 1) := by decide +kernel
theorem dX10_becomes_10 : decode cX10_becomes 10 = .ok (.getfield 305, 3) := by decide +kernel
theorem dX10_becomes_13 : decode cX10_becomes 13 = .ok (.putfield 153, 3) := by decide +kernel
theorem dX10_becomes_16 : decode cX10_becomes 16 = .ok (.aload_n 0, 1) := by decide +kernel
theorem dX10_becomes_17 : decode cX10_becomes 17 = .ok (.invokevirtual 107, 3) := by decide +kernel
theorem dX10_becomes_20 : decode cX10_becomes 20 = .ok (.iconst 0, 1) := by decide +kernel
theorem dX10_becomes_21 : decode cX10_becomes 21 = .ok (.istore_n 1, 1) := by decide +kernel
theorem dX10_becomes_22 : decode cX10_becomes 22 = .ok (.iload_n 1, 1) := by decide +kernel
theorem dX10_becomes_23 : decode cX10_becomes 23 = .ok (.bipush 15, 2) := by decide +kernel
theorem dX10_becomes_25 : decode cX10_becomes 25 = .ok (.if_icmp .ge 31, 3) := by decide +kernel
theorem dX10_becomes_56 : decode cX10_becomes 56 = .ok (.iconst 0, 1) := by decide +kernel
theorem dX10_becomes_57 : decode cX10_becomes 57 = .ok (.istore_n 1, 1) := by decide +kernel
theorem dX10_becomes_58 : decode cX10_becomes 58 = .ok (.iload_n 1, 1) := by decide +kernel
theorem dX10_becomes_59 : decode cX10_becomes 59 = .ok (.aload_n 0, 1) := by decide +kernel
theorem dX10_becomes_60 : decode cX10_becomes 60 = .ok (.getfield 153, 3) := by decide +kernel
theorem dX10_becomes_63 : decode cX10_becomes 63 = .ok (.if_icmp .ge 45, 3) := by decide +kernel
theorem dX10_becomes_108 : decode cX10_becomes 108 = .ok (.iconst 0, 1) := by decide +kernel
theorem dX10_becomes_109 : decode cX10_becomes 109 = .ok (.istore_n 1, 1) := by decide +kernel
theorem dX10_becomes_110 : decode cX10_becomes 110 = .ok (.iload_n 1, 1) := by decide +kernel
theorem dX10_becomes_111 : decode cX10_becomes 111 = .ok (.sipush 350, 3) := by decide +kernel
theorem dX10_becomes_114 : decode cX10_becomes 114 = .ok (.if_icmp .ge 16, 3) := by decide +kernel
theorem dX10_becomes_130 : decode cX10_becomes 130 = .ok (.aload_n 0, 1) := by decide +kernel
theorem dX10_becomes_131 : decode cX10_becomes 131 = .ok (.getfield 9, 3) := by decide +kernel
theorem dX10_becomes_134 : decode cX10_becomes 134 = .ok (.iconst 1, 1) := by decide +kernel
theorem dX10_becomes_135 : decode cX10_becomes 135 = .ok (.aload_n 0, 1) := by decide +kernel
theorem dX10_becomes_136 : decode cX10_becomes 136 = .ok (.getfield 302, 3) := by decide +kernel
theorem dX10_becomes_139 : decode cX10_becomes 139 = .ok (.iastore, 1) := by decide +kernel
theorem dX10_becomes_140 : decode cX10_becomes 140 = .ok (.iconst 0, 1) := by decide +kernel
theorem dX10_becomes_141 : decode cX10_becomes 141 = .ok (.istore_n 1, 1) := by decide +kernel
theorem dX10_becomes_142 : decode cX10_becomes 142 = .ok (.iload_n 1, 1) := by decide +kernel
theorem dX10_becomes_143 : decode cX10_becomes 143 = .ok (.aload_n 0, 1) := by decide +kernel
theorem dX10_becomes_144 : decode cX10_becomes 144 = .ok (.getfield 198, 3) := by decide +kernel
theorem dX10_becomes_147 : decode cX10_becomes 147 = .ok (.if_icmp .ge 86, 3) := by decide +kernel
theorem dX10_becomes_233 : decode cX10_becomes 233 = .ok (.aload_n 0, 1) := by decide +kernel
theorem dX10_becomes_234 : decode cX10_becomes 234 = .ok (.aload_n 0, 1) := by decide +kernel
theorem dX10_becomes_235 : decode cX10_becomes 235 = .ok (.aload_n 0, 1) := by decide +kernel
theorem dX10_becomes_236 : decode cX10_becomes 236 = .ok (.aload_n 0, 1) := by decide +kernel
theorem dX10_becomes_237 : decode cX10_becomes 237 = .ok (.iconst 0, 1) := by decide +kernel
theorem dX10_becomes_238 : decode cX10_becomes 238 = .ok (.dup_x1, 1) := by decide +kernel
theorem dX10_becomes_239 : decode cX10_becomes 239 = .ok (.putfield 333, 3) := by decide +kernel
theorem dX10_becomes_242 : decode cX10_becomes 242 = .ok (.dup_x1, 1) := by decide +kernel
theorem dX10_becomes_243 : decode cX10_becomes 243 = .ok (.putfield 336, 3) := by decide +kernel
theorem dX10_becomes_246 : decode cX10_becomes 246 = .ok (.dup_x1, 1) := by decide +kernel
theorem dX10_becomes_247 : decode cX10_becomes 247 = .ok (.putfield 339, 3) := by decide +kernel
theorem dX10_becomes_250 : decode cX10_becomes 250 = .ok (.putfield 342, 3) := by decide +kernel
theorem dX10_becomes_253 : decode cX10_becomes 253 = .ok (.return_, 1) := by decide +kernel
theorem dX10_becomes_150 : decode cX10_becomes 150 = .ok (.aload_n 0, 1) := by decide +kernel
theorem dX10_becomes_151 : decode cX10_becomes 151 = .ok (.getfield 13, 3) := by decide +kernel
theorem dX10_becomes_154 : decode cX10_becomes 154 = .ok (.iload_n 1, 1) := by decide +kernel
theorem dX10_becomes_155 : decode cX10_becomes 155 = .ok (.aload_n 0, 1) := by decide +kernel
theorem dX10_becomes_156 : decode cX10_becomes 156 = .ok (.getfield 65, 3) := by decide +kernel
theorem dX10_becomes_159 : decode cX10_becomes 159 = .ok (.iload_n 1, 1) := by decide +kernel
theorem dX10_becomes_160 : decode cX10_becomes 160 = .ok (.iaload, 1) := by decide +kernel
theorem dX10_becomes_161 : decode cX10_becomes 161 = .ok (.iastore, 1) := by decide +kernel
theorem dX10_becomes_162 : decode cX10_becomes 162 = .ok (.aload_n 0, 1) := by decide +kernel
theorem dX10_becomes_163 : decode cX10_becomes 163 = .ok (.getfield 16, 3) := by decide +kernel
theorem dX10_becomes_166 : decode cX10_becomes 166 = .ok (.iload_n 1, 1) := by decide +kernel
theorem dX10_becomes_167 : decode cX10_becomes 167 = .ok (.aload_n 0, 1) := by decide +kernel
theorem dX10_becomes_168 : decode cX10_becomes 168 = .ok (.getfield 68, 3) := by decide +kernel
theorem dX10_becomes_171 : decode cX10_becomes 171 = .ok (.iload_n 1, 1) := by decide +kernel
theorem dX10_becomes_172 : decode cX10_becomes 172 = .ok (.iaload, 1) := by decide +kernel
theorem dX10_becomes_173 : decode cX10_becomes 173 = .ok (.iastore, 1) := by decide +kernel
theorem dX10_becomes_174 : decode cX10_becomes 174 = .ok (.aload_n 0, 1) := by decide +kernel
theorem dX10_becomes_175 : decode cX10_becomes 175 = .ok (.iconst 0, 1) := by decide +kernel
theorem dX10_becomes_176 : decode cX10_becomes 176 = .ok (.iload_n 1, 1) := by decide +kernel
theorem dX10_becomes_177 : decode cX10_becomes 177 = .ok (.aload_n 0, 1) := by decide +kernel
theorem dX10_becomes_178 : decode cX10_becomes 178 = .ok (.getfield 71, 3) := by decide +kernel
theorem dX10_becomes_181 : decode cX10_becomes 181 = .ok (.iload_n 1, 1) := by decide +kernel
theorem dX10_becomes_182 : decode cX10_becomes 182 = .ok (.iaload, 1) := by decide +kernel
theorem dX10_becomes_183 : decode cX10_becomes 183 = .ok (.invokevirtual 135, 3) := by decide +kernel
theorem dX10_becomes_186 : decode cX10_becomes 186 = .ok (.iconst 0, 1) := by decide +kernel
theorem dX10_becomes_187 : decode cX10_becomes 187 = .ok (.istore_n 2, 1) := by decide +kernel
theorem dX10_becomes_188 : decode cX10_becomes 188 = .ok (.iload_n 2, 1) := by decide +kernel
theorem dX10_becomes_189 : decode cX10_becomes 189 = .ok (.bipush 84, 2) := by decide +kernel
theorem dX10_becomes_191 : decode cX10_becomes 191 = .ok (.if_icmp .ge 36, 3) := by decide +kernel
theorem dX10_becomes_227 : decode cX10_becomes 227 = .ok (.iinc 1 1, 3) := by decide +kernel
theorem dX10_becomes_230 : decode cX10_becomes 230 = .ok (.goto (-88), 3) := by decide +kernel
theorem dX10_becomes_194 : decode cX10_becomes 194 = .ok (.aload_n 0, 1) := by decide +kernel
theorem dX10_becomes_195 : decode cX10_becomes 195 = .ok (.getfield 9, 3) := by decide +kernel
theorem dX10_becomes_198 : decode cX10_becomes 198 = .ok (.bipush 6, 2) := by decide +kernel
theorem dX10_becomes_200 : decode cX10_becomes 200 = .ok (.bipush 86, 2) := by decide +kernel
theorem dX10_becomes_202 : decode cX10_becomes 202 = .ok (.iload_n 1, 1) := by decide +kernel
theorem dX10_becomes_203 : decode cX10_becomes 203 = .ok (.imul, 1) := by decide +kernel
theorem dX10_becomes_204 : decode cX10_becomes 204 = .ok (.iadd, 1) := by decide +kernel
theorem dX10_becomes_205 : decode cX10_becomes 205 = .ok (.iconst 2, 1) := by decide +kernel
theorem dX10_becomes_206 : decode cX10_becomes 206 = .ok (.iadd, 1) := by decide +kernel
theorem dX10_becomes_207 : decode cX10_becomes 207 = .ok (.iload_n 2, 1) := by decide +kernel
theorem dX10_becomes_208 : decode cX10_becomes 208 = .ok (.iadd, 1) := by decide +kernel
theorem dX10_becomes_209 : decode cX10_becomes 209 = .ok (.aload_n 0, 1) := by decide +kernel
theorem dX10_becomes_210 : decode cX10_becomes 210 = .ok (.getfield 86, 3) := by decide +kernel
theorem dX10_becomes_213 : decode cX10_becomes 213 = .ok (.bipush 84, 2) := by decide +kernel
theorem dX10_becomes_215 : decode cX10_becomes 215 = .ok (.iload_n 1, 1) := by decide +kernel
theorem dX10_becomes_216 : decode cX10_becomes 216 = .ok (.imul, 1) := by decide +kernel
theorem dX10_becomes_217 : decode cX10_becomes 217 = .ok (.iload_n 2, 1) := by decide +kernel
theorem dX10_becomes_218 : decode cX10_becomes 218 = .ok (.iadd, 1) := by decide +kernel
theorem dX10_becomes_219 : decode cX10_becomes 219 = .ok (.iaload, 1) := by decide +kernel
theorem dX10_becomes_220 : decode cX10_becomes 220 = .ok (.iastore, 1) := by decide +kernel
theorem dX10_becomes_221 : decode cX10_becomes 221 = .ok (.iinc 2 1, 3) := by decide +kernel
theorem dX10_becomes_224 : decode cX10_becomes 224 = .ok (.goto (-36), 3) := by decide +kernel
theorem dX10_becomes_117 : decode cX10_becomes 117 = .ok (.aload_n 0, 1) := by decide +kernel
theorem dX10_becomes_118 : decode cX10_becomes 118 = .ok (.getfield 9, 3) := by decide +kernel
theorem dX10_becomes_121 : decode cX10_becomes 121 = .ok (.iload_n 1, 1) := by decide +kernel
theorem dX10_becomes_122 : decode cX10_becomes 122 = .ok (.iconst 0, 1) := by decide +kernel
theorem dX10_becomes_123 : decode cX10_becomes 123 = .ok (.iastore, 1) := by decide +kernel
theorem dX10_becomes_124 : decode cX10_becomes 124 = .ok (.iinc 1 1, 3) := by decide +kernel
theorem dX10_becomes_127 : decode cX10_becomes 127 = .ok (.goto (-17), 3) := by decide +kernel
theorem dX10_becomes_66 : decode cX10_becomes 66 = .ok (.aload_n 0, 1) := by decide +kernel
theorem dX10_becomes_67 : decode cX10_becomes 67 = .ok (.getfield 19, 3) := by decide +kernel
theorem dX10_becomes_70 : decode cX10_becomes 70 = .ok (.iload_n 1, 1) := by decide +kernel
theorem dX10_becomes_71 : decode cX10_becomes 71 = .ok (.aload_n 0, 1) := by decide +kernel
theorem dX10_becomes_72 : decode cX10_becomes 72 = .ok (.getfield 74, 3) := by decide +kernel
theorem dX10_becomes_75 : decode cX10_becomes 75 = .ok (.iload_n 1, 1) := by decide +kernel
theorem dX10_becomes_76 : decode cX10_becomes 76 = .ok (.iaload, 1) := by decide +kernel
theorem dX10_becomes_77 : decode cX10_becomes 77 = .ok (.iastore, 1) := by decide +kernel
theorem dX10_becomes_78 : decode cX10_becomes 78 = .ok (.aload_n 0, 1) := by decide +kernel
theorem dX10_becomes_79 : decode cX10_becomes 79 = .ok (.getfield 22, 3) := by decide +kernel
theorem dX10_becomes_82 : decode cX10_becomes 82 = .ok (.iload_n 1, 1) := by decide +kernel
theorem dX10_becomes_83 : decode cX10_becomes 83 = .ok (.aload_n 0, 1) := by decide +kernel
theorem dX10_becomes_84 : decode cX10_becomes 84 = .ok (.getfield 77, 3) := by decide +kernel
theorem dX10_becomes_87 : decode cX10_becomes 87 = .ok (.iload_n 1, 1) := by decide +kernel
theorem dX10_becomes_88 : decode cX10_becomes 88 = .ok (.iaload, 1) := by decide +kernel
theorem dX10_becomes_89 : decode cX10_becomes 89 = .ok (.iastore, 1) := by decide +kernel
theorem dX10_becomes_90 : decode cX10_becomes 90 = .ok (.aload_n 0, 1) := by decide +kernel
theorem dX10_becomes_91 : decode cX10_becomes 91 = .ok (.getfield 25, 3) := by decide +kernel
theorem dX10_becomes_94 : decode cX10_becomes 94 = .ok (.iload_n 1, 1) := by decide +kernel
theorem dX10_becomes_95 : decode cX10_becomes 95 = .ok (.aload_n 0, 1) := by decide +kernel
theorem dX10_becomes_96 : decode cX10_becomes 96 = .ok (.getfield 80, 3) := by decide +kernel
theorem dX10_becomes_99 : decode cX10_becomes 99 = .ok (.iload_n 1, 1) := by decide +kernel
theorem dX10_becomes_100 : decode cX10_becomes 100 = .ok (.iaload, 1) := by decide +kernel
theorem dX10_becomes_101 : decode cX10_becomes 101 = .ok (.iastore, 1) := by decide +kernel
theorem dX10_becomes_102 : decode cX10_becomes 102 = .ok (.iinc 1 1, 3) := by decide +kernel
theorem dX10_becomes_105 : decode cX10_becomes 105 = .ok (.goto (-47), 3) := by decide +kernel
theorem dX10_becomes_28 : decode cX10_becomes 28 = .ok (.aload_n 0, 1) := by decide +kernel
theorem dX10_becomes_29 : decode cX10_becomes 29 = .ok (.getfield 83, 3) := by decide +kernel
theorem dX10_becomes_32 : decode cX10_becomes 32 = .ok (.iload_n 1, 1) := by decide +kernel
theorem dX10_becomes_33 : decode cX10_becomes 33 = .ok (.iaload, 1) := by decide +kernel
theorem dX10_becomes_34 : decode cX10_becomes 34 = .ok (.iconst (-1), 1) := by decide +kernel
theorem dX10_becomes_35 : decode cX10_becomes 35 = .ok (.if_icmp .eq 15, 3) := by decide +kernel
theorem dX10_becomes_50 : decode cX10_becomes 50 = .ok (.iinc 1 1, 3) := by decide +kernel
theorem dX10_becomes_53 : decode cX10_becomes 53 = .ok (.goto (-31), 3) := by decide +kernel
theorem dX10_becomes_38 : decode cX10_becomes 38 = .ok (.aload_n 0, 1) := by decide +kernel
theorem dX10_becomes_39 : decode cX10_becomes 39 = .ok (.getfield 28, 3) := by decide +kernel
theorem dX10_becomes_42 : decode cX10_becomes 42 = .ok (.iload_n 1, 1) := by decide +kernel
theorem dX10_becomes_43 : decode cX10_becomes 43 = .ok (.aload_n 0, 1) := by decide +kernel
theorem dX10_becomes_44 : decode cX10_becomes 44 = .ok (.getfield 83, 3) := by decide +kernel
theorem dX10_becomes_47 : decode cX10_becomes 47 = .ok (.iload_n 1, 1) := by decide +kernel
theorem dX10_becomes_48 : decode cX10_becomes 48 = .ok (.iaload, 1) := by decide +kernel
theorem dX10_becomes_49 : decode cX10_becomes 49 = .ok (.iastore, 1) := by decide +kernel
end
section
-- 99r.refbec.lean.txt
theorem okMr.upd2 {cs : Nat → ClassId} {ad : Nat → Nat} {g g' : Nat → va_E} {i : Nat} {x x' : Int} {F F' r r' st op ai fa mu tb tp : Nat → Int} (h : okMr cs ad g i x F r st op ai fa mu tb tp) (hi : g' i = mC ad i F') (hK : okF F') (hD : RD F') (hT : okTx cs g' i F') (hr : g' (i + 1) = iA cs 29200 r') (hA : okA r' x') (hG : ∀ j, i + 1 < j → j < i + 30 → j < i + 16 ∨ i + 23 < j → g' j = g j ∨ ∃ (k : Nat) (t : Nat → Int), j = i + k ∧ lsP k t ∧ g' j = iA cs (mLen k) t) : okMr cs ad g' i x' F' r' st op ai fa mu tb tp := by
  obtain ⟨h1, h2, h3, h4, h5, ns, nh, nd, rf, pi, te, ki, li, ok1, ok2, fo, dd, dps, ⟨b1, b2, b3, b4, b5, b6, b7, b8, b9, b10, b11, b12, b13, b14, b15, b24, b25, b26, b27, b28, b29⟩, h6, h7, h8, h9⟩ := h
  have hS : ∀ (k n : Nat) (t : Nat → Int), ((2 ≤ k ∧ k ≤ 7) ∨ k = 13) → g (i + k) = iA cs n t → g' (i + k) = iA cs n t := fun k n t a b => (hG (i + k) (by omega) (by omega) (by omega)).elim (fun e => by rw [e]; exact b) (fun ⟨k2, t, e1, e2, e3⟩ => by
    exfalso
    unfold lsP at e2
    rcases e2 with e2 | ⟨e2, _⟩ | ⟨e2, _⟩ <;> omega)
  have hL : ∀ k, 1 < k → k < 30 → (k < 16 ∨ 23 < k) → g' (i + k) = g (i + k) ∨ ∃ (k2 : Nat) (t : Nat → Int), i + k = i + k2 ∧ lsP k2 t ∧ g' (i + k) = iA cs (mLen k2) t := fun k a b c => hG (i + k) (by omega) (by omega) (by omega)
  have t1 : ∀ k, (k = 9 ∨ k = 10 ∨ k = 11 ∨ k = 14 ∨ k = 15 ∨ (24 ≤ k ∧ k ≤ 29)) → ∀ t : Nat → Int, g (i + k) = iA cs (mLen k) t → ∃ t2 : Nat → Int, g' (i + k) = iA cs (mLen k) t2 := fun k a t b => by
    obtain ⟨t2, e, _⟩ := okMr.arr (P := fun _ => True) k ⟨t, b, trivial⟩ rfl (hL k (by omega) (by omega) (by omega)) (fun _ _ => trivial)
    exact ⟨t2, e⟩
  obtain ⟨u9, v9⟩ := t1 9 (by omega) _ b9
  obtain ⟨u10, v10⟩ := t1 10 (by omega) _ b10
  obtain ⟨u11, v11⟩ := t1 11 (by omega) _ b11
  obtain ⟨u14, v14⟩ := t1 14 (by omega) _ b14
  obtain ⟨u15, v15⟩ := t1 15 (by omega) _ b15
  obtain ⟨u24, v24⟩ := t1 24 (by omega) _ b24
  obtain ⟨u25, v25⟩ := t1 25 (by omega) _ b25
  obtain ⟨u26, v26⟩ := t1 26 (by omega) _ b26
  obtain ⟨u27, v27⟩ := t1 27 (by omega) _ b27
  obtain ⟨u28, v28⟩ := t1 28 (by omega) _ b28
  obtain ⟨u29, v29⟩ := t1 29 (by omega) _ b29
  obtain ⟨u8, v8, w8⟩ := okMr.arr (P := fun t => ∀ k, k < 16 → 0 ≤ t k ∧ t k ≤ 3) 8 ⟨ns, b8, h8⟩ rfl (hL 8 (by omega) (by omega) (by omega)) (fun t e => by
    rcases e with e | ⟨_, e⟩ | ⟨e, _⟩
    · omega
    · exact e
    · omega)
  obtain ⟨u12, v12, w12⟩ := okMr.arr (P := okPt) 12 ⟨pi, b12, h7⟩ rfl (hL 12 (by omega) (by omega) (by omega)) (fun t e => by
    rcases e with e | ⟨e, _⟩ | ⟨_, e⟩
    · omega
    · omega
    · exact e)
  obtain ⟨_, c2, c3, c4, c5, c6⟩ := h6
  exact ⟨hi, hK, hD, hT.weak, hA, u8, u9, u10, u11, u12, u14, u15, u24, u25, u26, u27, u28, u29, ⟨hr, hS 2 _ _ (by omega) b2, hS 3 _ _ (by omega) b3, hS 4 _ _ (by omega) b4, hS 5 _ _ (by omega) b5, hS 6 _ _ (by omega) b6, hS 7 _ _ (by omega) b7, v8, v9, v10, v11, v12, hS 13 _ _ (by omega) b13, v14, v15, v24, v25, v26, v27, v28, v29⟩, ⟨hK.1, c2, c3, c4, c5, c6⟩, w12, w8, h9⟩

/-- what is told, as it lies in the object -/
def dT (s : Int × Int × Int × (Nat → Int) × (Nat → Int) × (Nat → Int) × (Nat → Int) × (Nat → Int) × (Nat → Int) × (Nat → Int) × (Nat → Int) × (Nat → Nat → Int)) (st op ai fa mu tb : Nat → Int) : Prop := (∀ k : Nat, (k : Int) < s.1 → st k = s.2.2.2.2.1 k ∧ op k = s.2.2.2.2.2.1 k) ∧ (∀ k : Nat, (k : Int) < s.2.1 → ai k = s.2.2.2.2.2.2.1 k ∧ fa k = s.2.2.2.2.2.2.2.1 k ∧ mu k = s.2.2.2.2.2.2.2.2.1 k) ∧ ∀ k : Nat, k < 15 → tb k = s.2.2.2.2.2.2.2.2.2.1 k

theorem tabOK : ∀ j : Fin 15, (0 ≤ tabZ j.val ∧ tabZ j.val ≤ 9999) ∧ (10 ≤ j.val → 1 ≤ tabZ j.val) := by decide
theorem lyT_ms {r ly1 : Nat → Int} {p q0 : Nat} : ∀ n : Nat, n ≤ 12 → (∀ l, l < n → lyT ly1 (q0 + 7 * l)) → (∀ m, m < 84 → r (p + 2 + m) = ly1 (q0 + m)) → (∀ l, l < n → ly r (p + 2 + 7 * l)) ∧ ms r p n ≤ 198 * (n : Int) ∧ dp r p n ≤ 999 * (n : Int) := by
  intro n
  induction n with
  | zero => intro _ _ _; exact ⟨fun l hl => absurd hl (by omega), by show (0 : Int) ≤ _; omega, by show (0 : Int) ≤ _; omega⟩
  | succ n ih =>
    intro hn h he
    obtain ⟨a1, a2, a3⟩ := ih (by omega) (fun l hl => h l (by omega)) he
    have h9 := h n (by omega)
    have e0 := he (7 * n) (by omega)
    have e1 := he (7 * n + 1) (by omega)
    have e2 := he (7 * n + 2) (by omega)
    have e3 := he (7 * n + 3) (by omega)
    have e4 := he (7 * n + 4) (by omega)
    have e6 := he (7 * n + 6) (by omega)
    rw [← Nat.add_assoc, ← Nat.add_assoc] at e1 e2 e3 e4 e6
    obtain ⟨b0, b1, b2, b3, b4, b6⟩ := h9
    refine ⟨fun l hl => ?_, ?_, ?_⟩
    · by_cases e : l = n
      · subst e
        unfold ly
        rw [e0, e1, e2, e3, e4, e6]
        omega
      · exact a1 l (by omega)
    · show ms r p n + (r (p + 2 + 7 * n + 1) + r (p + 2 + 7 * n + 2)) ≤ _
      rw [e1, e2]; omega
    · show dp r p n + r (p + 2 + 7 * n + 3) ≤ _
      rw [e3]; omega
theorem okS.ofT {r ly1 : Nat → Int} {p q0 : Nat} {m : Int} (hp : r p = m) (hm : 0 ≤ m ∧ m ≤ 12) (h : ∀ l : Nat, (l : Int) < m → lyT ly1 (q0 + 7 * l)) (he : ∀ k, k < 84 → r (p + 2 + k) = ly1 (q0 + k)) : okS r p 2400 12000 := by
  obtain ⟨n, hn⟩ : ∃ n : Nat, m = (n : Int) := ⟨m.toNat, by omega⟩
  obtain ⟨a1, a2, a3⟩ := lyT_ms (r := r) (p := p) n (by omega) (fun l hl => h l (by omega)) he
  exact okS.mk n (by omega) (by omega) a1 (by omega) (by omega)

set_option maxRecDepth 100000 in
set_option maxHeartbeats 4000000 in
theorem c_X10_becomes (l : Launch) (D : va_G) (A : Nat → Prop) (cs : Nat → ClassId) (tt : Nat) (N : Nat) (ad : Nat → Nat) (g : Nat → va_E) (i : Nat) (hN : i + 30 ≤ N) (x : Int) (hx : 0 ≤ x ∧ x ≤ 512) (F r : Nat → Int) {st op ai fa mu tb tp : Nat → Int} (hM : okMr cs ad g i x F r st op ai fa mu tb tp) (s : Int × Int × Int × (Nat → Int) × (Nat → Int) × (Nat → Int) × (Nat → Int) × (Nat → Int) × (Nat → Int) × (Nat → Int) × (Nat → Int) × (Nat → Nat → Int)) (hX : xTx cs g i F s) : zM l yX10_becomes cX10_becomes 3 none ({ frames := 2, cells := 0, slots := 0, locals := 120 } : Room) D A cs tt N ad g [.ref (ad i)] (rV0 N ad fun g' => (∃ F' r' st' op' ai' fa' mu' tb' : Nat → Int, okMr cs ad g' i x F' r' st' op' ai' fa' mu' tb' tp ∧ (F' 13 = s.1 ∧ F' 14 = s.2.1 ∧ F' 17 = 0 ∧ F' 20 = F 20 ∧ F' 21 = 0 ∧ F' 23 = F 23 ∧ F' 24 = F 24) ∧ F' 12 = F 12 ∧ dT s st' op' ai' fa' mu' tb') ∧ ∀ j, j < i ∨ i + 30 ≤ j → g' j = g j) := by
  obtain ⟨hg, ⟨⟨e13, e14, e25, e27, e29⟩, k15, k16, k17, k18, k19, k20, k23, k21⟩, hRD, hTx, hA, ns, nh, nd, rf, pi, te, ki, li, ok1, ok2, fo, dd, dps, ⟨ha1, ha2, ha3, ha4, ha5, ha6, ha7, ha8, ha9, ha10, ha11, ha12, ha13, ha14, ha15, ha24, ha25, ha26, ha27, ha28, ha29⟩, hEv, hPt, hns, htp⟩ := id hM
  obtain ⟨-, hop, hai, hfa, hT, hT1⟩ := id hEv
  have hay1 : zAt ad (i) (ad i) := rfl
  have hay2 : zAt ad (i + 1) (ad (i + 1)) := rfl
  have hay3 : zAt ad (i + 2) (ad (i + 2)) := rfl
  have hay4 : zAt ad (i + 3) (ad (i + 3)) := rfl
  have hay5 : zAt ad (i + 4) (ad (i + 4)) := rfl
  have hay6 : zAt ad (i + 5) (ad (i + 5)) := rfl
  have hay7 : zAt ad (i + 6) (ad (i + 6)) := rfl
  have hay8 : zAt ad (i + 7) (ad (i + 7)) := rfl
  have hay9 : zAt ad (i + 8) (ad (i + 8)) := rfl
  have hay10 : zAt ad (i + 9) (ad (i + 9)) := rfl
  have hay11 : zAt ad (i + 10) (ad (i + 10)) := rfl
  have hay12 : zAt ad (i + 11) (ad (i + 11)) := rfl
  have hay13 : zAt ad (i + 12) (ad (i + 12)) := rfl
  have hay14 : zAt ad (i + 13) (ad (i + 13)) := rfl
  have hay15 : zAt ad (i + 14) (ad (i + 14)) := rfl
  have hay16 : zAt ad (i + 15) (ad (i + 15)) := rfl
  have hay17 : zAt ad (i + 24) (ad (i + 24)) := rfl
  have hay18 : zAt ad (i + 25) (ad (i + 25)) := rfl
  have hay19 : zAt ad (i + 26) (ad (i + 26)) := rfl
  have hay20 : zAt ad (i + 27) (ad (i + 27)) := rfl
  have hay21 : zAt ad (i + 28) (ad (i + 28)) := rfl
  have hay22 : zAt ad (i + 29) (ad (i + 29)) := rfl
  obtain ⟨⟨hsyy23, htyy23, hnyy23, hpyy23⟩, hlyy23⟩ := okA.at0 hA
  simp only [Nat.zero_add] at hsyy23 hnyy23 hpyy23
  have hmn : ∀ s, s < 4 → 0 ≤ r (6 + 86 * s) ∧ r (6 + 86 * s) ≤ 12 := fun s hs => (hsyy23 s hs).1
  have h5 : 0 ≤ r 5 ∧ r 5 ≤ 6 := hpyy23
  obtain ⟨st1, op1, mn1, ai1, fa1, mu1, tb1, ly1, ⟨ha16, ha17, ha18, ha19, ha20, ha21, ha22, ha23⟩, ⟨⟨t47, t48, t49⟩, hop1, hmn1, hai1, hfa1, htb1, hly1⟩, hrT⟩ := id hX
  have hay24 : zAt ad (i + 16) (ad (i + 16)) := rfl
  have hay25 : zAt ad (i + 17) (ad (i + 17)) := rfl
  have hay26 : zAt ad (i + 18) (ad (i + 18)) := rfl
  have hay27 : zAt ad (i + 19) (ad (i + 19)) := rfl
  have hay28 : zAt ad (i + 20) (ad (i + 20)) := rfl
  have hay29 : zAt ad (i + 21) (ad (i + 21)) := rfl
  have hay30 : zAt ad (i + 22) (ad (i + 22)) := rfl
  have hay31 : zAt ad (i + 23) (ad (i + 23)) := rfl
  have r47 : F 47 = s.1 := hrT.1.1
  have r48 : F 48 = s.2.1 := hrT.1.2.1
  have hTs : okTx cs g i F := hX.ok
  have hRD32 := hRD.1
  refine z_of (by decide) (Nat.le_of_ble_eq_true rfl) ?_
  intro pZ eZ sZ mZ below meth cZ C hr hlk hnm
  refine z_lv (lv' := [(0, .ref (ad i))]) [0] rfl ?_
  refine z_aload_n C 0 dX10_becomes_0 rfl ?_
  refine z_aload_n C 0 dX10_becomes_1 rfl ?_
  refine z_get (v := .int (zI (F 47))) C (lt_A0 hN rfl) hay1 hg rfl inA_X10 47 (by decide) q_1506 rfl (fv (F := F) (f := 47) rfl) dX10_becomes_2 ?_
  refine z_put (fs' := mF ad (i) (uZ F 13 (F 47))) C (lt_A0 hN rfl) hay1 hg tyX10 tyX10_ok nmX10 rfl inA_X10 13 (by decide) q_1472 rfl rfl rfl rfl (Nat.le_of_ble_eq_true rfl) rfl dX10_becomes_5 (fun gy32 egy33 => ?_)
  have hgy34 := up_s egy33
  refine z_aload_n C 0 dX10_becomes_8 rfl ?_
  refine z_aload_n C 0 dX10_becomes_9 rfl ?_
  refine z_get (v := .int (zI (F 48))) C (lt_A0 hN rfl) hay1 hgy34 rfl inA_X10 48 (by decide) q_1507 rfl (fv (F := (uZ F 13 (F 47))) (f := 48) (fn rfl (by decide))) dX10_becomes_10 ?_
  refine z_put (fs' := mF ad (i) (uZ (uZ F 13 (F 47)) 14 (F 48))) C (lt_A0 hN rfl) hay1 hgy34 tyX10 tyX10_ok nmX10 rfl inA_X10 14 (by decide) q_1473 rfl rfl rfl rfl (Nat.le_of_ble_eq_true rfl) rfl dX10_becomes_13 (fun gy35 egy36 => ?_)
  have hgy37 := up_s egy36
  refine z_aload_n C 0 dX10_becomes_16 rfl ?_
  have hgy38 := up_n egy33 ha7 (ne_o (i := i) (c := 7) (d := 0) rfl)
  have hgy39 := up_n egy36 hgy38 (ne_o (i := i) (c := 7) (d := 0) rfl)
  refine z_cV (As := []) (rest := []) (ci := 12) C (c_X10_laysTable l D A cs tt N ad _ i _ _ (by omega) hgy37 hgy39) (lt_A0 hN rfl) hay1 hgy37 rfl rfl mv_yX10_laysTable q_1455 hd_yX10_laysTable (by decide) (Nat.le_of_ble_eq_true rfl) (by decide) dX10_becomes_17 rfl (kV0 fun gvy40 hvy40 => ?_)
  obtain ⟨hfvy40, rvy40, hdvy40, htvy40⟩ := hvy40
  refine z_iconst (z := 0) C dX10_becomes_20 rfl ?_
  refine z_istore_n (lv' := [(1, .int (zI (0))), (0, .ref (ad i))]) C dX10_becomes_21 rfl (by decide) rfl ?_
  have A : ∀ (n9 : Nat) (ka : Int) (t9 : Nat → Int) (g1 : Nat → va_E), (16 - ka).toNat = n9 → (g1 (i + 7) = iA cs 15 t9) → (∀ j, j ≠ i + 7 → g1 j = gvy40 j) → (∀ j, j < 15 → (0 ≤ t9 j ∧ t9 j ≤ 9999) ∧ (10 ≤ j → 1 ≤ t9 j)) → (∀ j : Nat, j < 15 → (t9 j = tabZ j ∧ ((j : Int) < ka → tb1 j = -1)) ∨ ((j : Int) < ka ∧ tb1 j ≠ -1 ∧ t9 j = tb1 j)) → (0 ≤ ka ∧ ka ≤ 15) → zV pZ l eZ ({ frames := 2, cells := 0, slots := 0, locals := 120 } : Room) sZ mZ ([.ref (ad i)] : List Value).toArray below meth cZ (MQ below (zPost D A (rV0 N ad fun g' => (∃ F' r' st' op' ai' fa' mu' tb' : Nat → Int, okMr cs ad g' i x F' r' st' op' ai' fa' mu' tb' tp ∧ (F' 13 = s.1 ∧ F' 14 = s.2.1 ∧ F' 17 = 0 ∧ F' 20 = F 20 ∧ F' 21 = 0 ∧ F' 23 = F 23 ∧ F' 24 = F 24) ∧ F' 12 = F 12 ∧ dT s st' op' ai' fa' mu' tb') ∧ ∀ j, j < i ∨ i + 30 ≤ j → g' j = g j)) ([.ref (ad i)] : List Value).toArray sZ ({ frames := 2, cells := 0, slots := 0, locals := 120 } : Room).cells ({ frames := 2, cells := 0, slots := 0, locals := 120 } : Room).slots A) D A 3 (N) ad g1 (0) (0) 22 [(0, .ref (ad i)), (1, .int (zI (ka)))] [] := by
    intro n9
    induction n9 using Nat.strongRecOn with
    | ind n9 ih_A =>
      intro ka t9 g1 hm9 f2A_t9 f3A fTa fTe hvkA
      obtain ⟨nkA, hnkA⟩ : ∃ n9 : Nat, ka = (n9 : Int) := ⟨ka.toNat, by omega⟩
      refine z_iload_n C 1 dX10_becomes_22 rfl ?_
      refine z_bipush (z := 15) C dX10_becomes_23 (by decide) ?_
      refine z_icmp_ge (tgt := 56) C dX10_becomes_25 (by decide) (by omega) (by omega) (fun hby41 => ?_) (fun hby41 => ?_)
      · refine z_iconst (z := 0) C dX10_becomes_56 rfl ?_
        refine z_istore_n (lv' := [(1, .int (zI (0))), (0, .ref (ad i))]) C dX10_becomes_57 rfl (by decide) rfl ?_
        obtain ⟨g1B, hg1B⟩ : ∃ h : Nat → va_E, h = g1 := ⟨_, rfl⟩
        subst hg1B
        have B : ∀ (n9 : Nat) (kb : Int) (a9 : Nat → Int) (fa9 : Nat → Int) (m9 : Nat → Int) (g1 : Nat → va_E), (25 - kb).toNat = n9 → (g1 (i + 4) = iA cs 24 a9) → (g1 (i + 5) = iA cs 24 fa9) → (g1 (i + 6) = iA cs 24 m9) → (∀ j, j ≠ i + 4 → j ≠ i + 5 → j ≠ i + 6 → g1 j = g1B j) → (∀ k, k < 24 → -300 ≤ a9 k ∧ a9 k ≤ 100) → (∀ k, k < 24 → (0 ≤ fa9 k ∧ fa9 k ≤ 3) ∧ (0 ≤ m9 k ∧ m9 k ≤ 50) ∧ (fa9 k = 1 ∨ fa9 k = 2 → 1 ≤ m9 k)) → (∀ k : Nat, (k : Int) < kb → a9 k = ai1 k ∧ fa9 k = fa1 k ∧ m9 k = mu1 k) → (0 ≤ kb ∧ kb ≤ F 48) → zV pZ l eZ ({ frames := 2, cells := 0, slots := 0, locals := 120 } : Room) sZ mZ ([.ref (ad i)] : List Value).toArray below meth cZ (MQ below (zPost D A (rV0 N ad fun g' => (∃ F' r' st' op' ai' fa' mu' tb' : Nat → Int, okMr cs ad g' i x F' r' st' op' ai' fa' mu' tb' tp ∧ (F' 13 = s.1 ∧ F' 14 = s.2.1 ∧ F' 17 = 0 ∧ F' 20 = F 20 ∧ F' 21 = 0 ∧ F' 23 = F 23 ∧ F' 24 = F 24) ∧ F' 12 = F 12 ∧ dT s st' op' ai' fa' mu' tb') ∧ ∀ j, j < i ∨ i + 30 ≤ j → g' j = g j)) ([.ref (ad i)] : List Value).toArray sZ ({ frames := 2, cells := 0, slots := 0, locals := 120 } : Room).cells ({ frames := 2, cells := 0, slots := 0, locals := 120 } : Room).slots A) D A 3 (N) ad g1 (0) (0) 58 [(0, .ref (ad i)), (1, .int (zI (kb)))] [] := by
          intro n9
          induction n9 using Nat.strongRecOn with
          | ind n9 ih_B =>
            intro kb a9 fa9 m9 g1 hm9 f2B_a9 f2B_fa9 f2B_m9 f3B fBa fBf fBe hvkB
            obtain ⟨nkB, hnkB⟩ : ∃ n9 : Nat, kb = (n9 : Int) := ⟨kb.toNat, by omega⟩
            refine z_iload_n C 1 dX10_becomes_58 rfl ?_
            refine z_aload_n C 0 dX10_becomes_59 rfl ?_
            have hgy42 := (hfvy40 (i) (ne_o (i := i) (c := 0) (d := 7) rfl)).trans hgy37
            have hgy43 := (f3A (i) (ne_o (i := i) (c := 0) (d := 7) rfl)).trans hgy42
            have hgy44 := (f3B (i) (ne_o (i := i) (c := 0) (d := 4) rfl) (ne_o (i := i) (c := 0) (d := 5) rfl) (ne_o (i := i) (c := 0) (d := 6) rfl)).trans hgy43
            refine z_get (v := .int (zI (F 48))) C (lt_A0 hN rfl) hay1 hgy44 rfl inA_X10 14 (by decide) q_1473 rfl (fv (F := (uZ (uZ F 13 (F 47)) 14 (F 48))) (f := 14) (uZ_s _ _ _)) dX10_becomes_60 ?_
            refine z_icmp_ge (tgt := 108) C dX10_becomes_63 (by decide) (by omega) (by omega) (fun hby45 => ?_) (fun hby45 => ?_)
            · refine z_iconst (z := 0) C dX10_becomes_108 rfl ?_
              refine z_istore_n (lv' := [(1, .int (zI (0))), (0, .ref (ad i))]) C dX10_becomes_109 rfl (by decide) rfl ?_
              obtain ⟨g1C, hg1C⟩ : ∃ h : Nat → va_E, h = g1 := ⟨_, rfl⟩
              subst hg1C
              have C : ∀ (n9 : Nat) (kc : Int) (r9 : Nat → Int) (g1 : Nat → va_E), (351 - kc).toNat = n9 → (g1 (i + 1) = iA cs 29200 r9) → (∀ j, j ≠ i + 1 → g1 j = g1C j) → (∀ j : Nat, (j : Int) < kc → r9 j = 0) → (∀ j : Nat, kc ≤ (j : Int) → r9 j = r j) → (0 ≤ kc ∧ kc ≤ 350) → zV pZ l eZ ({ frames := 2, cells := 0, slots := 0, locals := 120 } : Room) sZ mZ ([.ref (ad i)] : List Value).toArray below meth cZ (MQ below (zPost D A (rV0 N ad fun g' => (∃ F' r' st' op' ai' fa' mu' tb' : Nat → Int, okMr cs ad g' i x F' r' st' op' ai' fa' mu' tb' tp ∧ (F' 13 = s.1 ∧ F' 14 = s.2.1 ∧ F' 17 = 0 ∧ F' 20 = F 20 ∧ F' 21 = 0 ∧ F' 23 = F 23 ∧ F' 24 = F 24) ∧ F' 12 = F 12 ∧ dT s st' op' ai' fa' mu' tb') ∧ ∀ j, j < i ∨ i + 30 ≤ j → g' j = g j)) ([.ref (ad i)] : List Value).toArray sZ ({ frames := 2, cells := 0, slots := 0, locals := 120 } : Room).cells ({ frames := 2, cells := 0, slots := 0, locals := 120 } : Room).slots A) D A 3 (N) ad g1 (0) (0) 110 [(0, .ref (ad i)), (1, .int (zI (kc)))] [] := by
                intro n9
                induction n9 using Nat.strongRecOn with
                | ind n9 ih_C =>
                  intro kc r9 g1 hm9 f2C_r9 f3C fCz fCr hvkC
                  obtain ⟨nkC, hnkC⟩ : ∃ n9 : Nat, kc = (n9 : Int) := ⟨kc.toNat, by omega⟩
                  refine z_iload_n C 1 dX10_becomes_110 rfl ?_
                  refine z_sipush (z := 350) C dX10_becomes_111 (by decide) ?_
                  refine z_icmp_ge (tgt := 130) C dX10_becomes_114 (by decide) (by omega) (by omega) (fun hby46 => ?_) (fun hby46 => ?_)
                  · refine z_aload_n C 0 dX10_becomes_130 rfl ?_
                    have hgy47 := (f3C (i) (ne_o (i := i) (c := 0) (d := 1) rfl)).trans hgy44
                    refine z_get (v := .ref (ad (i + 1))) C (lt_A0 hN rfl) hay1 hgy47 rfl inA_X10 0 (by decide) q_1459 rfl rfl dX10_becomes_131 ?_
                    refine z_iconst (z := 1) C dX10_becomes_134 rfl ?_
                    refine z_aload_n C 0 dX10_becomes_135 rfl ?_
                    refine z_get (v := .int (zI (F 49))) C (lt_A0 hN rfl) hay1 hgy47 rfl inA_X10 49 (by decide) q_1508 rfl (fv (F := (uZ (uZ F 13 (F 47)) 14 (F 48))) (f := 49) (fn (fn rfl (by decide)) (by decide))) dX10_becomes_136 ?_
                    refine z_iast C (lt_A (c := 1) hN rfl) hay2 f2C_r9 (1) (by omega) (by omega) (by decide) dX10_becomes_139 (fun gy48 egy49 => ?_)
                    have hgy50 := up_s egy49
                    obtain ⟨ry51, hvy52⟩ : ∃ rZ9 : Nat → Int, rZ9 = uZ r9 (1) (F 49) := ⟨_, rfl⟩
                    rw [← hvy52] at hgy50
                    refine z_iconst (z := 0) C dX10_becomes_140 rfl ?_
                    refine z_istore_n (lv' := [(1, .int (zI (0))), (0, .ref (ad i))]) C dX10_becomes_141 rfl (by decide) rfl ?_
                    have hfry53 : ∀ j, j ≠ 1 → ry51 j = r9 j := fun j n0 => (congrFun hvy52 _).trans ((uZ_n _ _ n0).trans (rfl))
                    have hwy54 : ry51 (1) = F 49 := (congrFun hvy52 _).trans (uZ_s _ _ _)
                    have D : ∀ (n9 : Nat) (sd : Int) (rd9 : Nat → Int) (st9 : Nat → Int) (op9 : Nat → Int) (g1 : Nat → va_E), (5 - sd).toNat = n9 → (g1 (i + 1) = iA cs 29200 rd9) → (g1 (i + 2) = iA cs 4 st9) → (g1 (i + 3) = iA cs 4 op9) → (∀ j, j ≠ i + 1 → j ≠ i + 2 → j ≠ i + 3 → g1 j = gy48 j) → (∀ k, k < 4 → 0 ≤ op9 k ∧ op9 k ≤ 20) → (∀ k : Nat, (k : Int) < sd → st9 k = st1 k ∧ op9 k = op1 k) → (rd9 0 = 0) → (rd9 1 = F 49) → (rd9 5 = 0) → (∀ j, 350 ≤ j → rd9 j = r j) → (∀ s : Nat, s < 4 → ((s : Int) < sd → okS rd9 (6 + 86 * s) 2400 12000) ∧ (sd ≤ (s : Int) → rd9 (6 + 86 * s) = 0)) → (0 ≤ sd ∧ sd ≤ F 47) → zV pZ l eZ ({ frames := 2, cells := 0, slots := 0, locals := 120 } : Room) sZ mZ ([.ref (ad i)] : List Value).toArray below meth cZ (MQ below (zPost D A (rV0 N ad fun g' => (∃ F' r' st' op' ai' fa' mu' tb' : Nat → Int, okMr cs ad g' i x F' r' st' op' ai' fa' mu' tb' tp ∧ (F' 13 = s.1 ∧ F' 14 = s.2.1 ∧ F' 17 = 0 ∧ F' 20 = F 20 ∧ F' 21 = 0 ∧ F' 23 = F 23 ∧ F' 24 = F 24) ∧ F' 12 = F 12 ∧ dT s st' op' ai' fa' mu' tb') ∧ ∀ j, j < i ∨ i + 30 ≤ j → g' j = g j)) ([.ref (ad i)] : List Value).toArray sZ ({ frames := 2, cells := 0, slots := 0, locals := 120 } : Room).cells ({ frames := 2, cells := 0, slots := 0, locals := 120 } : Room).slots A) D A 3 (N) ad g1 (0) (0) 142 [(0, .ref (ad i)), (1, .int (zI (sd)))] [] := by
                      intro n9
                      induction n9 using Nat.strongRecOn with
                      | ind n9 ih_D =>
                        intro sd rd9 st9 op9 g1 hm9 f2D_rd9 f2D_st9 f2D_op9 f3D fDo fDe fD0 fD1 fD5 fDr fDs hvkD
                        obtain ⟨nkD, hnkD⟩ : ∃ n9 : Nat, sd = (n9 : Int) := ⟨sd.toNat, by omega⟩
                        refine z_iload_n C 1 dX10_becomes_142 rfl ?_
                        refine z_aload_n C 0 dX10_becomes_143 rfl ?_
                        have hgy55 := up_n egy49 hgy47 (ne_o (i := i) (c := 0) (d := 1) rfl)
                        have hgy56 := (f3D (i) (ne_o (i := i) (c := 0) (d := 1) rfl) (ne_o (i := i) (c := 0) (d := 2) rfl) (ne_o (i := i) (c := 0) (d := 3) rfl)).trans hgy55
                        refine z_get (v := .int (zI (F 47))) C (lt_A0 hN rfl) hay1 hgy56 rfl inA_X10 13 (by decide) q_1472 rfl (fv (F := (uZ (uZ F 13 (F 47)) 14 (F 48))) (f := 13) (fn (uZ_s _ _ _) (by decide))) dX10_becomes_144 ?_
                        refine z_icmp_ge (tgt := 233) C dX10_becomes_147 (by decide) (by omega) (by omega) (fun hby57 => ?_) (fun hby57 => ?_)
                        · refine z_aload_n C 0 dX10_becomes_233 rfl ?_
                          refine z_aload_n C 0 dX10_becomes_234 rfl ?_
                          refine z_aload_n C 0 dX10_becomes_235 rfl ?_
                          refine z_aload_n C 0 dX10_becomes_236 rfl ?_
                          refine z_iconst (z := 0) C dX10_becomes_237 rfl ?_
                          refine z_dup_x1 C dX10_becomes_238 rfl rfl ?_
                          refine z_put (fs' := mF ad (i) (uZ (uZ (uZ F 13 (F 47)) 14 (F 48)) 21 (0))) C (lt_A0 hN rfl) hay1 hgy56 tyX10 tyX10_ok nmX10 rfl inA_X10 21 (by decide) q_1480 rfl rfl rfl rfl (Nat.le_of_ble_eq_true rfl) rfl dX10_becomes_239 (fun gy58 egy59 => ?_)
                          have hgy60 := up_s egy59
                          refine z_dup_x1 C dX10_becomes_242 rfl rfl ?_
                          refine z_put (fs' := mF ad (i) (uZ (uZ (uZ (uZ F 13 (F 47)) 14 (F 48)) 21 (0)) 17 (0))) C (lt_A0 hN rfl) hay1 hgy60 tyX10 tyX10_ok nmX10 rfl inA_X10 17 (by decide) q_1476 rfl rfl rfl rfl (Nat.le_of_ble_eq_true rfl) rfl dX10_becomes_243 (fun gy61 egy62 => ?_)
                          have hgy63 := up_s egy62
                          refine z_dup_x1 C dX10_becomes_246 rfl rfl ?_
                          refine z_put (fs' := mF ad (i) (uZ (uZ (uZ (uZ (uZ F 13 (F 47)) 14 (F 48)) 21 (0)) 17 (0)) 16 (0))) C (lt_A0 hN rfl) hay1 hgy63 tyX10 tyX10_ok nmX10 rfl inA_X10 16 (by decide) q_1475 rfl rfl rfl rfl (Nat.le_of_ble_eq_true rfl) rfl dX10_becomes_247 (fun gy64 egy65 => ?_)
                          have hgy66 := up_s egy65
                          refine z_put (fs' := mF ad (i) (uZ (uZ (uZ (uZ (uZ (uZ F 13 (F 47)) 14 (F 48)) 21 (0)) 17 (0)) 16 (0)) 15 (0))) C (lt_A0 hN rfl) hay1 hgy66 tyX10 tyX10_ok nmX10 rfl inA_X10 15 (by decide) q_1474 rfl rfl rfl rfl (Nat.le_of_ble_eq_true rfl) rfl dX10_becomes_250 (fun gy67 egy68 => ?_)
                          have hgy69 := up_s egy68
                          have hey70 : (uZ (uZ (uZ (uZ (uZ (uZ F 13 (F 47)) 14 (F 48)) 21 (0)) 17 (0)) 16 (0)) 15 (0)) 13 = F 47 := (fn (fn (fn (fn (fn (uZ_s _ _ _) (by decide)) (by decide)) (by decide)) (by decide)) (by decide))
                          have hey71 : (uZ (uZ (uZ (uZ (uZ (uZ F 13 (F 47)) 14 (F 48)) 21 (0)) 17 (0)) 16 (0)) 15 (0)) 14 = F 48 := (fn (fn (fn (fn (uZ_s _ _ _) (by decide)) (by decide)) (by decide)) (by decide))
                          have hey72 : (uZ (uZ (uZ (uZ (uZ (uZ F 13 (F 47)) 14 (F 48)) 21 (0)) 17 (0)) 16 (0)) 15 (0)) 15 = 0 := (uZ_s _ _ _)
                          have hey73 : (uZ (uZ (uZ (uZ (uZ (uZ F 13 (F 47)) 14 (F 48)) 21 (0)) 17 (0)) 16 (0)) 15 (0)) 16 = 0 := (fn (uZ_s _ _ _) (by decide))
                          have hey74 : (uZ (uZ (uZ (uZ (uZ (uZ F 13 (F 47)) 14 (F 48)) 21 (0)) 17 (0)) 16 (0)) 15 (0)) 17 = 0 := (fn (fn (uZ_s _ _ _) (by decide)) (by decide))
                          have hey75 : (uZ (uZ (uZ (uZ (uZ (uZ F 13 (F 47)) 14 (F 48)) 21 (0)) 17 (0)) 16 (0)) 15 (0)) 18 = F 18 := (fn (fn (fn (fn (fn (fn rfl (by decide)) (by decide)) (by decide)) (by decide)) (by decide)) (by decide))
                          have hey76 : (uZ (uZ (uZ (uZ (uZ (uZ F 13 (F 47)) 14 (F 48)) 21 (0)) 17 (0)) 16 (0)) 15 (0)) 19 = F 19 := (fn (fn (fn (fn (fn (fn rfl (by decide)) (by decide)) (by decide)) (by decide)) (by decide)) (by decide))
                          have hey77 : (uZ (uZ (uZ (uZ (uZ (uZ F 13 (F 47)) 14 (F 48)) 21 (0)) 17 (0)) 16 (0)) 15 (0)) 20 = F 20 := (fn (fn (fn (fn (fn (fn rfl (by decide)) (by decide)) (by decide)) (by decide)) (by decide)) (by decide))
                          have hey78 : (uZ (uZ (uZ (uZ (uZ (uZ F 13 (F 47)) 14 (F 48)) 21 (0)) 17 (0)) 16 (0)) 15 (0)) 21 = 0 := (fn (fn (fn (uZ_s _ _ _) (by decide)) (by decide)) (by decide))
                          have hey79 : (uZ (uZ (uZ (uZ (uZ (uZ F 13 (F 47)) 14 (F 48)) 21 (0)) 17 (0)) 16 (0)) 15 (0)) 23 = F 23 := (fn (fn (fn (fn (fn (fn rfl (by decide)) (by decide)) (by decide)) (by decide)) (by decide)) (by decide))
                          have hey80 : (uZ (uZ (uZ (uZ (uZ (uZ F 13 (F 47)) 14 (F 48)) 21 (0)) 17 (0)) 16 (0)) 15 (0)) 25 = F 25 := (fn (fn (fn (fn (fn (fn rfl (by decide)) (by decide)) (by decide)) (by decide)) (by decide)) (by decide))
                          have hey81 : (uZ (uZ (uZ (uZ (uZ (uZ F 13 (F 47)) 14 (F 48)) 21 (0)) 17 (0)) 16 (0)) 15 (0)) 27 = F 27 := (fn (fn (fn (fn (fn (fn rfl (by decide)) (by decide)) (by decide)) (by decide)) (by decide)) (by decide))
                          have hey82 : (uZ (uZ (uZ (uZ (uZ (uZ F 13 (F 47)) 14 (F 48)) 21 (0)) 17 (0)) 16 (0)) 15 (0)) 28 = F 28 := (fn (fn (fn (fn (fn (fn rfl (by decide)) (by decide)) (by decide)) (by decide)) (by decide)) (by decide))
                          have hey83 : (uZ (uZ (uZ (uZ (uZ (uZ F 13 (F 47)) 14 (F 48)) 21 (0)) 17 (0)) 16 (0)) 15 (0)) 29 = F 29 := (fn (fn (fn (fn (fn (fn rfl (by decide)) (by decide)) (by decide)) (by decide)) (by decide)) (by decide))
                          have hey84 : (uZ (uZ (uZ (uZ (uZ (uZ F 13 (F 47)) 14 (F 48)) 21 (0)) 17 (0)) 16 (0)) 15 (0)) 21 = 0 := (fn (fn (fn (uZ_s _ _ _) (by decide)) (by decide)) (by decide))
                          have hey85 : (uZ (uZ (uZ (uZ (uZ (uZ F 13 (F 47)) 14 (F 48)) 21 (0)) 17 (0)) 16 (0)) 15 (0)) 24 = F 24 := (fn (fn (fn (fn (fn (fn rfl (by decide)) (by decide)) (by decide)) (by decide)) (by decide)) (by decide))
                          have hey86 : (uZ (uZ (uZ (uZ (uZ (uZ F 13 (F 47)) 14 (F 48)) 21 (0)) 17 (0)) 16 (0)) 15 (0)) 12 = F 12 := (fn (fn (fn (fn (fn (fn rfl (by decide)) (by decide)) (by decide)) (by decide)) (by decide)) (by decide))
                          have hK9 : okF (uZ (uZ (uZ (uZ (uZ (uZ F 13 (F 47)) 14 (F 48)) 21 (0)) 17 (0)) 16 (0)) 15 (0)) := by unfold okF; omega
                          have hx47 : (uZ (uZ (uZ (uZ (uZ (uZ F 13 (F 47)) 14 (F 48)) 21 (0)) 17 (0)) 16 (0)) 15 (0)) 47 = F 47 := (fn (fn (fn (fn (fn (fn rfl (by decide)) (by decide)) (by decide)) (by decide)) (by decide)) (by decide))
                          have hx48 : (uZ (uZ (uZ (uZ (uZ (uZ F 13 (F 47)) 14 (F 48)) 21 (0)) 17 (0)) 16 (0)) 15 (0)) 48 = F 48 := (fn (fn (fn (fn (fn (fn rfl (by decide)) (by decide)) (by decide)) (by decide)) (by decide)) (by decide))
                          have hx49 : (uZ (uZ (uZ (uZ (uZ (uZ F 13 (F 47)) 14 (F 48)) 21 (0)) 17 (0)) 16 (0)) 15 (0)) 49 = F 49 := (fn (fn (fn (fn (fn (fn rfl (by decide)) (by decide)) (by decide)) (by decide)) (by decide)) (by decide))
                          have hx32 : (uZ (uZ (uZ (uZ (uZ (uZ F 13 (F 47)) 14 (F 48)) 21 (0)) 17 (0)) 16 (0)) 15 (0)) 32 = F 32 := (fn (fn (fn (fn (fn (fn rfl (by decide)) (by decide)) (by decide)) (by decide)) (by decide)) (by decide))
                          have hT9 : okTx cs gy67 i (uZ (uZ (uZ (uZ (uZ (uZ F 13 (F 47)) 14 (F 48)) 21 (0)) 17 (0)) 16 (0)) 15 (0)) := hTs.mv (fun j a b => by rw [egy68, va_up_ne _ _ (by omega)]; rw [egy65, va_up_ne _ _ (by omega)]; rw [egy62, va_up_ne _ _ (by omega)]; rw [egy59, va_up_ne _ _ (by omega)]; rw [f3D _ (by omega) (by omega) (by omega)]; rw [egy49, va_up_ne _ _ (by omega)]; rw [f3C _ (by omega)]; rw [f3B _ (by omega) (by omega) (by omega)]; rw [f3A _ (by omega)]; rw [hfvy40 _ (by omega)]; rw [egy36, va_up_ne _ _ (by omega)]; rw [egy33, va_up_ne _ _ (by omega)]) ⟨by omega, by omega, by omega, by omega⟩
                          have hW9 : okW rd9 0 x := ⟨fun s hs => by rw [fD0]; exact (by by_cases e : (s : Int) < sd; exact (((fDs s hs).1 e).of (by omega)).mono (by unfold mB; omega) (by unfold eB; omega); exact (okS.zero ((fDs s hs).2 (by omega)) (by unfold mB; omega) (by unfold eB; omega)).of (by omega)), by rw [fD0]; omega, by rw [fD0]; show 0 ≤ rd9 1 ∧ rd9 1 ≤ _; rw [fD1]; omega, by show 0 ≤ rd9 5 ∧ rd9 5 ≤ 6; rw [fD5]; omega⟩
                          have hA9 : okA rd9 x := okA.first hA (Int.le_refl _) (fun j a => fDr j a) hW9 (by rw [fD0]; omega)
                          have hgy87 := up_n egy59 f2D_rd9 (ne_o (i := i) (c := 1) (d := 0) rfl)
                          have hgy88 := up_n egy62 hgy87 (ne_o (i := i) (c := 1) (d := 0) rfl)
                          have hgy89 := up_n egy65 hgy88 (ne_o (i := i) (c := 1) (d := 0) rfl)
                          have hgy90 := up_n egy68 hgy89 (ne_o (i := i) (c := 1) (d := 0) rfl)
                          have hgy91 := up_n egy59 f2D_st9 (ne_o (i := i) (c := 2) (d := 0) rfl)
                          have hgy92 := up_n egy62 hgy91 (ne_o (i := i) (c := 2) (d := 0) rfl)
                          have hgy93 := up_n egy65 hgy92 (ne_o (i := i) (c := 2) (d := 0) rfl)
                          have hgy94 := up_n egy68 hgy93 (ne_o (i := i) (c := 2) (d := 0) rfl)
                          have hgy95 := up_n egy59 f2D_op9 (ne_o (i := i) (c := 3) (d := 0) rfl)
                          have hgy96 := up_n egy62 hgy95 (ne_o (i := i) (c := 3) (d := 0) rfl)
                          have hgy97 := up_n egy65 hgy96 (ne_o (i := i) (c := 3) (d := 0) rfl)
                          have hgy98 := up_n egy68 hgy97 (ne_o (i := i) (c := 3) (d := 0) rfl)
                          have hgy99 := (f3C (i + 4) (ne_o (i := i) (c := 4) (d := 1) rfl)).trans f2B_a9
                          have hgy100 := up_n egy49 hgy99 (ne_o (i := i) (c := 4) (d := 1) rfl)
                          have hgy101 := (f3D (i + 4) (ne_o (i := i) (c := 4) (d := 1) rfl) (ne_o (i := i) (c := 4) (d := 2) rfl) (ne_o (i := i) (c := 4) (d := 3) rfl)).trans hgy100
                          have hgy102 := up_n egy59 hgy101 (ne_o (i := i) (c := 4) (d := 0) rfl)
                          have hgy103 := up_n egy62 hgy102 (ne_o (i := i) (c := 4) (d := 0) rfl)
                          have hgy104 := up_n egy65 hgy103 (ne_o (i := i) (c := 4) (d := 0) rfl)
                          have hgy105 := up_n egy68 hgy104 (ne_o (i := i) (c := 4) (d := 0) rfl)
                          have hgy106 := (f3C (i + 5) (ne_o (i := i) (c := 5) (d := 1) rfl)).trans f2B_fa9
                          have hgy107 := up_n egy49 hgy106 (ne_o (i := i) (c := 5) (d := 1) rfl)
                          have hgy108 := (f3D (i + 5) (ne_o (i := i) (c := 5) (d := 1) rfl) (ne_o (i := i) (c := 5) (d := 2) rfl) (ne_o (i := i) (c := 5) (d := 3) rfl)).trans hgy107
                          have hgy109 := up_n egy59 hgy108 (ne_o (i := i) (c := 5) (d := 0) rfl)
                          have hgy110 := up_n egy62 hgy109 (ne_o (i := i) (c := 5) (d := 0) rfl)
                          have hgy111 := up_n egy65 hgy110 (ne_o (i := i) (c := 5) (d := 0) rfl)
                          have hgy112 := up_n egy68 hgy111 (ne_o (i := i) (c := 5) (d := 0) rfl)
                          have hgy113 := (f3C (i + 6) (ne_o (i := i) (c := 6) (d := 1) rfl)).trans f2B_m9
                          have hgy114 := up_n egy49 hgy113 (ne_o (i := i) (c := 6) (d := 1) rfl)
                          have hgy115 := (f3D (i + 6) (ne_o (i := i) (c := 6) (d := 1) rfl) (ne_o (i := i) (c := 6) (d := 2) rfl) (ne_o (i := i) (c := 6) (d := 3) rfl)).trans hgy114
                          have hgy116 := up_n egy59 hgy115 (ne_o (i := i) (c := 6) (d := 0) rfl)
                          have hgy117 := up_n egy62 hgy116 (ne_o (i := i) (c := 6) (d := 0) rfl)
                          have hgy118 := up_n egy65 hgy117 (ne_o (i := i) (c := 6) (d := 0) rfl)
                          have hgy119 := up_n egy68 hgy118 (ne_o (i := i) (c := 6) (d := 0) rfl)
                          have hgy120 := (f3B (i + 7) (ne_o (i := i) (c := 7) (d := 4) rfl) (ne_o (i := i) (c := 7) (d := 5) rfl) (ne_o (i := i) (c := 7) (d := 6) rfl)).trans f2A_t9
                          have hgy121 := (f3C (i + 7) (ne_o (i := i) (c := 7) (d := 1) rfl)).trans hgy120
                          have hgy122 := up_n egy49 hgy121 (ne_o (i := i) (c := 7) (d := 1) rfl)
                          have hgy123 := (f3D (i + 7) (ne_o (i := i) (c := 7) (d := 1) rfl) (ne_o (i := i) (c := 7) (d := 2) rfl) (ne_o (i := i) (c := 7) (d := 3) rfl)).trans hgy122
                          have hgy124 := up_n egy59 hgy123 (ne_o (i := i) (c := 7) (d := 0) rfl)
                          have hgy125 := up_n egy62 hgy124 (ne_o (i := i) (c := 7) (d := 0) rfl)
                          have hgy126 := up_n egy65 hgy125 (ne_o (i := i) (c := 7) (d := 0) rfl)
                          have hgy127 := up_n egy68 hgy126 (ne_o (i := i) (c := 7) (d := 0) rfl)
                          have hgy128 := up_n egy33 ha8 (ne_o (i := i) (c := 8) (d := 0) rfl)
                          have hgy129 := up_n egy36 hgy128 (ne_o (i := i) (c := 8) (d := 0) rfl)
                          have hgy130 := (hfvy40 (i + 8) (ne_o (i := i) (c := 8) (d := 7) rfl)).trans hgy129
                          have hgy131 := (f3A (i + 8) (ne_o (i := i) (c := 8) (d := 7) rfl)).trans hgy130
                          have hgy132 := (f3B (i + 8) (ne_o (i := i) (c := 8) (d := 4) rfl) (ne_o (i := i) (c := 8) (d := 5) rfl) (ne_o (i := i) (c := 8) (d := 6) rfl)).trans hgy131
                          have hgy133 := (f3C (i + 8) (ne_o (i := i) (c := 8) (d := 1) rfl)).trans hgy132
                          have hgy134 := up_n egy49 hgy133 (ne_o (i := i) (c := 8) (d := 1) rfl)
                          have hgy135 := (f3D (i + 8) (ne_o (i := i) (c := 8) (d := 1) rfl) (ne_o (i := i) (c := 8) (d := 2) rfl) (ne_o (i := i) (c := 8) (d := 3) rfl)).trans hgy134
                          have hgy136 := up_n egy59 hgy135 (ne_o (i := i) (c := 8) (d := 0) rfl)
                          have hgy137 := up_n egy62 hgy136 (ne_o (i := i) (c := 8) (d := 0) rfl)
                          have hgy138 := up_n egy65 hgy137 (ne_o (i := i) (c := 8) (d := 0) rfl)
                          have hgy139 := up_n egy68 hgy138 (ne_o (i := i) (c := 8) (d := 0) rfl)
                          have hgy140 := up_n egy33 ha9 (ne_o (i := i) (c := 9) (d := 0) rfl)
                          have hgy141 := up_n egy36 hgy140 (ne_o (i := i) (c := 9) (d := 0) rfl)
                          have hgy142 := (hfvy40 (i + 9) (ne_o (i := i) (c := 9) (d := 7) rfl)).trans hgy141
                          have hgy143 := (f3A (i + 9) (ne_o (i := i) (c := 9) (d := 7) rfl)).trans hgy142
                          have hgy144 := (f3B (i + 9) (ne_o (i := i) (c := 9) (d := 4) rfl) (ne_o (i := i) (c := 9) (d := 5) rfl) (ne_o (i := i) (c := 9) (d := 6) rfl)).trans hgy143
                          have hgy145 := (f3C (i + 9) (ne_o (i := i) (c := 9) (d := 1) rfl)).trans hgy144
                          have hgy146 := up_n egy49 hgy145 (ne_o (i := i) (c := 9) (d := 1) rfl)
                          have hgy147 := (f3D (i + 9) (ne_o (i := i) (c := 9) (d := 1) rfl) (ne_o (i := i) (c := 9) (d := 2) rfl) (ne_o (i := i) (c := 9) (d := 3) rfl)).trans hgy146
                          have hgy148 := up_n egy59 hgy147 (ne_o (i := i) (c := 9) (d := 0) rfl)
                          have hgy149 := up_n egy62 hgy148 (ne_o (i := i) (c := 9) (d := 0) rfl)
                          have hgy150 := up_n egy65 hgy149 (ne_o (i := i) (c := 9) (d := 0) rfl)
                          have hgy151 := up_n egy68 hgy150 (ne_o (i := i) (c := 9) (d := 0) rfl)
                          have hgy152 := up_n egy33 ha10 (ne_o (i := i) (c := 10) (d := 0) rfl)
                          have hgy153 := up_n egy36 hgy152 (ne_o (i := i) (c := 10) (d := 0) rfl)
                          have hgy154 := (hfvy40 (i + 10) (ne_o (i := i) (c := 10) (d := 7) rfl)).trans hgy153
                          have hgy155 := (f3A (i + 10) (ne_o (i := i) (c := 10) (d := 7) rfl)).trans hgy154
                          have hgy156 := (f3B (i + 10) (ne_o (i := i) (c := 10) (d := 4) rfl) (ne_o (i := i) (c := 10) (d := 5) rfl) (ne_o (i := i) (c := 10) (d := 6) rfl)).trans hgy155
                          have hgy157 := (f3C (i + 10) (ne_o (i := i) (c := 10) (d := 1) rfl)).trans hgy156
                          have hgy158 := up_n egy49 hgy157 (ne_o (i := i) (c := 10) (d := 1) rfl)
                          have hgy159 := (f3D (i + 10) (ne_o (i := i) (c := 10) (d := 1) rfl) (ne_o (i := i) (c := 10) (d := 2) rfl) (ne_o (i := i) (c := 10) (d := 3) rfl)).trans hgy158
                          have hgy160 := up_n egy59 hgy159 (ne_o (i := i) (c := 10) (d := 0) rfl)
                          have hgy161 := up_n egy62 hgy160 (ne_o (i := i) (c := 10) (d := 0) rfl)
                          have hgy162 := up_n egy65 hgy161 (ne_o (i := i) (c := 10) (d := 0) rfl)
                          have hgy163 := up_n egy68 hgy162 (ne_o (i := i) (c := 10) (d := 0) rfl)
                          have hgy164 := up_n egy33 ha11 (ne_o (i := i) (c := 11) (d := 0) rfl)
                          have hgy165 := up_n egy36 hgy164 (ne_o (i := i) (c := 11) (d := 0) rfl)
                          have hgy166 := (hfvy40 (i + 11) (ne_o (i := i) (c := 11) (d := 7) rfl)).trans hgy165
                          have hgy167 := (f3A (i + 11) (ne_o (i := i) (c := 11) (d := 7) rfl)).trans hgy166
                          have hgy168 := (f3B (i + 11) (ne_o (i := i) (c := 11) (d := 4) rfl) (ne_o (i := i) (c := 11) (d := 5) rfl) (ne_o (i := i) (c := 11) (d := 6) rfl)).trans hgy167
                          have hgy169 := (f3C (i + 11) (ne_o (i := i) (c := 11) (d := 1) rfl)).trans hgy168
                          have hgy170 := up_n egy49 hgy169 (ne_o (i := i) (c := 11) (d := 1) rfl)
                          have hgy171 := (f3D (i + 11) (ne_o (i := i) (c := 11) (d := 1) rfl) (ne_o (i := i) (c := 11) (d := 2) rfl) (ne_o (i := i) (c := 11) (d := 3) rfl)).trans hgy170
                          have hgy172 := up_n egy59 hgy171 (ne_o (i := i) (c := 11) (d := 0) rfl)
                          have hgy173 := up_n egy62 hgy172 (ne_o (i := i) (c := 11) (d := 0) rfl)
                          have hgy174 := up_n egy65 hgy173 (ne_o (i := i) (c := 11) (d := 0) rfl)
                          have hgy175 := up_n egy68 hgy174 (ne_o (i := i) (c := 11) (d := 0) rfl)
                          have hgy176 := up_n egy33 ha12 (ne_o (i := i) (c := 12) (d := 0) rfl)
                          have hgy177 := up_n egy36 hgy176 (ne_o (i := i) (c := 12) (d := 0) rfl)
                          have hgy178 := (hfvy40 (i + 12) (ne_o (i := i) (c := 12) (d := 7) rfl)).trans hgy177
                          have hgy179 := (f3A (i + 12) (ne_o (i := i) (c := 12) (d := 7) rfl)).trans hgy178
                          have hgy180 := (f3B (i + 12) (ne_o (i := i) (c := 12) (d := 4) rfl) (ne_o (i := i) (c := 12) (d := 5) rfl) (ne_o (i := i) (c := 12) (d := 6) rfl)).trans hgy179
                          have hgy181 := (f3C (i + 12) (ne_o (i := i) (c := 12) (d := 1) rfl)).trans hgy180
                          have hgy182 := up_n egy49 hgy181 (ne_o (i := i) (c := 12) (d := 1) rfl)
                          have hgy183 := (f3D (i + 12) (ne_o (i := i) (c := 12) (d := 1) rfl) (ne_o (i := i) (c := 12) (d := 2) rfl) (ne_o (i := i) (c := 12) (d := 3) rfl)).trans hgy182
                          have hgy184 := up_n egy59 hgy183 (ne_o (i := i) (c := 12) (d := 0) rfl)
                          have hgy185 := up_n egy62 hgy184 (ne_o (i := i) (c := 12) (d := 0) rfl)
                          have hgy186 := up_n egy65 hgy185 (ne_o (i := i) (c := 12) (d := 0) rfl)
                          have hgy187 := up_n egy68 hgy186 (ne_o (i := i) (c := 12) (d := 0) rfl)
                          have hgy188 := up_n egy33 ha13 (ne_o (i := i) (c := 13) (d := 0) rfl)
                          have hgy189 := up_n egy36 hgy188 (ne_o (i := i) (c := 13) (d := 0) rfl)
                          have hgy190 := (hfvy40 (i + 13) (ne_o (i := i) (c := 13) (d := 7) rfl)).trans hgy189
                          have hgy191 := (f3A (i + 13) (ne_o (i := i) (c := 13) (d := 7) rfl)).trans hgy190
                          have hgy192 := (f3B (i + 13) (ne_o (i := i) (c := 13) (d := 4) rfl) (ne_o (i := i) (c := 13) (d := 5) rfl) (ne_o (i := i) (c := 13) (d := 6) rfl)).trans hgy191
                          have hgy193 := (f3C (i + 13) (ne_o (i := i) (c := 13) (d := 1) rfl)).trans hgy192
                          have hgy194 := up_n egy49 hgy193 (ne_o (i := i) (c := 13) (d := 1) rfl)
                          have hgy195 := (f3D (i + 13) (ne_o (i := i) (c := 13) (d := 1) rfl) (ne_o (i := i) (c := 13) (d := 2) rfl) (ne_o (i := i) (c := 13) (d := 3) rfl)).trans hgy194
                          have hgy196 := up_n egy59 hgy195 (ne_o (i := i) (c := 13) (d := 0) rfl)
                          have hgy197 := up_n egy62 hgy196 (ne_o (i := i) (c := 13) (d := 0) rfl)
                          have hgy198 := up_n egy65 hgy197 (ne_o (i := i) (c := 13) (d := 0) rfl)
                          have hgy199 := up_n egy68 hgy198 (ne_o (i := i) (c := 13) (d := 0) rfl)
                          have hgy200 := up_n egy33 ha14 (ne_o (i := i) (c := 14) (d := 0) rfl)
                          have hgy201 := up_n egy36 hgy200 (ne_o (i := i) (c := 14) (d := 0) rfl)
                          have hgy202 := (hfvy40 (i + 14) (ne_o (i := i) (c := 14) (d := 7) rfl)).trans hgy201
                          have hgy203 := (f3A (i + 14) (ne_o (i := i) (c := 14) (d := 7) rfl)).trans hgy202
                          have hgy204 := (f3B (i + 14) (ne_o (i := i) (c := 14) (d := 4) rfl) (ne_o (i := i) (c := 14) (d := 5) rfl) (ne_o (i := i) (c := 14) (d := 6) rfl)).trans hgy203
                          have hgy205 := (f3C (i + 14) (ne_o (i := i) (c := 14) (d := 1) rfl)).trans hgy204
                          have hgy206 := up_n egy49 hgy205 (ne_o (i := i) (c := 14) (d := 1) rfl)
                          have hgy207 := (f3D (i + 14) (ne_o (i := i) (c := 14) (d := 1) rfl) (ne_o (i := i) (c := 14) (d := 2) rfl) (ne_o (i := i) (c := 14) (d := 3) rfl)).trans hgy206
                          have hgy208 := up_n egy59 hgy207 (ne_o (i := i) (c := 14) (d := 0) rfl)
                          have hgy209 := up_n egy62 hgy208 (ne_o (i := i) (c := 14) (d := 0) rfl)
                          have hgy210 := up_n egy65 hgy209 (ne_o (i := i) (c := 14) (d := 0) rfl)
                          have hgy211 := up_n egy68 hgy210 (ne_o (i := i) (c := 14) (d := 0) rfl)
                          have hgy212 := up_n egy33 ha15 (ne_o (i := i) (c := 15) (d := 0) rfl)
                          have hgy213 := up_n egy36 hgy212 (ne_o (i := i) (c := 15) (d := 0) rfl)
                          have hgy214 := (hfvy40 (i + 15) (ne_o (i := i) (c := 15) (d := 7) rfl)).trans hgy213
                          have hgy215 := (f3A (i + 15) (ne_o (i := i) (c := 15) (d := 7) rfl)).trans hgy214
                          have hgy216 := (f3B (i + 15) (ne_o (i := i) (c := 15) (d := 4) rfl) (ne_o (i := i) (c := 15) (d := 5) rfl) (ne_o (i := i) (c := 15) (d := 6) rfl)).trans hgy215
                          have hgy217 := (f3C (i + 15) (ne_o (i := i) (c := 15) (d := 1) rfl)).trans hgy216
                          have hgy218 := up_n egy49 hgy217 (ne_o (i := i) (c := 15) (d := 1) rfl)
                          have hgy219 := (f3D (i + 15) (ne_o (i := i) (c := 15) (d := 1) rfl) (ne_o (i := i) (c := 15) (d := 2) rfl) (ne_o (i := i) (c := 15) (d := 3) rfl)).trans hgy218
                          have hgy220 := up_n egy59 hgy219 (ne_o (i := i) (c := 15) (d := 0) rfl)
                          have hgy221 := up_n egy62 hgy220 (ne_o (i := i) (c := 15) (d := 0) rfl)
                          have hgy222 := up_n egy65 hgy221 (ne_o (i := i) (c := 15) (d := 0) rfl)
                          have hgy223 := up_n egy68 hgy222 (ne_o (i := i) (c := 15) (d := 0) rfl)
                          have hgy224 := up_n egy33 ha24 (ne_o (i := i) (c := 24) (d := 0) rfl)
                          have hgy225 := up_n egy36 hgy224 (ne_o (i := i) (c := 24) (d := 0) rfl)
                          have hgy226 := (hfvy40 (i + 24) (ne_o (i := i) (c := 24) (d := 7) rfl)).trans hgy225
                          have hgy227 := (f3A (i + 24) (ne_o (i := i) (c := 24) (d := 7) rfl)).trans hgy226
                          have hgy228 := (f3B (i + 24) (ne_o (i := i) (c := 24) (d := 4) rfl) (ne_o (i := i) (c := 24) (d := 5) rfl) (ne_o (i := i) (c := 24) (d := 6) rfl)).trans hgy227
                          have hgy229 := (f3C (i + 24) (ne_o (i := i) (c := 24) (d := 1) rfl)).trans hgy228
                          have hgy230 := up_n egy49 hgy229 (ne_o (i := i) (c := 24) (d := 1) rfl)
                          have hgy231 := (f3D (i + 24) (ne_o (i := i) (c := 24) (d := 1) rfl) (ne_o (i := i) (c := 24) (d := 2) rfl) (ne_o (i := i) (c := 24) (d := 3) rfl)).trans hgy230
                          have hgy232 := up_n egy59 hgy231 (ne_o (i := i) (c := 24) (d := 0) rfl)
                          have hgy233 := up_n egy62 hgy232 (ne_o (i := i) (c := 24) (d := 0) rfl)
                          have hgy234 := up_n egy65 hgy233 (ne_o (i := i) (c := 24) (d := 0) rfl)
                          have hgy235 := up_n egy68 hgy234 (ne_o (i := i) (c := 24) (d := 0) rfl)
                          have hgy236 := up_n egy33 ha25 (ne_o (i := i) (c := 25) (d := 0) rfl)
                          have hgy237 := up_n egy36 hgy236 (ne_o (i := i) (c := 25) (d := 0) rfl)
                          have hgy238 := (hfvy40 (i + 25) (ne_o (i := i) (c := 25) (d := 7) rfl)).trans hgy237
                          have hgy239 := (f3A (i + 25) (ne_o (i := i) (c := 25) (d := 7) rfl)).trans hgy238
                          have hgy240 := (f3B (i + 25) (ne_o (i := i) (c := 25) (d := 4) rfl) (ne_o (i := i) (c := 25) (d := 5) rfl) (ne_o (i := i) (c := 25) (d := 6) rfl)).trans hgy239
                          have hgy241 := (f3C (i + 25) (ne_o (i := i) (c := 25) (d := 1) rfl)).trans hgy240
                          have hgy242 := up_n egy49 hgy241 (ne_o (i := i) (c := 25) (d := 1) rfl)
                          have hgy243 := (f3D (i + 25) (ne_o (i := i) (c := 25) (d := 1) rfl) (ne_o (i := i) (c := 25) (d := 2) rfl) (ne_o (i := i) (c := 25) (d := 3) rfl)).trans hgy242
                          have hgy244 := up_n egy59 hgy243 (ne_o (i := i) (c := 25) (d := 0) rfl)
                          have hgy245 := up_n egy62 hgy244 (ne_o (i := i) (c := 25) (d := 0) rfl)
                          have hgy246 := up_n egy65 hgy245 (ne_o (i := i) (c := 25) (d := 0) rfl)
                          have hgy247 := up_n egy68 hgy246 (ne_o (i := i) (c := 25) (d := 0) rfl)
                          have hgy248 := up_n egy33 ha26 (ne_o (i := i) (c := 26) (d := 0) rfl)
                          have hgy249 := up_n egy36 hgy248 (ne_o (i := i) (c := 26) (d := 0) rfl)
                          have hgy250 := (hfvy40 (i + 26) (ne_o (i := i) (c := 26) (d := 7) rfl)).trans hgy249
                          have hgy251 := (f3A (i + 26) (ne_o (i := i) (c := 26) (d := 7) rfl)).trans hgy250
                          have hgy252 := (f3B (i + 26) (ne_o (i := i) (c := 26) (d := 4) rfl) (ne_o (i := i) (c := 26) (d := 5) rfl) (ne_o (i := i) (c := 26) (d := 6) rfl)).trans hgy251
                          have hgy253 := (f3C (i + 26) (ne_o (i := i) (c := 26) (d := 1) rfl)).trans hgy252
                          have hgy254 := up_n egy49 hgy253 (ne_o (i := i) (c := 26) (d := 1) rfl)
                          have hgy255 := (f3D (i + 26) (ne_o (i := i) (c := 26) (d := 1) rfl) (ne_o (i := i) (c := 26) (d := 2) rfl) (ne_o (i := i) (c := 26) (d := 3) rfl)).trans hgy254
                          have hgy256 := up_n egy59 hgy255 (ne_o (i := i) (c := 26) (d := 0) rfl)
                          have hgy257 := up_n egy62 hgy256 (ne_o (i := i) (c := 26) (d := 0) rfl)
                          have hgy258 := up_n egy65 hgy257 (ne_o (i := i) (c := 26) (d := 0) rfl)
                          have hgy259 := up_n egy68 hgy258 (ne_o (i := i) (c := 26) (d := 0) rfl)
                          have hgy260 := up_n egy33 ha27 (ne_o (i := i) (c := 27) (d := 0) rfl)
                          have hgy261 := up_n egy36 hgy260 (ne_o (i := i) (c := 27) (d := 0) rfl)
                          have hgy262 := (hfvy40 (i + 27) (ne_o (i := i) (c := 27) (d := 7) rfl)).trans hgy261
                          have hgy263 := (f3A (i + 27) (ne_o (i := i) (c := 27) (d := 7) rfl)).trans hgy262
                          have hgy264 := (f3B (i + 27) (ne_o (i := i) (c := 27) (d := 4) rfl) (ne_o (i := i) (c := 27) (d := 5) rfl) (ne_o (i := i) (c := 27) (d := 6) rfl)).trans hgy263
                          have hgy265 := (f3C (i + 27) (ne_o (i := i) (c := 27) (d := 1) rfl)).trans hgy264
                          have hgy266 := up_n egy49 hgy265 (ne_o (i := i) (c := 27) (d := 1) rfl)
                          have hgy267 := (f3D (i + 27) (ne_o (i := i) (c := 27) (d := 1) rfl) (ne_o (i := i) (c := 27) (d := 2) rfl) (ne_o (i := i) (c := 27) (d := 3) rfl)).trans hgy266
                          have hgy268 := up_n egy59 hgy267 (ne_o (i := i) (c := 27) (d := 0) rfl)
                          have hgy269 := up_n egy62 hgy268 (ne_o (i := i) (c := 27) (d := 0) rfl)
                          have hgy270 := up_n egy65 hgy269 (ne_o (i := i) (c := 27) (d := 0) rfl)
                          have hgy271 := up_n egy68 hgy270 (ne_o (i := i) (c := 27) (d := 0) rfl)
                          have hgy272 := up_n egy33 ha28 (ne_o (i := i) (c := 28) (d := 0) rfl)
                          have hgy273 := up_n egy36 hgy272 (ne_o (i := i) (c := 28) (d := 0) rfl)
                          have hgy274 := (hfvy40 (i + 28) (ne_o (i := i) (c := 28) (d := 7) rfl)).trans hgy273
                          have hgy275 := (f3A (i + 28) (ne_o (i := i) (c := 28) (d := 7) rfl)).trans hgy274
                          have hgy276 := (f3B (i + 28) (ne_o (i := i) (c := 28) (d := 4) rfl) (ne_o (i := i) (c := 28) (d := 5) rfl) (ne_o (i := i) (c := 28) (d := 6) rfl)).trans hgy275
                          have hgy277 := (f3C (i + 28) (ne_o (i := i) (c := 28) (d := 1) rfl)).trans hgy276
                          have hgy278 := up_n egy49 hgy277 (ne_o (i := i) (c := 28) (d := 1) rfl)
                          have hgy279 := (f3D (i + 28) (ne_o (i := i) (c := 28) (d := 1) rfl) (ne_o (i := i) (c := 28) (d := 2) rfl) (ne_o (i := i) (c := 28) (d := 3) rfl)).trans hgy278
                          have hgy280 := up_n egy59 hgy279 (ne_o (i := i) (c := 28) (d := 0) rfl)
                          have hgy281 := up_n egy62 hgy280 (ne_o (i := i) (c := 28) (d := 0) rfl)
                          have hgy282 := up_n egy65 hgy281 (ne_o (i := i) (c := 28) (d := 0) rfl)
                          have hgy283 := up_n egy68 hgy282 (ne_o (i := i) (c := 28) (d := 0) rfl)
                          have hgy284 := up_n egy33 ha29 (ne_o (i := i) (c := 29) (d := 0) rfl)
                          have hgy285 := up_n egy36 hgy284 (ne_o (i := i) (c := 29) (d := 0) rfl)
                          have hgy286 := (hfvy40 (i + 29) (ne_o (i := i) (c := 29) (d := 7) rfl)).trans hgy285
                          have hgy287 := (f3A (i + 29) (ne_o (i := i) (c := 29) (d := 7) rfl)).trans hgy286
                          have hgy288 := (f3B (i + 29) (ne_o (i := i) (c := 29) (d := 4) rfl) (ne_o (i := i) (c := 29) (d := 5) rfl) (ne_o (i := i) (c := 29) (d := 6) rfl)).trans hgy287
                          have hgy289 := (f3C (i + 29) (ne_o (i := i) (c := 29) (d := 1) rfl)).trans hgy288
                          have hgy290 := up_n egy49 hgy289 (ne_o (i := i) (c := 29) (d := 1) rfl)
                          have hgy291 := (f3D (i + 29) (ne_o (i := i) (c := 29) (d := 1) rfl) (ne_o (i := i) (c := 29) (d := 2) rfl) (ne_o (i := i) (c := 29) (d := 3) rfl)).trans hgy290
                          have hgy292 := up_n egy59 hgy291 (ne_o (i := i) (c := 29) (d := 0) rfl)
                          have hgy293 := up_n egy62 hgy292 (ne_o (i := i) (c := 29) (d := 0) rfl)
                          have hgy294 := up_n egy65 hgy293 (ne_o (i := i) (c := 29) (d := 0) rfl)
                          have hgy295 := up_n egy68 hgy294 (ne_o (i := i) (c := 29) (d := 0) rfl)
                          have hM9 : okMr cs ad gy67 i x (uZ (uZ (uZ (uZ (uZ (uZ F 13 (F 47)) 14 (F 48)) 21 (0)) 17 (0)) 16 (0)) 15 (0)) rd9 (st9) (op9) (a9) (fa9) (m9) (t9) tp := ⟨hgy69, hK9, (RD.put (RD.put (RD.put (RD.put (RD.put (RD.put hRD (by decide)) (by decide)) (by decide)) (by decide)) (by decide)) (by decide)), hT9.weak, hA9, _, _, _, _, _, _, _, _, _, _, _, _, _, ⟨hgy90, hgy94, hgy98, hgy105, hgy112, hgy119, hgy127, hgy139, hgy151, hgy163, hgy175, hgy187, hgy199, hgy211, hgy223, hgy235, hgy247, hgy259, hgy271, hgy283, hgy295⟩, ⟨hK9.1, fDo, fBa, fBf, fun k hk => (fTa k hk).1, fun k h1 h2 => (fTa k h2).2 h1⟩, hPt, hns, htp⟩
                          have hD9 : dT s (st9) (op9) (a9) (fa9) (m9) (t9) := ⟨fun k hk => by have h9 := hrT.2.1 k hk; have h8 := fDe k (by omega); omega, fun k hk => by have h9 := hrT.2.2.1 k hk; have h8 := fBe k (by omega); omega, fun k hk => by have h9 := hrT.2.2.2.1 k hk; have h8 := fTe k hk; omega⟩
                          exact z_vret C hr hlk dX10_becomes_253 (by decide) (by decide) ⟨rfl, rfl, rfl, ⟨_, _, _, _, _, _, _, _, hM9, by omega, by omega, hD9⟩, fun j j1 => by rw [egy68, va_up_ne _ _ (by omega)]; rw [egy65, va_up_ne _ _ (by omega)]; rw [egy62, va_up_ne _ _ (by omega)]; rw [egy59, va_up_ne _ _ (by omega)]; rw [f3D _ (by omega) (by omega) (by omega)]; rw [egy49, va_up_ne _ _ (by omega)]; rw [f3C _ (by omega)]; rw [f3B _ (by omega) (by omega) (by omega)]; rw [f3A _ (by omega)]; rw [hfvy40 _ (by omega)]; rw [egy36, va_up_ne _ _ (by omega)]; rw [egy33, va_up_ne _ _ (by omega)]⟩
                        · refine z_aload_n C 0 dX10_becomes_150 rfl ?_
                          refine z_get (v := .ref (ad (i + 2))) C (lt_A0 hN rfl) hay1 hgy56 rfl inA_X10 1 (by decide) q_1460 rfl rfl dX10_becomes_151 ?_
                          refine z_iload_n C 1 dX10_becomes_154 rfl ?_
                          refine z_aload_n C 0 dX10_becomes_155 rfl ?_
                          refine z_get (v := .ref (ad (i + 16))) C (lt_A0 hN rfl) hay1 hgy56 rfl inA_X10 39 (by decide) q_1498 rfl rfl dX10_becomes_156 ?_
                          refine z_iload_n C 1 dX10_becomes_159 rfl ?_
                          have hgy296 := up_n egy33 ha16 (ne_o (i := i) (c := 16) (d := 0) rfl)
                          have hgy297 := up_n egy36 hgy296 (ne_o (i := i) (c := 16) (d := 0) rfl)
                          have hgy298 := (hfvy40 (i + 16) (ne_o (i := i) (c := 16) (d := 7) rfl)).trans hgy297
                          have hgy299 := (f3A (i + 16) (ne_o (i := i) (c := 16) (d := 7) rfl)).trans hgy298
                          have hgy300 := (f3B (i + 16) (ne_o (i := i) (c := 16) (d := 4) rfl) (ne_o (i := i) (c := 16) (d := 5) rfl) (ne_o (i := i) (c := 16) (d := 6) rfl)).trans hgy299
                          have hgy301 := (f3C (i + 16) (ne_o (i := i) (c := 16) (d := 1) rfl)).trans hgy300
                          have hgy302 := up_n egy49 hgy301 (ne_o (i := i) (c := 16) (d := 1) rfl)
                          have hgy303 := (f3D (i + 16) (ne_o (i := i) (c := 16) (d := 1) rfl) (ne_o (i := i) (c := 16) (d := 2) rfl) (ne_o (i := i) (c := 16) (d := 3) rfl)).trans hgy302
                          refine z_iald C (lt_A (c := 16) hN rfl) hay24 hgy303 (nkD) (by omega) (by omega) (by decide) dX10_becomes_160 ?_
                          refine z_iast C (lt_A (c := 2) hN rfl) hay3 f2D_st9 (nkD) (by omega) (by omega) (by decide) dX10_becomes_161 (fun gy304 egy305 => ?_)
                          have hgy306 := up_s egy305
                          refine z_aload_n C 0 dX10_becomes_162 rfl ?_
                          have hgy307 := up_n egy305 hgy56 (ne_o (i := i) (c := 0) (d := 2) rfl)
                          refine z_get (v := .ref (ad (i + 3))) C (lt_A0 hN rfl) hay1 hgy307 rfl inA_X10 2 (by decide) q_1461 rfl rfl dX10_becomes_163 ?_
                          refine z_iload_n C 1 dX10_becomes_166 rfl ?_
                          refine z_aload_n C 0 dX10_becomes_167 rfl ?_
                          refine z_get (v := .ref (ad (i + 17))) C (lt_A0 hN rfl) hay1 hgy307 rfl inA_X10 40 (by decide) q_1499 rfl rfl dX10_becomes_168 ?_
                          refine z_iload_n C 1 dX10_becomes_171 rfl ?_
                          have hgy308 := up_n egy33 ha17 (ne_o (i := i) (c := 17) (d := 0) rfl)
                          have hgy309 := up_n egy36 hgy308 (ne_o (i := i) (c := 17) (d := 0) rfl)
                          have hgy310 := (hfvy40 (i + 17) (ne_o (i := i) (c := 17) (d := 7) rfl)).trans hgy309
                          have hgy311 := (f3A (i + 17) (ne_o (i := i) (c := 17) (d := 7) rfl)).trans hgy310
                          have hgy312 := (f3B (i + 17) (ne_o (i := i) (c := 17) (d := 4) rfl) (ne_o (i := i) (c := 17) (d := 5) rfl) (ne_o (i := i) (c := 17) (d := 6) rfl)).trans hgy311
                          have hgy313 := (f3C (i + 17) (ne_o (i := i) (c := 17) (d := 1) rfl)).trans hgy312
                          have hgy314 := up_n egy49 hgy313 (ne_o (i := i) (c := 17) (d := 1) rfl)
                          have hgy315 := (f3D (i + 17) (ne_o (i := i) (c := 17) (d := 1) rfl) (ne_o (i := i) (c := 17) (d := 2) rfl) (ne_o (i := i) (c := 17) (d := 3) rfl)).trans hgy314
                          have hgy316 := up_n egy305 hgy315 (ne_o (i := i) (c := 17) (d := 2) rfl)
                          refine z_iald C (lt_A (c := 17) hN rfl) hay25 hgy316 (nkD) (by omega) (by omega) (by decide) dX10_becomes_172 ?_
                          have hrfy317 := hop1 (nkD) (by omega)
                          have hgy318 := up_n egy305 f2D_op9 (ne_o (i := i) (c := 3) (d := 2) rfl)
                          refine z_iast C (lt_A (c := 3) hN rfl) hay4 hgy318 (nkD) (by omega) (by omega) (by decide) dX10_becomes_173 (fun gy319 egy320 => ?_)
                          have hgy321 := up_s egy320
                          obtain ⟨ry322, hvy323⟩ : ∃ rZ9 : Nat → Int, rZ9 = uZ op9 (nkD) (op1 (nkD)) := ⟨_, rfl⟩
                          rw [← hvy323] at hgy321
                          refine z_aload_n C 0 dX10_becomes_174 rfl ?_
                          refine z_iconst (z := 0) C dX10_becomes_175 rfl ?_
                          refine z_iload_n C 1 dX10_becomes_176 rfl ?_
                          refine z_aload_n C 0 dX10_becomes_177 rfl ?_
                          have hgy324 := up_n egy320 hgy307 (ne_o (i := i) (c := 0) (d := 3) rfl)
                          refine z_get (v := .ref (ad (i + 18))) C (lt_A0 hN rfl) hay1 hgy324 rfl inA_X10 41 (by decide) q_1500 rfl rfl dX10_becomes_178 ?_
                          refine z_iload_n C 1 dX10_becomes_181 rfl ?_
                          have hgy325 := up_n egy33 ha18 (ne_o (i := i) (c := 18) (d := 0) rfl)
                          have hgy326 := up_n egy36 hgy325 (ne_o (i := i) (c := 18) (d := 0) rfl)
                          have hgy327 := (hfvy40 (i + 18) (ne_o (i := i) (c := 18) (d := 7) rfl)).trans hgy326
                          have hgy328 := (f3A (i + 18) (ne_o (i := i) (c := 18) (d := 7) rfl)).trans hgy327
                          have hgy329 := (f3B (i + 18) (ne_o (i := i) (c := 18) (d := 4) rfl) (ne_o (i := i) (c := 18) (d := 5) rfl) (ne_o (i := i) (c := 18) (d := 6) rfl)).trans hgy328
                          have hgy330 := (f3C (i + 18) (ne_o (i := i) (c := 18) (d := 1) rfl)).trans hgy329
                          have hgy331 := up_n egy49 hgy330 (ne_o (i := i) (c := 18) (d := 1) rfl)
                          have hgy332 := (f3D (i + 18) (ne_o (i := i) (c := 18) (d := 1) rfl) (ne_o (i := i) (c := 18) (d := 2) rfl) (ne_o (i := i) (c := 18) (d := 3) rfl)).trans hgy331
                          have hgy333 := up_n egy305 hgy332 (ne_o (i := i) (c := 18) (d := 2) rfl)
                          have hgy334 := up_n egy320 hgy333 (ne_o (i := i) (c := 18) (d := 3) rfl)
                          refine z_iald C (lt_A (c := 18) hN rfl) hay26 hgy334 (nkD) (by omega) (by omega) (by decide) dX10_becomes_182 ?_
                          have hrfy335 := hmn1 (nkD) (by omega)
                          obtain ⟨ny336, hny336⟩ : ∃ n9 : Nat, sd = (n9 : Int) := ⟨(sd).toNat, by omega⟩
                          rw [hny336]
                          obtain ⟨py337, hpy337⟩ : ∃ p9 : Nat, 0 + 6 + 86 * ny336 = p9 := ⟨_, rfl⟩
                          have hgy338 := up_n egy305 f2D_rd9 (ne_o (i := i) (c := 1) (d := 2) rfl)
                          have hgy339 := up_n egy320 hgy338 (ne_o (i := i) (c := 1) (d := 3) rfl)
                          refine z_cV (As := [.int (zI (0)), .int (zI ((ny336 : Int))), .int (zI (mn1 (nkD)))]) (rest := []) (ci := 12) C (c_X10_setsMany l D A cs tt N ad _ i hN _ hgy324 _ hgy339 0 ny336 py337 hpy337 (by omega) (by omega) (mn1 (nkD))) (lt_A0 hN rfl) hay1 hgy324 rfl rfl mv_yX10_setsMany q_1717 hd_yX10_setsMany (by decide) (Nat.le_of_ble_eq_true rfl) (by decide) dX10_becomes_183 rfl (kV0 fun gvy340 hvy340 => ?_)
                          obtain ⟨hcvy340, hfvy340⟩ := hvy340
                          obtain ⟨ry341, hvy342⟩ : ∃ rZ9 : Nat → Int, rZ9 = uZ rd9 (py337) (mn1 (nkD)) := ⟨_, rfl⟩
                          rw [← hvy342] at hcvy340
                          refine z_iconst (z := 0) C dX10_becomes_186 rfl ?_
                          refine z_istore_n (lv' := [(2, .int (zI (0))), (0, .ref (ad i)), (1, .int (zI ((ny336 : Int))))]) C dX10_becomes_187 rfl (by decide) rfl ?_
                          have hfry343 : ∀ j, j ≠ py337 → ry341 j = rd9 j := fun j n0 => (congrFun hvy342 _).trans ((uZ_n _ _ n0).trans (rfl))
                          have hwy344 : ry341 (py337) = mn1 (nkD) := (congrFun hvy342 _).trans (uZ_s _ _ _)
                          have hnD : nkD = ny336 := by omega
                          have hmE : ry341 py337 = mn1 ny336 := by rw [← hnD]; omega
                          have hmr := hmn1 ny336 (by omega)
                          have hopE : ∀ k, k < 4 → 0 ≤ ry322 k ∧ ry322 k ≤ 20 := fun k hk => by rw [hvy323]; exact uZ_any fDo (by omega) k hk
                          have hdE : ∀ k : Nat, (k : Int) < (ny336 : Int) + 1 → (uZ (st9) (nkD) (st1 (nkD))) k = st1 k ∧ ry322 k = op1 k := fun k hk => by rw [hvy323]; by_cases e : k = nkD; (rw [e, uZ_s, uZ_s]; exact ⟨rfl, rfl⟩); (rw [uZ_n _ _ e, uZ_n _ _ e]; exact fDe k (by omega))
                          have E : ∀ (n9 : Nat) (ke : Int) (re9 : Nat → Int) (g1 : Nat → va_E), (85 - ke).toNat = n9 → (g1 (i + 1) = iA cs 29200 re9) → (∀ j, j ≠ i + 1 → g1 j = gvy340 j) → (∀ k : Nat, (k : Int) < ke → re9 (py337 + 2 + k) = ly1 (84 * ny336 + k)) → (∀ j, (j < py337 + 2 ∨ py337 + 86 ≤ j) → re9 j = ry341 j) → (0 ≤ ke ∧ ke ≤ 84) → zV pZ l eZ ({ frames := 2, cells := 0, slots := 0, locals := 120 } : Room) sZ mZ ([.ref (ad i)] : List Value).toArray below meth cZ (MQ below (zPost D A (rV0 N ad fun g' => (∃ F' r' st' op' ai' fa' mu' tb' : Nat → Int, okMr cs ad g' i x F' r' st' op' ai' fa' mu' tb' tp ∧ (F' 13 = s.1 ∧ F' 14 = s.2.1 ∧ F' 17 = 0 ∧ F' 20 = F 20 ∧ F' 21 = 0 ∧ F' 23 = F 23 ∧ F' 24 = F 24) ∧ F' 12 = F 12 ∧ dT s st' op' ai' fa' mu' tb') ∧ ∀ j, j < i ∨ i + 30 ≤ j → g' j = g j)) ([.ref (ad i)] : List Value).toArray sZ ({ frames := 2, cells := 0, slots := 0, locals := 120 } : Room).cells ({ frames := 2, cells := 0, slots := 0, locals := 120 } : Room).slots A) D A 3 (N) ad g1 (0) (0) 188 [(0, .ref (ad i)), (1, .int (zI ((ny336 : Int)))), (2, .int (zI (ke)))] [] := by
                            intro n9
                            induction n9 using Nat.strongRecOn with
                            | ind n9 ih_E =>
                              intro ke re9 g1 hm9 f2E_re9 f3E fE1 fE2 hvkE
                              obtain ⟨nkE, hnkE⟩ : ∃ n9 : Nat, ke = (n9 : Int) := ⟨ke.toNat, by omega⟩
                              obtain ⟨nj, hnj⟩ : ∃ n9 : Nat, py337 + 2 + nkE = n9 := ⟨_, rfl⟩
                              obtain ⟨nl, hnl⟩ : ∃ n9 : Nat, 84 * ny336 + nkE = n9 := ⟨_, rfl⟩
                              refine z_iload_n C 2 dX10_becomes_188 rfl ?_
                              refine z_bipush (z := 84) C dX10_becomes_189 (by decide) ?_
                              refine z_icmp_ge (tgt := 227) C dX10_becomes_191 (by decide) (by omega) (by omega) (fun hby345 => ?_) (fun hby345 => ?_)
                              · refine z_iinc (z := (ny336 : Int) + 1) (lv' := [(1, .int (zI ((ny336 : Int) + 1))), (0, .ref (ad i)), (2, .int (zI (ke)))]) (j := 1) C dX10_becomes_227 rfl rfl (by decide) rfl ?_
                                refine z_goto (tgt := 142) C dX10_becomes_230 (by decide) ?_
                                have hokE : okS re9 py337 2400 12000 := okS.ofT (ly1 := ly1) (q0 := 84 * ny336) (m := mn1 ny336) ((fE2 py337 (by omega)).trans hmE) hmr (fun l hl => hly1 ny336 l (by omega) hl) (fun k hk => fE1 k (by omega))
                                have hfr9 : ∀ j, j < py337 ∨ py337 + 86 ≤ j → re9 j = rd9 j := fun j a => (fE2 j (by omega)).trans (hfry343 j (by omega))
                                have hgy346 := up_n egy320 hgy306 (ne_o (i := i) (c := 2) (d := 3) rfl)
                                have hgy347 := (hfvy340 (i + 2) (ne_o (i := i) (c := 2) (d := 1) rfl)).trans hgy346
                                have hgy348 := (f3E (i + 2) (ne_o (i := i) (c := 2) (d := 1) rfl)).trans hgy347
                                have hgy349 := (hfvy340 (i + 3) (ne_o (i := i) (c := 3) (d := 1) rfl)).trans hgy321
                                have hgy350 := (f3E (i + 3) (ne_o (i := i) (c := 3) (d := 1) rfl)).trans hgy349
                                refine z_lv (lv' := [(0, .ref (ad i)), (1, .int (zI ((ny336 : Int) + 1)))]) [1, 0] rfl ?_
                                exact ih_D _ (by omega) ((ny336 : Int) + 1) (re9) (uZ (st9) (nkD) (st1 (nkD))) (ry322) g1 rfl f2E_re9 hgy348 hgy350 (fun j j1 j2 j3 => by rw [f3E _ (by omega)]; rw [hfvy340 _ (by omega)]; rw [egy320, va_up_ne _ _ (by omega)]; rw [egy305, va_up_ne _ _ (by omega)]; exact f3D j j1 j2 j3) hopE hdE ((hfr9 0 (by omega)).trans fD0) ((hfr9 1 (by omega)).trans fD1) ((hfr9 5 (by omega)).trans fD5) (fun j a => (hfr9 j (by omega)).trans (fDr j a)) (fun s hs => by
                                    by_cases e : s = ny336
                                    · subst e; exact ⟨fun _ => hokE.of (by omega), fun h => absurd h (by omega)⟩
                                    · exact ⟨fun h => ((fDs s hs).1 (by omega)).ext (fun j b1 b2 => hfr9 j (by omega)), fun h => (hfr9 (6 + 86 * s) (by omega)).trans ((fDs s hs).2 (by omega))⟩) (by omega)
                              · refine z_aload_n C 0 dX10_becomes_194 rfl ?_
                                have hgy351 := (hfvy340 (i) (ne_o (i := i) (c := 0) (d := 1) rfl)).trans hgy324
                                have hgy352 := (f3E (i) (ne_o (i := i) (c := 0) (d := 1) rfl)).trans hgy351
                                refine z_get (v := .ref (ad (i + 1))) C (lt_A0 hN rfl) hay1 hgy352 rfl inA_X10 0 (by decide) q_1459 rfl rfl dX10_becomes_195 ?_
                                refine z_bipush (z := 6) C dX10_becomes_198 (by decide) ?_
                                refine z_bipush (z := 86) C dX10_becomes_200 (by decide) ?_
                                refine z_iload_n C 1 dX10_becomes_202 rfl ?_
                                refine z_imul C dX10_becomes_203 ?_
                                refine z_iadd C dX10_becomes_204 ?_
                                refine z_iconst (z := 2) C dX10_becomes_205 rfl ?_
                                refine z_iadd C dX10_becomes_206 ?_
                                refine z_iload_n C 2 dX10_becomes_207 rfl ?_
                                refine z_iadd C dX10_becomes_208 ?_
                                refine z_aload_n C 0 dX10_becomes_209 rfl ?_
                                refine z_get (v := .ref (ad (i + 23))) C (lt_A0 hN rfl) hay1 hgy352 rfl inA_X10 46 (by decide) q_1505 rfl rfl dX10_becomes_210 ?_
                                refine z_bipush (z := 84) C dX10_becomes_213 (by decide) ?_
                                refine z_iload_n C 1 dX10_becomes_215 rfl ?_
                                refine z_imul C dX10_becomes_216 ?_
                                refine z_iload_n C 2 dX10_becomes_217 rfl ?_
                                refine z_iadd C dX10_becomes_218 ?_
                                have hgy353 := up_n egy33 ha23 (ne_o (i := i) (c := 23) (d := 0) rfl)
                                have hgy354 := up_n egy36 hgy353 (ne_o (i := i) (c := 23) (d := 0) rfl)
                                have hgy355 := (hfvy40 (i + 23) (ne_o (i := i) (c := 23) (d := 7) rfl)).trans hgy354
                                have hgy356 := (f3A (i + 23) (ne_o (i := i) (c := 23) (d := 7) rfl)).trans hgy355
                                have hgy357 := (f3B (i + 23) (ne_o (i := i) (c := 23) (d := 4) rfl) (ne_o (i := i) (c := 23) (d := 5) rfl) (ne_o (i := i) (c := 23) (d := 6) rfl)).trans hgy356
                                have hgy358 := (f3C (i + 23) (ne_o (i := i) (c := 23) (d := 1) rfl)).trans hgy357
                                have hgy359 := up_n egy49 hgy358 (ne_o (i := i) (c := 23) (d := 1) rfl)
                                have hgy360 := (f3D (i + 23) (ne_o (i := i) (c := 23) (d := 1) rfl) (ne_o (i := i) (c := 23) (d := 2) rfl) (ne_o (i := i) (c := 23) (d := 3) rfl)).trans hgy359
                                have hgy361 := up_n egy305 hgy360 (ne_o (i := i) (c := 23) (d := 2) rfl)
                                have hgy362 := up_n egy320 hgy361 (ne_o (i := i) (c := 23) (d := 3) rfl)
                                have hgy363 := (hfvy340 (i + 23) (ne_o (i := i) (c := 23) (d := 1) rfl)).trans hgy362
                                have hgy364 := (f3E (i + 23) (ne_o (i := i) (c := 23) (d := 1) rfl)).trans hgy363
                                refine z_iald C (lt_A (c := 23) hN rfl) hay31 hgy364 (nl) (by omega) (by omega) (by decide) dX10_becomes_219 ?_
                                refine z_iast C (lt_A (c := 1) hN rfl) hay2 f2E_re9 (nj) (by omega) (by omega) (by decide) dX10_becomes_220 (fun gy365 egy366 => ?_)
                                have hgy367 := up_s egy366
                                obtain ⟨ry368, hvy369⟩ : ∃ rZ9 : Nat → Int, rZ9 = uZ re9 (nj) (ly1 (nl)) := ⟨_, rfl⟩
                                rw [← hvy369] at hgy367
                                refine z_iinc (z := ke + 1) (lv' := [(2, .int (zI (ke + 1))), (0, .ref (ad i)), (1, .int (zI ((ny336 : Int))))]) (j := 2) C dX10_becomes_221 rfl rfl (by decide) rfl ?_
                                refine z_goto (tgt := 188) C dX10_becomes_224 (by decide) ?_
                                refine z_lv (lv' := [(0, .ref (ad i)), (1, .int (zI ((ny336 : Int)))), (2, .int (zI (ke + 1)))]) [1, 2, 0] rfl ?_
                                exact ih_E _ (by omega) (ke + 1) ry368 gy365 rfl hgy367 (fun j j1 => by rw [egy366, va_up_ne _ _ (by omega)]; exact f3E j j1) (fun k a => by rw [hvy369]; by_cases e : k = nkE; (subst e; rw [show py337 + 2 + k = nj by omega, uZ_s, show 84 * ny336 + k = nl by omega]); (rw [uZ_n _ _ (by omega)]; exact fE1 k (by omega))) (fun j a => by rw [hvy369, uZ_n _ _ (by omega)]; exact fE2 j (by omega)) (by omega)
                          refine z_lv (lv' := [(0, .ref (ad i)), (1, .int (zI ((ny336 : Int)))), (2, .int (zI (0)))]) [1, 2, 0] rfl ?_
                          exact E _ (0) ry341 gvy340 rfl hcvy340 (fun j _ => rfl) (fun k a => absurd a (by omega)) (fun j _ => rfl) (by omega)
                    have hgy370 := up_n egy33 ha2 (ne_o (i := i) (c := 2) (d := 0) rfl)
                    have hgy371 := up_n egy36 hgy370 (ne_o (i := i) (c := 2) (d := 0) rfl)
                    have hgy372 := (hfvy40 (i + 2) (ne_o (i := i) (c := 2) (d := 7) rfl)).trans hgy371
                    have hgy373 := (f3A (i + 2) (ne_o (i := i) (c := 2) (d := 7) rfl)).trans hgy372
                    have hgy374 := (f3B (i + 2) (ne_o (i := i) (c := 2) (d := 4) rfl) (ne_o (i := i) (c := 2) (d := 5) rfl) (ne_o (i := i) (c := 2) (d := 6) rfl)).trans hgy373
                    have hgy375 := (f3C (i + 2) (ne_o (i := i) (c := 2) (d := 1) rfl)).trans hgy374
                    have hgy376 := up_n egy49 hgy375 (ne_o (i := i) (c := 2) (d := 1) rfl)
                    have hgy377 := up_n egy33 ha3 (ne_o (i := i) (c := 3) (d := 0) rfl)
                    have hgy378 := up_n egy36 hgy377 (ne_o (i := i) (c := 3) (d := 0) rfl)
                    have hgy379 := (hfvy40 (i + 3) (ne_o (i := i) (c := 3) (d := 7) rfl)).trans hgy378
                    have hgy380 := (f3A (i + 3) (ne_o (i := i) (c := 3) (d := 7) rfl)).trans hgy379
                    have hgy381 := (f3B (i + 3) (ne_o (i := i) (c := 3) (d := 4) rfl) (ne_o (i := i) (c := 3) (d := 5) rfl) (ne_o (i := i) (c := 3) (d := 6) rfl)).trans hgy380
                    have hgy382 := (f3C (i + 3) (ne_o (i := i) (c := 3) (d := 1) rfl)).trans hgy381
                    have hgy383 := up_n egy49 hgy382 (ne_o (i := i) (c := 3) (d := 1) rfl)
                    refine z_lv (lv' := [(0, .ref (ad i)), (1, .int (zI (0)))]) [1, 0] rfl ?_
                    exact D _ (0) ry51 st op gy48 rfl hgy50 hgy376 hgy383 (fun j _ _ _ => rfl) (fun k hk => hop k hk) (fun k a => absurd a (by omega)) ((hfry53 0 (by omega)).trans (fCz 0 (by omega))) (by omega) ((hfry53 5 (by omega)).trans (fCz 5 (by omega))) (fun j a => (hfry53 j (by omega)).trans (fCr j (by omega))) (fun s hs => ⟨fun h => absurd h (by omega), fun _ => (hfry53 _ (by omega)).trans (fCz _ (by omega))⟩) (by omega)
                  · refine z_aload_n C 0 dX10_becomes_117 rfl ?_
                    have hgy384 := (f3C (i) (ne_o (i := i) (c := 0) (d := 1) rfl)).trans hgy44
                    refine z_get (v := .ref (ad (i + 1))) C (lt_A0 hN rfl) hay1 hgy384 rfl inA_X10 0 (by decide) q_1459 rfl rfl dX10_becomes_118 ?_
                    refine z_iload_n C 1 dX10_becomes_121 rfl ?_
                    refine z_iconst (z := 0) C dX10_becomes_122 rfl ?_
                    refine z_iast C (lt_A (c := 1) hN rfl) hay2 f2C_r9 (nkC) (by omega) (by omega) (by decide) dX10_becomes_123 (fun gy385 egy386 => ?_)
                    have hgy387 := up_s egy386
                    obtain ⟨ry388, hvy389⟩ : ∃ rZ9 : Nat → Int, rZ9 = uZ r9 (nkC) (0) := ⟨_, rfl⟩
                    rw [← hvy389] at hgy387
                    refine z_iinc (z := kc + 1) (lv' := [(1, .int (zI (kc + 1))), (0, .ref (ad i))]) (j := 1) C dX10_becomes_124 rfl rfl (by decide) rfl ?_
                    refine z_goto (tgt := 110) C dX10_becomes_127 (by decide) ?_
                    refine z_lv (lv' := [(0, .ref (ad i)), (1, .int (zI (kc + 1)))]) [1, 0] rfl ?_
                    exact ih_C _ (by omega) (kc + 1) ry388 gy385 rfl hgy387 (fun j j1 => by rw [egy386, va_up_ne _ _ (by omega)]; exact f3C j j1) (fun j a => by rw [hvy389]; by_cases e : j = nkC; (rw [e, uZ_s]); (rw [uZ_n _ _ e]; exact fCz j (by omega))) (fun j a => by rw [hvy389, uZ_n _ _ (by omega)]; exact fCr j (by omega)) (by omega)
              have hgy390 := up_n egy33 ha1 (ne_o (i := i) (c := 1) (d := 0) rfl)
              have hgy391 := up_n egy36 hgy390 (ne_o (i := i) (c := 1) (d := 0) rfl)
              have hgy392 := (hfvy40 (i + 1) (ne_o (i := i) (c := 1) (d := 7) rfl)).trans hgy391
              have hgy393 := (f3A (i + 1) (ne_o (i := i) (c := 1) (d := 7) rfl)).trans hgy392
              have hgy394 := (f3B (i + 1) (ne_o (i := i) (c := 1) (d := 4) rfl) (ne_o (i := i) (c := 1) (d := 5) rfl) (ne_o (i := i) (c := 1) (d := 6) rfl)).trans hgy393
              refine z_lv (lv' := [(0, .ref (ad i)), (1, .int (zI (0)))]) [1, 0] rfl ?_
              exact C _ (0) r g1C rfl hgy394 (fun j _ => rfl) (fun j a => absurd a (by omega)) (fun j _ => rfl) (by omega)
            · refine z_aload_n C 0 dX10_becomes_66 rfl ?_
              refine z_get (v := .ref (ad (i + 4))) C (lt_A0 hN rfl) hay1 hgy44 rfl inA_X10 3 (by decide) q_1462 rfl rfl dX10_becomes_67 ?_
              refine z_iload_n C 1 dX10_becomes_70 rfl ?_
              refine z_aload_n C 0 dX10_becomes_71 rfl ?_
              refine z_get (v := .ref (ad (i + 19))) C (lt_A0 hN rfl) hay1 hgy44 rfl inA_X10 42 (by decide) q_1501 rfl rfl dX10_becomes_72 ?_
              refine z_iload_n C 1 dX10_becomes_75 rfl ?_
              have hgy395 := up_n egy33 ha19 (ne_o (i := i) (c := 19) (d := 0) rfl)
              have hgy396 := up_n egy36 hgy395 (ne_o (i := i) (c := 19) (d := 0) rfl)
              have hgy397 := (hfvy40 (i + 19) (ne_o (i := i) (c := 19) (d := 7) rfl)).trans hgy396
              have hgy398 := (f3A (i + 19) (ne_o (i := i) (c := 19) (d := 7) rfl)).trans hgy397
              have hgy399 := (f3B (i + 19) (ne_o (i := i) (c := 19) (d := 4) rfl) (ne_o (i := i) (c := 19) (d := 5) rfl) (ne_o (i := i) (c := 19) (d := 6) rfl)).trans hgy398
              refine z_iald C (lt_A (c := 19) hN rfl) hay27 hgy399 (nkB) (by omega) (by omega) (by decide) dX10_becomes_76 ?_
              have htky400 := hai1 nkB (by omega)
              refine z_iast C (lt_A (c := 4) hN rfl) hay5 f2B_a9 (nkB) (by omega) (by omega) (by decide) dX10_becomes_77 (fun gy401 egy402 => ?_)
              have hgy403 := up_s egy402
              obtain ⟨ry404, hvy405⟩ : ∃ rZ9 : Nat → Int, rZ9 = uZ a9 (nkB) (ai1 (nkB)) := ⟨_, rfl⟩
              rw [← hvy405] at hgy403
              refine z_aload_n C 0 dX10_becomes_78 rfl ?_
              have hgy406 := up_n egy402 hgy44 (ne_o (i := i) (c := 0) (d := 4) rfl)
              refine z_get (v := .ref (ad (i + 5))) C (lt_A0 hN rfl) hay1 hgy406 rfl inA_X10 4 (by decide) q_1463 rfl rfl dX10_becomes_79 ?_
              refine z_iload_n C 1 dX10_becomes_82 rfl ?_
              refine z_aload_n C 0 dX10_becomes_83 rfl ?_
              refine z_get (v := .ref (ad (i + 20))) C (lt_A0 hN rfl) hay1 hgy406 rfl inA_X10 43 (by decide) q_1502 rfl rfl dX10_becomes_84 ?_
              refine z_iload_n C 1 dX10_becomes_87 rfl ?_
              have hgy407 := up_n egy33 ha20 (ne_o (i := i) (c := 20) (d := 0) rfl)
              have hgy408 := up_n egy36 hgy407 (ne_o (i := i) (c := 20) (d := 0) rfl)
              have hgy409 := (hfvy40 (i + 20) (ne_o (i := i) (c := 20) (d := 7) rfl)).trans hgy408
              have hgy410 := (f3A (i + 20) (ne_o (i := i) (c := 20) (d := 7) rfl)).trans hgy409
              have hgy411 := (f3B (i + 20) (ne_o (i := i) (c := 20) (d := 4) rfl) (ne_o (i := i) (c := 20) (d := 5) rfl) (ne_o (i := i) (c := 20) (d := 6) rfl)).trans hgy410
              have hgy412 := up_n egy402 hgy411 (ne_o (i := i) (c := 20) (d := 4) rfl)
              refine z_iald C (lt_A (c := 20) hN rfl) hay28 hgy412 (nkB) (by omega) (by omega) (by decide) dX10_becomes_88 ?_
              have htky413 := hfa1 nkB (by omega)
              have hgy414 := up_n egy402 f2B_fa9 (ne_o (i := i) (c := 5) (d := 4) rfl)
              refine z_iast C (lt_A (c := 5) hN rfl) hay6 hgy414 (nkB) (by omega) (by omega) (by decide) dX10_becomes_89 (fun gy415 egy416 => ?_)
              have hgy417 := up_s egy416
              obtain ⟨ry418, hvy419⟩ : ∃ rZ9 : Nat → Int, rZ9 = uZ fa9 (nkB) (fa1 (nkB)) := ⟨_, rfl⟩
              rw [← hvy419] at hgy417
              refine z_aload_n C 0 dX10_becomes_90 rfl ?_
              have hgy420 := up_n egy416 hgy406 (ne_o (i := i) (c := 0) (d := 5) rfl)
              refine z_get (v := .ref (ad (i + 6))) C (lt_A0 hN rfl) hay1 hgy420 rfl inA_X10 5 (by decide) q_1464 rfl rfl dX10_becomes_91 ?_
              refine z_iload_n C 1 dX10_becomes_94 rfl ?_
              refine z_aload_n C 0 dX10_becomes_95 rfl ?_
              refine z_get (v := .ref (ad (i + 21))) C (lt_A0 hN rfl) hay1 hgy420 rfl inA_X10 44 (by decide) q_1503 rfl rfl dX10_becomes_96 ?_
              refine z_iload_n C 1 dX10_becomes_99 rfl ?_
              have hgy421 := up_n egy33 ha21 (ne_o (i := i) (c := 21) (d := 0) rfl)
              have hgy422 := up_n egy36 hgy421 (ne_o (i := i) (c := 21) (d := 0) rfl)
              have hgy423 := (hfvy40 (i + 21) (ne_o (i := i) (c := 21) (d := 7) rfl)).trans hgy422
              have hgy424 := (f3A (i + 21) (ne_o (i := i) (c := 21) (d := 7) rfl)).trans hgy423
              have hgy425 := (f3B (i + 21) (ne_o (i := i) (c := 21) (d := 4) rfl) (ne_o (i := i) (c := 21) (d := 5) rfl) (ne_o (i := i) (c := 21) (d := 6) rfl)).trans hgy424
              have hgy426 := up_n egy402 hgy425 (ne_o (i := i) (c := 21) (d := 4) rfl)
              have hgy427 := up_n egy416 hgy426 (ne_o (i := i) (c := 21) (d := 5) rfl)
              refine z_iald C (lt_A (c := 21) hN rfl) hay29 hgy427 (nkB) (by omega) (by omega) (by decide) dX10_becomes_100 ?_
              have htky428 := hfa1 nkB (by omega)
              have hgy429 := up_n egy402 f2B_m9 (ne_o (i := i) (c := 6) (d := 4) rfl)
              have hgy430 := up_n egy416 hgy429 (ne_o (i := i) (c := 6) (d := 5) rfl)
              refine z_iast C (lt_A (c := 6) hN rfl) hay7 hgy430 (nkB) (by omega) (by omega) (by decide) dX10_becomes_101 (fun gy431 egy432 => ?_)
              have hgy433 := up_s egy432
              obtain ⟨ry434, hvy435⟩ : ∃ rZ9 : Nat → Int, rZ9 = uZ m9 (nkB) (mu1 (nkB)) := ⟨_, rfl⟩
              rw [← hvy435] at hgy433
              refine z_iinc (z := kb + 1) (lv' := [(1, .int (zI (kb + 1))), (0, .ref (ad i))]) (j := 1) C dX10_becomes_102 rfl rfl (by decide) rfl ?_
              refine z_goto (tgt := 58) C dX10_becomes_105 (by decide) ?_
              have hgy436 := up_n egy416 hgy403 (ne_o (i := i) (c := 4) (d := 5) rfl)
              have hgy437 := up_n egy432 hgy436 (ne_o (i := i) (c := 4) (d := 6) rfl)
              have hgy438 := up_n egy432 hgy417 (ne_o (i := i) (c := 5) (d := 6) rfl)
              refine z_lv (lv' := [(0, .ref (ad i)), (1, .int (zI (kb + 1)))]) [1, 0] rfl ?_
              exact ih_B _ (by omega) (kb + 1) ry404 ry418 ry434 gy431 rfl hgy437 hgy438 hgy433 (fun j j1 j2 j3 => by rw [egy432, va_up_ne _ _ (by omega)]; rw [egy416, va_up_ne _ _ (by omega)]; rw [egy402, va_up_ne _ _ (by omega)]; exact f3B j j1 j2 j3) (fun j hj => by rw [hvy405]; exact uZ_any fBa (by omega) j hj) (fun j hj => by rw [hvy419, hvy435]; by_cases e : j = nkB; (rw [e, uZ_s, uZ_s]; omega); (rw [uZ_n _ _ e, uZ_n _ _ e]; exact fBf j hj)) (fun j hj => by rw [hvy405, hvy419, hvy435]; by_cases e : j = nkB; (rw [e, uZ_s, uZ_s, uZ_s]; exact ⟨rfl, rfl, rfl⟩); (rw [uZ_n _ _ e, uZ_n _ _ e, uZ_n _ _ e]; exact fBe j (by omega))) (by omega)
        have hgy439 := up_n egy33 ha4 (ne_o (i := i) (c := 4) (d := 0) rfl)
        have hgy440 := up_n egy36 hgy439 (ne_o (i := i) (c := 4) (d := 0) rfl)
        have hgy441 := (hfvy40 (i + 4) (ne_o (i := i) (c := 4) (d := 7) rfl)).trans hgy440
        have hgy442 := (f3A (i + 4) (ne_o (i := i) (c := 4) (d := 7) rfl)).trans hgy441
        have hgy443 := up_n egy33 ha5 (ne_o (i := i) (c := 5) (d := 0) rfl)
        have hgy444 := up_n egy36 hgy443 (ne_o (i := i) (c := 5) (d := 0) rfl)
        have hgy445 := (hfvy40 (i + 5) (ne_o (i := i) (c := 5) (d := 7) rfl)).trans hgy444
        have hgy446 := (f3A (i + 5) (ne_o (i := i) (c := 5) (d := 7) rfl)).trans hgy445
        have hgy447 := up_n egy33 ha6 (ne_o (i := i) (c := 6) (d := 0) rfl)
        have hgy448 := up_n egy36 hgy447 (ne_o (i := i) (c := 6) (d := 0) rfl)
        have hgy449 := (hfvy40 (i + 6) (ne_o (i := i) (c := 6) (d := 7) rfl)).trans hgy448
        have hgy450 := (f3A (i + 6) (ne_o (i := i) (c := 6) (d := 7) rfl)).trans hgy449
        refine z_lv (lv' := [(0, .ref (ad i)), (1, .int (zI (0)))]) [1, 0] rfl ?_
        exact B _ (0) ai fa mu g1B rfl hgy442 hgy446 hgy450 (fun j _ _ _ => rfl) hai hfa (fun k a => absurd a (by omega)) (by omega)
      · refine z_aload_n C 0 dX10_becomes_28 rfl ?_
        have hgy451 := (hfvy40 (i) (ne_o (i := i) (c := 0) (d := 7) rfl)).trans hgy37
        have hgy452 := (f3A (i) (ne_o (i := i) (c := 0) (d := 7) rfl)).trans hgy451
        refine z_get (v := .ref (ad (i + 22))) C (lt_A0 hN rfl) hay1 hgy452 rfl inA_X10 45 (by decide) q_1504 rfl rfl dX10_becomes_29 ?_
        refine z_iload_n C 1 dX10_becomes_32 rfl ?_
        have hgy453 := up_n egy33 ha22 (ne_o (i := i) (c := 22) (d := 0) rfl)
        have hgy454 := up_n egy36 hgy453 (ne_o (i := i) (c := 22) (d := 0) rfl)
        have hgy455 := (hfvy40 (i + 22) (ne_o (i := i) (c := 22) (d := 7) rfl)).trans hgy454
        have hgy456 := (f3A (i + 22) (ne_o (i := i) (c := 22) (d := 7) rfl)).trans hgy455
        refine z_iald C (lt_A (c := 22) hN rfl) hay30 hgy456 (nkA) (by omega) (by omega) (by decide) dX10_becomes_33 ?_
        have htky457 := htb1 nkA (by omega)
        refine z_iconst (z := -1) C dX10_becomes_34 rfl ?_
        refine z_icmp_eq (tgt := 50) C dX10_becomes_35 (by decide) (by omega) (by omega) (fun hby458 => ?_) (fun hby458 => ?_)
        · refine z_iinc (z := ka + 1) (lv' := [(1, .int (zI (ka + 1))), (0, .ref (ad i))]) (j := 1) C dX10_becomes_50 rfl rfl (by decide) rfl ?_
          refine z_goto (tgt := 22) C dX10_becomes_53 (by decide) ?_
          refine z_lv (lv' := [(0, .ref (ad i)), (1, .int (zI (ka + 1)))]) [1, 0] rfl ?_
          exact ih_A _ (by omega) (ka + 1) t9 g1 rfl f2A_t9 f3A fTa (fun j hj => by by_cases e : j = nkA; (have h9 := fTe j hj; rw [e] at h9 ⊢; omega); (have h9 := fTe j hj; omega)) (by omega)
        · refine z_aload_n C 0 dX10_becomes_38 rfl ?_
          refine z_get (v := .ref (ad (i + 7))) C (lt_A0 hN rfl) hay1 hgy452 rfl inA_X10 6 (by decide) q_1465 rfl rfl dX10_becomes_39 ?_
          refine z_iload_n C 1 dX10_becomes_42 rfl ?_
          refine z_aload_n C 0 dX10_becomes_43 rfl ?_
          refine z_get (v := .ref (ad (i + 22))) C (lt_A0 hN rfl) hay1 hgy452 rfl inA_X10 45 (by decide) q_1504 rfl rfl dX10_becomes_44 ?_
          refine z_iload_n C 1 dX10_becomes_47 rfl ?_
          refine z_iald C (lt_A (c := 22) hN rfl) hay30 hgy456 (nkA) (by omega) (by omega) (by decide) dX10_becomes_48 ?_
          have htky459 := htb1 nkA (by omega)
          refine z_iast C (lt_A (c := 7) hN rfl) hay8 f2A_t9 (nkA) (by omega) (by omega) (by decide) dX10_becomes_49 (fun gy460 egy461 => ?_)
          have hgy462 := up_s egy461
          obtain ⟨ry463, hvy464⟩ : ∃ rZ9 : Nat → Int, rZ9 = uZ t9 (nkA) (tb1 (nkA)) := ⟨_, rfl⟩
          rw [← hvy464] at hgy462
          refine z_iinc (z := ka + 1) (lv' := [(1, .int (zI (ka + 1))), (0, .ref (ad i))]) (j := 1) C dX10_becomes_50 rfl rfl (by decide) rfl ?_
          refine z_goto (tgt := 22) C dX10_becomes_53 (by decide) ?_
          refine z_lv (lv' := [(0, .ref (ad i)), (1, .int (zI (ka + 1)))]) [1, 0] rfl ?_
          exact ih_A _ (by omega) (ka + 1) ry463 gy460 rfl hgy462 (fun j j1 => by rw [egy461, va_up_ne _ _ (by omega)]; exact f3A j j1) (fun j hj => by rw [hvy464]; by_cases e : j = nkA; (rw [e, uZ_s]; exact ⟨by omega, fun _ => by omega⟩); (rw [uZ_n _ _ e]; exact fTa j hj)) (fun j hj => by rw [hvy464]; by_cases e : j = nkA; (rw [e, uZ_s]; omega); (rw [uZ_n _ _ e]; have h9 := fTe j hj; omega)) (by omega)
  refine z_lv (lv' := [(0, .ref (ad i)), (1, .int (zI (0)))]) [1, 0] rfl ?_
  exact A _ (0) rvy40 gvy40 rfl hdvy40 (fun j _ => rfl) (fun j hj => by rw [htvy40 j hj]; exact tabOK ⟨j, hj⟩) (fun j hj => Or.inl ⟨htvy40 j hj, fun h9 => absurd h9 (by omega)⟩) (by omega)
end
section
-- 99s.words.lean.txt
-- words of refsnow
theorem q_1670 : (Jvm.Cond.methodLink "SnowRecorderModel" (327 : Nat) ({ cls := "SnowRecorderModel", name := "clause1", desc := "()V" } : Jvm.MethodName)) ∈ AW := AW_m7 230 (by decide +kernel) (by decide +kernel)
theorem q_1672 : (Jvm.Cond.instanceMethod ({ cls := "SnowRecorderModel", name := "clause1", desc := "()V" } : Jvm.MethodName)) ∈ AW := AW_m7 232 (by decide +kernel) (by decide +kernel)
theorem q_1673 : (Jvm.Cond.code ({ cls := "SnowRecorderModel", name := "clause1", desc := "()V" } : Jvm.MethodName) prog_12_method_58_code (2 : Nat) (Option.none : Option Jvm.ClassFile.FieldType)) ∈ AW := AW_m7 233 (by decide +kernel) (by decide +kernel)
theorem q_1713 : (Jvm.Cond.methodLink "SnowRecorderModel" (330 : Nat) ({ cls := "SnowRecorderModel", name := "becomes", desc := "()V" } : Jvm.MethodName)) ∈ AW := AW_m8 33 (by decide +kernel) (by decide +kernel)
theorem q_1715 : (Jvm.Cond.instanceMethod ({ cls := "SnowRecorderModel", name := "becomes", desc := "()V" } : Jvm.MethodName)) ∈ AW := AW_m8 35 (by decide +kernel) (by decide +kernel)
theorem q_1716 : (Jvm.Cond.code ({ cls := "SnowRecorderModel", name := "becomes", desc := "()V" } : Jvm.MethodName) prog_12_method_61_code (3 : Nat) (Option.none : Option Jvm.ClassFile.FieldType)) ∈ AW := AW_m8 36 (by decide +kernel) (by decide +kernel)
theorem s_44 : Cond.selects "SnowRecorderModel" ({ cls := "SnowRecorderModel", name := "clause1", desc := "()V" } : Jvm.MethodName) ({ cls := "SnowRecorderModel", name := "clause1", desc := "()V" } : Jvm.MethodName) ∈ AW := AW_m 44 (by decide +kernel) (by decide +kernel)
theorem s_54 : Cond.selects "SnowRecorderModel" ({ cls := "SnowRecorderModel", name := "becomes", desc := "()V" } : Jvm.MethodName) ({ cls := "SnowRecorderModel", name := "becomes", desc := "()V" } : Jvm.MethodName) ∈ AW := AW_m 54 (by decide +kernel) (by decide +kernel)
theorem hd_yX10_becomes : yX10_becomes.cls ≠ "java/lang/invoke/MethodHandle" ∧ yX10_becomes.cls ≠ "java/lang/invoke/VarHandle" ∧ (parseMethodDescriptor yX10_becomes.desc).map (fun d => d.parameters.length) = some 0 := by decide +kernel
theorem hd_yX10_clause1 : yX10_clause1.cls ≠ "java/lang/invoke/MethodHandle" ∧ yX10_clause1.cls ≠ "java/lang/invoke/VarHandle" ∧ (parseMethodDescriptor yX10_clause1.desc).map (fun d => d.parameters.length) = some 0 := by decide +kernel
theorem mv_yX10_becomes : zWv yX10_becomes cX10_becomes 3 none := ⟨q_1715, s_54, q_15, q_1716⟩
theorem mv_yX10_clause1 : zWv yX10_clause1 cX10_clause1 2 none := ⟨q_1672, s_44, q_15, q_1673⟩
end
section
-- 99t.dec.lean.txt
-- decode rows of refsnow
theorem dX10_snow_0 : decode cX10_snow 0 = .ok (.aload_n 0, 1) := by decide +kernel
theorem dX10_snow_1 : decode cX10_snow 1 = .ok (.iconst 0, 1) := by decide +kernel
theorem dX10_snow_2 : decode cX10_snow 2 = .ok (.putfield 110, 3) := by decide +kernel
theorem dX10_snow_5 : decode cX10_snow 5 = .ok (.aload_n 0, 1) := by decide +kernel
theorem dX10_snow_6 : decode cX10_snow 6 = .ok (.iload_n 1, 1) := by decide +kernel
theorem dX10_snow_7 : decode cX10_snow 7 = .ok (.ifCond .lt 15, 3) := by decide +kernel
theorem dX10_snow_22 : decode cX10_snow 22 = .ok (.iconst 0, 1) := by decide +kernel
theorem dX10_snow_23 : decode cX10_snow 23 = .ok (.iconst 1, 1) := by decide +kernel
theorem dX10_snow_24 : decode cX10_snow 24 = .ok (.invokevirtual 324, 3) := by decide +kernel
theorem dX10_snow_27 : decode cX10_snow 27 = .ok (.ifCond .ne 5, 3) := by decide +kernel
theorem dX10_snow_30 : decode cX10_snow 30 = .ok (.iconst 0, 1) := by decide +kernel
theorem dX10_snow_31 : decode cX10_snow 31 = .ok (.ireturn, 1) := by decide +kernel
theorem dX10_snow_10 : decode cX10_snow 10 = .ok (.iload_n 1, 1) := by decide +kernel
theorem dX10_snow_11 : decode cX10_snow 11 = .ok (.aload_n 0, 1) := by decide +kernel
theorem dX10_snow_12 : decode cX10_snow 12 = .ok (.getfield 321, 3) := by decide +kernel
theorem dX10_snow_15 : decode cX10_snow 15 = .ok (.if_icmp .gt 7, 3) := by decide +kernel
theorem dX10_snow_18 : decode cX10_snow 18 = .ok (.iconst 1, 1) := by decide +kernel
theorem dX10_snow_19 : decode cX10_snow 19 = .ok (.goto 4, 3) := by decide +kernel
theorem dX10_snow_32 : decode cX10_snow 32 = .ok (.aload_n 0, 1) := by decide +kernel
theorem dX10_snow_33 : decode cX10_snow 33 = .ok (.iconst 0, 1) := by decide +kernel
theorem dX10_snow_34 : decode cX10_snow 34 = .ok (.putfield 321, 3) := by decide +kernel
theorem dX10_snow_37 : decode cX10_snow 37 = .ok (.aload_n 0, 1) := by decide +kernel
theorem dX10_snow_38 : decode cX10_snow 38 = .ok (.iload_n 1, 1) := by decide +kernel
theorem dX10_snow_39 : decode cX10_snow 39 = .ok (.putfield 241, 3) := by decide +kernel
theorem dX10_snow_42 : decode cX10_snow 42 = .ok (.aload_n 0, 1) := by decide +kernel
theorem dX10_snow_43 : decode cX10_snow 43 = .ok (.iconst 0, 1) := by decide +kernel
theorem dX10_snow_44 : decode cX10_snow 44 = .ok (.putfield 251, 3) := by decide +kernel
theorem dX10_snow_47 : decode cX10_snow 47 = .ok (.aload_n 0, 1) := by decide +kernel
theorem dX10_snow_48 : decode cX10_snow 48 = .ok (.iconst 0, 1) := by decide +kernel
theorem dX10_snow_49 : decode cX10_snow 49 = .ok (.putfield 274, 3) := by decide +kernel
theorem dX10_snow_52 : decode cX10_snow 52 = .ok (.aload_n 0, 1) := by decide +kernel
theorem dX10_snow_53 : decode cX10_snow 53 = .ok (.iconst (-1), 1) := by decide +kernel
theorem dX10_snow_54 : decode cX10_snow 54 = .ok (.putfield 49, 3) := by decide +kernel
theorem dX10_snow_57 : decode cX10_snow 57 = .ok (.aload_n 0, 1) := by decide +kernel
theorem dX10_snow_58 : decode cX10_snow 58 = .ok (.aload_n 0, 1) := by decide +kernel
theorem dX10_snow_59 : decode cX10_snow 59 = .ok (.aload_n 0, 1) := by decide +kernel
theorem dX10_snow_60 : decode cX10_snow 60 = .ok (.iconst 0, 1) := by decide +kernel
theorem dX10_snow_61 : decode cX10_snow 61 = .ok (.dup_x1, 1) := by decide +kernel
theorem dX10_snow_62 : decode cX10_snow 62 = .ok (.putfield 302, 3) := by decide +kernel
theorem dX10_snow_65 : decode cX10_snow 65 = .ok (.dup_x1, 1) := by decide +kernel
theorem dX10_snow_66 : decode cX10_snow 66 = .ok (.putfield 305, 3) := by decide +kernel
theorem dX10_snow_69 : decode cX10_snow 69 = .ok (.putfield 288, 3) := by decide +kernel
theorem dX10_snow_72 : decode cX10_snow 72 = .ok (.iconst 0, 1) := by decide +kernel
theorem dX10_snow_73 : decode cX10_snow 73 = .ok (.istore_n 2, 1) := by decide +kernel
theorem dX10_snow_74 : decode cX10_snow 74 = .ok (.iload_n 2, 1) := by decide +kernel
theorem dX10_snow_75 : decode cX10_snow 75 = .ok (.bipush 15, 2) := by decide +kernel
theorem dX10_snow_77 : decode cX10_snow 77 = .ok (.if_icmp .ge 16, 3) := by decide +kernel
theorem dX10_snow_93 : decode cX10_snow 93 = .ok (.aload_n 0, 1) := by decide +kernel
theorem dX10_snow_94 : decode cX10_snow 94 = .ok (.invokevirtual 285, 3) := by decide +kernel
theorem dX10_snow_97 : decode cX10_snow 97 = .ok (.aload_n 0, 1) := by decide +kernel
theorem dX10_snow_98 : decode cX10_snow 98 = .ok (.getfield 274, 3) := by decide +kernel
theorem dX10_snow_101 : decode cX10_snow 101 = .ok (.ifCond .ne 58, 3) := by decide +kernel
theorem dX10_snow_104 : decode cX10_snow 104 = .ok (.aload_n 0, 1) := by decide +kernel
theorem dX10_snow_105 : decode cX10_snow 105 = .ok (.getfield 263, 3) := by decide +kernel
theorem dX10_snow_108 : decode cX10_snow 108 = .ok (.ifCond .eq 51, 3) := by decide +kernel
theorem dX10_snow_159 : decode cX10_snow 159 = .ok (.aload_n 0, 1) := by decide +kernel
theorem dX10_snow_160 : decode cX10_snow 160 = .ok (.getfield 274, 3) := by decide +kernel
theorem dX10_snow_163 : decode cX10_snow 163 = .ok (.ifCond .eq 18, 3) := by decide +kernel
theorem dX10_snow_181 : decode cX10_snow 181 = .ok (.aload_n 0, 1) := by decide +kernel
theorem dX10_snow_182 : decode cX10_snow 182 = .ok (.invokevirtual 330, 3) := by decide +kernel
theorem dX10_snow_185 : decode cX10_snow 185 = .ok (.iconst 0, 1) := by decide +kernel
theorem dX10_snow_186 : decode cX10_snow 186 = .ok (.ireturn, 1) := by decide +kernel
theorem dX10_snow_111 : decode cX10_snow 111 = .ok (.aload_n 0, 1) := by decide +kernel
theorem dX10_snow_112 : decode cX10_snow 112 = .ok (.invokevirtual 327, 3) := by decide +kernel
theorem dX10_snow_115 : decode cX10_snow 115 = .ok (.aload_n 0, 1) := by decide +kernel
theorem dX10_snow_116 : decode cX10_snow 116 = .ok (.getfield 274, 3) := by decide +kernel
theorem dX10_snow_119 : decode cX10_snow 119 = .ok (.ifCond .ne (-22), 3) := by decide +kernel
theorem dX10_snow_122 : decode cX10_snow 122 = .ok (.aload_n 0, 1) := by decide +kernel
theorem dX10_snow_123 : decode cX10_snow 123 = .ok (.aload_n 0, 1) := by decide +kernel
theorem dX10_snow_124 : decode cX10_snow 124 = .ok (.getfield 263, 3) := by decide +kernel
theorem dX10_snow_127 : decode cX10_snow 127 = .ok (.iconst 3, 1) := by decide +kernel
theorem dX10_snow_128 : decode cX10_snow 128 = .ok (.if_icmp .ne 16, 3) := by decide +kernel
theorem dX10_snow_131 : decode cX10_snow 131 = .ok (.aload_n 0, 1) := by decide +kernel
theorem dX10_snow_132 : decode cX10_snow 132 = .ok (.getfield 260, 3) := by decide +kernel
theorem dX10_snow_135 : decode cX10_snow 135 = .ok (.bipush 59, 2) := by decide +kernel
theorem dX10_snow_137 : decode cX10_snow 137 = .ok (.if_icmp .ne 7, 3) := by decide +kernel
theorem dX10_snow_140 : decode cX10_snow 140 = .ok (.iconst 1, 1) := by decide +kernel
theorem dX10_snow_141 : decode cX10_snow 141 = .ok (.goto 4, 3) := by decide +kernel
theorem dX10_snow_145 : decode cX10_snow 145 = .ok (.iconst 1, 1) := by decide +kernel
theorem dX10_snow_146 : decode cX10_snow 146 = .ok (.invokevirtual 277, 3) := by decide +kernel
theorem dX10_snow_149 : decode cX10_snow 149 = .ok (.ifCond .eq (-52), 3) := by decide +kernel
theorem dX10_snow_152 : decode cX10_snow 152 = .ok (.aload_n 0, 1) := by decide +kernel
theorem dX10_snow_153 : decode cX10_snow 153 = .ok (.invokevirtual 285, 3) := by decide +kernel
theorem dX10_snow_156 : decode cX10_snow 156 = .ok (.goto (-59), 3) := by decide +kernel
theorem dX10_snow_144 : decode cX10_snow 144 = .ok (.iconst 0, 1) := by decide +kernel
theorem dX10_snow_166 : decode cX10_snow 166 = .ok (.aload_n 0, 1) := by decide +kernel
theorem dX10_snow_167 : decode cX10_snow 167 = .ok (.getfield 40, 3) := by decide +kernel
theorem dX10_snow_170 : decode cX10_snow 170 = .ok (.iconst 0, 1) := by decide +kernel
theorem dX10_snow_171 : decode cX10_snow 171 = .ok (.dup2, 1) := by decide +kernel
theorem dX10_snow_172 : decode cX10_snow 172 = .ok (.iaload, 1) := by decide +kernel
theorem dX10_snow_173 : decode cX10_snow 173 = .ok (.iconst 1, 1) := by decide +kernel
theorem dX10_snow_174 : decode cX10_snow 174 = .ok (.iadd, 1) := by decide +kernel
theorem dX10_snow_175 : decode cX10_snow 175 = .ok (.iastore, 1) := by decide +kernel
theorem dX10_snow_176 : decode cX10_snow 176 = .ok (.aload_n 0, 1) := by decide +kernel
theorem dX10_snow_177 : decode cX10_snow 177 = .ok (.getfield 274, 3) := by decide +kernel
theorem dX10_snow_180 : decode cX10_snow 180 = .ok (.ireturn, 1) := by decide +kernel
theorem dX10_snow_80 : decode cX10_snow 80 = .ok (.aload_n 0, 1) := by decide +kernel
theorem dX10_snow_81 : decode cX10_snow 81 = .ok (.getfield 83, 3) := by decide +kernel
theorem dX10_snow_84 : decode cX10_snow 84 = .ok (.iload_n 2, 1) := by decide +kernel
theorem dX10_snow_85 : decode cX10_snow 85 = .ok (.iconst (-1), 1) := by decide +kernel
theorem dX10_snow_86 : decode cX10_snow 86 = .ok (.iastore, 1) := by decide +kernel
theorem dX10_snow_87 : decode cX10_snow 87 = .ok (.iinc 2 1, 3) := by decide +kernel
theorem dX10_snow_90 : decode cX10_snow 90 = .ok (.goto (-16), 3) := by decide +kernel
end
