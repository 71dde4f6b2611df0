set_option maxRecDepth 100000 in
set_option maxHeartbeats 4000000 in
theorem c_X10_pit_a (l : Launch) (D : va_G) (A : Nat → Prop) (cs : Nat → ClassId) (tt : Nat) (N : Nat) (ad : Nat → Nat) (g : Nat → va_E) (i : Nat) (hN : i + 30 ≤ N) (x : Int) (hx : 0 ≤ x ∧ x ≤ 512) (F r : Nat → Int) {st op ai fa mu tb tp : Nat → Int} (hM : okMr cs ad g i x F r st op ai fa mu tb tp) (n : Nat) (hn4 : n < 4) : zM l yX10_pit cX10_pit 4 (some .int) ({ frames := 3, cells := 0, slots := 0, locals := 180 } : Room) D A cs tt N ad g [.ref (ad i), .int (zI ((n : Int)))] (rI0 N ad fun q g' => (-2147483648 ≤ q ∧ q ≤ 2147483647) ∧ (∃ F' r' : Nat → Int, okMr cs ad g' i (x + 1) F' r' st op ai fa mu tb tp ∧ (F' 13 = F 13 ∧ F' 14 = F 14 ∧ F' 17 = F 17 ∧ F' 20 = F 20 ∧ F' 21 = F 21 ∧ F' 23 = F 23 ∧ F' 24 = F 24)) ∧ ∀ j, j < i ∨ i + 30 ≤ j → g' j = g j) := by
  obtain ⟨hg, ⟨⟨e13, e14, e25, e27, e29⟩, k15, k16, k17, k18, k19, k20, k23, k21⟩, hRD, hTx, hA, ns, nh, nd, rf, pi, te, ki, li, ok1, ok2, fo, dd, dps, ⟨ha1, ha2, ha3, ha4, ha5, ha6, ha7, ha8, ha9, ha10, ha11, ha12, ha13, ha14, ha15, ha24, ha25, ha26, ha27, ha28, ha29⟩, hEv, hPt, hns, htp⟩ := id hM
  obtain ⟨-, hop, hai, hfa, hT, hT1⟩ := id hEv
  have hay1 : zAt ad (i) (ad i) := rfl
  have hay2 : zAt ad (i + 1) (ad (i + 1)) := rfl
  have hay3 : zAt ad (i + 2) (ad (i + 2)) := rfl
  have hay4 : zAt ad (i + 3) (ad (i + 3)) := rfl
  have hay5 : zAt ad (i + 4) (ad (i + 4)) := rfl
  have hay6 : zAt ad (i + 5) (ad (i + 5)) := rfl
  have hay7 : zAt ad (i + 6) (ad (i + 6)) := rfl
  have hay8 : zAt ad (i + 7) (ad (i + 7)) := rfl
  have hay9 : zAt ad (i + 8) (ad (i + 8)) := rfl
  have hay10 : zAt ad (i + 9) (ad (i + 9)) := rfl
  have hay11 : zAt ad (i + 10) (ad (i + 10)) := rfl
  have hay12 : zAt ad (i + 11) (ad (i + 11)) := rfl
  have hay13 : zAt ad (i + 12) (ad (i + 12)) := rfl
  have hay14 : zAt ad (i + 13) (ad (i + 13)) := rfl
  have hay15 : zAt ad (i + 14) (ad (i + 14)) := rfl
  have hay16 : zAt ad (i + 15) (ad (i + 15)) := rfl
  have hay17 : zAt ad (i + 24) (ad (i + 24)) := rfl
  have hay18 : zAt ad (i + 25) (ad (i + 25)) := rfl
  have hay19 : zAt ad (i + 26) (ad (i + 26)) := rfl
  have hay20 : zAt ad (i + 27) (ad (i + 27)) := rfl
  have hay21 : zAt ad (i + 28) (ad (i + 28)) := rfl
  have hay22 : zAt ad (i + 29) (ad (i + 29)) := rfl
  obtain ⟨⟨hsyy23, htyy23, hnyy23, hpyy23⟩, hlyy23⟩ := okA.at0 hA
  simp only [Nat.zero_add] at hsyy23 hnyy23 hpyy23
  have hmn : ∀ s, s < 4 → 0 ≤ r (6 + 86 * s) ∧ r (6 + 86 * s) ≤ 12 := fun s hs => (hsyy23 s hs).1
  have h5 : 0 ≤ r 5 ∧ r 5 ≤ 6 := hpyy23
  refine z_of (by decide) (Nat.le_of_ble_eq_true rfl) ?_
  intro pZ eZ sZ mZ below meth cZ C hr hlk hnm
  refine z_lv (lv' := [(0, .ref (ad i)), (1, .int (zI ((n : Int))))]) [0, 1] rfl ?_
  refine z_aload_n C 0 dX10_pit_0 rfl ?_
  refine z_iconst (z := 0) C dX10_pit_1 rfl ?_
  refine z_put (fs' := mF ad (i) (uZ F 12 (0))) C (lt_A0 hN rfl) hay1 hg tyX10 tyX10_ok nmX10 rfl inA_X10 12 (by decide) q_1471 rfl rfl rfl rfl (Nat.le_of_ble_eq_true rfl) rfl dX10_pit_2 (fun gy24 egy25 => ?_)
  have hgy26 := up_s egy25
  refine z_iload_n C 1 dX10_pit_5 rfl ?_
  refine z_iconst (z := 0) C dX10_pit_6 rfl ?_
  refine z_aload_n C 0 dX10_pit_7 rfl ?_
  refine z_get (v := .int (zI (F 13))) C (lt_A0 hN rfl) hay1 hgy26 rfl inA_X10 13 (by decide) q_1472 rfl (fv (F := (uZ F 12 (0))) (f := 13) (fn rfl (by decide))) dX10_pit_8 ?_
  refine z_iconst (z := 1) C dX10_pit_11 rfl ?_
  refine z_isub C dX10_pit_12 ?_
  refine z_cS (As := [.int (zI ((n : Int))), .int (zI (0)), .int (zI ((F 13) - 1))]) (rest := []) C (c_X10_within l D A cs tt N ad _ ((n : Int)) (by omega) (0) (by omega) ((F 13) - 1) (by omega)) ms_yX10_within q_1690 hd_yX10_within (by decide) (Nat.le_of_ble_eq_true rfl) (by decide) dX10_pit_13 rfl (kI0 fun vy27 gvy27 hvy27 => ?_)
  obtain ⟨hvy27, rfl⟩ := hvy27
  rcases hvy27 with ⟨rfl, hxvy27⟩ | ⟨rfl, hxvy27⟩
  · refine z_if_eq (tgt := 30) C dX10_pit_16 (by decide) (by omega) (fun h => absurd h (by omega)) (fun _ => ?_)
    refine z_aload_n C 0 dX10_pit_19 rfl ?_
    refine z_get (v := .ref (ad (i + 1))) C (lt_A0 hN rfl) hay1 hgy26 rfl inA_X10 0 (by decide) q_1459 rfl rfl dX10_pit_20 ?_
    refine z_iconst (z := 5) C dX10_pit_23 rfl ?_
    have hgy28 := up_n egy25 ha1 (ne_o (i := i) (c := 1) (d := 0) rfl)
    refine z_iald C (lt_A (c := 1) hN rfl) hay2 hgy28 (5) (by omega) (by omega) (by decide) dX10_pit_24 ?_
    refine z_bipush (z := 6) C dX10_pit_25 (by decide) ?_
    refine z_icmp_ne (tgt := 36) C dX10_pit_27 (by decide) (by omega) (by omega) (fun hby29 => ?_) (fun hby29 => ?_)
    · refine z_aload_n C 0 dX10_pit_36 rfl ?_
      have hey31 : (uZ F 12 (0)) 15 = F 15 := (fn rfl (by decide))
      have hey32 : (uZ F 12 (0)) 16 = F 16 := (fn rfl (by decide))
      refine z_cV (As := []) (rest := []) (ci := 12) C (c_X10_keeps l D A cs tt N ad _ i hN _ hgy26 _ hgy28 (x) hA (by omega) (by omega)) (lt_A0 hN rfl) hay1 hgy26 rfl rfl mv_yX10_keeps q_1874 hd_yX10_keeps (by decide) (Nat.le_of_ble_eq_true rfl) (by decide) dX10_pit_37 rfl (kV0 fun gvy30 hvy30 => ?_)
      obtain ⟨⟨Fvy30, hcvy30, hbvy30, hFvy30⟩, ⟨rvy30, hdvy30, hAvy30, hyvy30⟩, hfvy30⟩ := hvy30
      have hk0vy30 : rvy30 0 = r 0 := hyvy30 0 (by omega)
      have hk1vy30 : rvy30 1 = r 1 := hyvy30 1 (by omega)
      have hk5vy30 : rvy30 5 = r 5 := hyvy30 5 (by omega)
      obtain ⟨⟨hsyy33, htyy33, hnyy33, hpyy33⟩, hlyy33⟩ := okA.at0 hAvy30
      simp only [Nat.zero_add] at hsyy33 hnyy33 hpyy33
      have hmn : ∀ s, s < 4 → 0 ≤ rvy30 (6 + 86 * s) ∧ rvy30 (6 + 86 * s) ≤ 12 := fun s hs => (hsyy33 s hs).1
      have h5 : 0 ≤ rvy30 5 ∧ rvy30 5 ≤ 6 := hpyy33
      refine z_bipush (z := 90) C dX10_pit_40 (by decide) ?_
      refine z_aload_n C 0 dX10_pit_42 rfl ?_
      refine z_get (v := .ref (ad (i + 1))) C (lt_A0 hN rfl) hay1 hcvy30 rfl inA_X10 0 (by decide) q_1459 rfl rfl dX10_pit_43 ?_
      refine z_iconst (z := 5) C dX10_pit_46 rfl ?_
      refine z_iald C (lt_A (c := 1) hN rfl) hay2 hdvy30 (5) (by omega) (by omega) (by decide) dX10_pit_47 ?_
      rw [show rvy30 (5) = r (5) from (hyvy30 _ (by omega)).trans (rfl)]
      refine z_imul C dX10_pit_48 ?_
      obtain ⟨kp, hkp⟩ : ∃ n9 : Nat, r (5) = (n9 : Int) := ⟨(r (5)).toNat, by omega⟩
      obtain ⟨kq, hkq⟩ : ∃ n9 : Nat, 90 * kp = n9 := ⟨_, rfl⟩
      rw [show 90 * (r (5)) = (kq : Int) by omega]
      refine z_istore_n (lv' := [(2, .int (zI ((kq : Int)))), (0, .ref (ad i)), (1, .int (zI ((n : Int))))]) C dX10_pit_49 rfl (by decide) rfl ?_
      refine z_aload_n C 1 dX10_pit_50 rfl ?_
      refine z_get (v := .ref (ad (i + 12))) C (lt_A0 hN rfl) hay1 hcvy30 rfl inA_X10 11 (by decide) q_1470 rfl rfl dX10_pit_51 ?_
      refine z_iload_n C 0 dX10_pit_54 rfl ?_
      refine z_iload_n C 2 dX10_pit_55 rfl ?_
      have hgy34 := up_n egy25 ha12 (ne_o (i := i) (c := 12) (d := 0) rfl)
      have hgy35 := (hfvy30 (i + 12) (ne_o (i := i) (c := 12) (d := 0) rfl) (ne_o (i := i) (c := 12) (d := 1) rfl)).trans hgy34
      refine z_iast C (lt_A (c := 12) hN rfl) hay13 hgy35 (kq) (by omega) (by omega) (by decide) dX10_pit_56 (fun gy36 egy37 => ?_)
      have hgy38 := up_s egy37
      obtain ⟨ry39, hvy40⟩ : ∃ rZ9 : Nat → Int, rZ9 = uZ pi (kq) ((n : Int)) := ⟨_, rfl⟩
      rw [← hvy40] at hgy38
      refine z_aload_n C 1 dX10_pit_57 rfl ?_
      have hgy41 := up_n egy37 hcvy30 (ne_o (i := i) (c := 0) (d := 12) rfl)
      refine z_get (v := .ref (ad (i + 12))) C (lt_A0 hN rfl) hay1 hgy41 rfl inA_X10 11 (by decide) q_1470 rfl rfl dX10_pit_58 ?_
      refine z_iload_n C 0 dX10_pit_61 rfl ?_
      refine z_iconst (z := 1) C dX10_pit_62 rfl ?_
      refine z_iadd C dX10_pit_63 ?_
      refine z_aload_n C 1 dX10_pit_64 rfl ?_
      refine z_get (v := .ref (ad (i + 1))) C (lt_A0 hN rfl) hay1 hgy41 rfl inA_X10 0 (by decide) q_1459 rfl rfl dX10_pit_65 ?_
      refine z_iconst (z := 0) C dX10_pit_68 rfl ?_
      have hgy42 := up_n egy37 hdvy30 (ne_o (i := i) (c := 1) (d := 12) rfl)
      refine z_iald C (lt_A (c := 1) hN rfl) hay2 hgy42 (0) (by omega) (by omega) (by decide) dX10_pit_69 ?_
      rw [show rvy30 (0) = r (0) from (hyvy30 _ (by omega)).trans (rfl)]
      refine z_iast C (lt_A (c := 12) hN rfl) hay13 hgy38 (kq + 1) (by omega) (by omega) (by decide) dX10_pit_70 (fun gy43 egy44 => ?_)
      have hgy45 := up_s egy44
      obtain ⟨ry46, hvy47⟩ : ∃ rZ9 : Nat → Int, rZ9 = uZ ry39 (kq + 1) (r (0)) := ⟨_, rfl⟩
      rw [← hvy47] at hgy45
      refine z_aload_n C 1 dX10_pit_71 rfl ?_
      have hgy48 := up_n egy44 hgy41 (ne_o (i := i) (c := 0) (d := 12) rfl)
      refine z_get (v := .ref (ad (i + 12))) C (lt_A0 hN rfl) hay1 hgy48 rfl inA_X10 11 (by decide) q_1470 rfl rfl dX10_pit_72 ?_
      refine z_iload_n C 0 dX10_pit_75 rfl ?_
      refine z_iconst (z := 2) C dX10_pit_76 rfl ?_
      refine z_iadd C dX10_pit_77 ?_
      refine z_aload_n C 1 dX10_pit_78 rfl ?_
      refine z_iconst (z := 0) C dX10_pit_79 rfl ?_
      refine z_iload_n C 2 dX10_pit_80 rfl ?_
      obtain ⟨py49, hpy49⟩ : ∃ p9 : Nat, 0 + 6 + 86 * n = p9 := ⟨_, rfl⟩
      have hmyy50 := ((okA.at0 hAvy30).1.1 n (by omega)).1
      rw [hpy49] at hmyy50
      rw [show rvy30 (py49) = r (py49) from (hyvy30 _ (by omega)).trans (rfl)] at hmyy50
      have hgy51 := up_n egy44 hgy42 (ne_o (i := i) (c := 1) (d := 12) rfl)
      refine z_cV (As := [.int (zI (0)), .int (zI ((n : Int)))]) (rest := [.int (zI (((kq : Int)) + 2)), .ref (ad (i + 12))]) (ci := 12) C (c_X10_many l D A cs tt N ad _ i hN _ hgy48 _ hgy51 0 n py49 hpy49 (by omega) (by omega)) (lt_A0 hN rfl) hay1 hgy48 rfl rfl mv_yX10_many q_1737 hd_yX10_many (by decide) (Nat.le_of_ble_eq_true rfl) (by decide) dX10_pit_81 rfl (kI0 fun vy52 gvy52 hvy52 => ?_)
      obtain ⟨rfl, rfl⟩ := hvy52
      rw [show rvy30 (py49) = r (py49) from (hyvy30 _ (by omega)).trans (rfl)]
      refine z_iast C (lt_A (c := 12) hN rfl) hay13 hgy45 (kq + 2) (by omega) (by omega) (by decide) dX10_pit_84 (fun gy53 egy54 => ?_)
      have hgy55 := up_s egy54
      obtain ⟨ry56, hvy57⟩ : ∃ rZ9 : Nat → Int, rZ9 = uZ ry46 (kq + 2) (r (py49)) := ⟨_, rfl⟩
      rw [← hvy57] at hgy55
      refine z_iconst (z := 0) C dX10_pit_85 rfl ?_
      refine z_istore_n (lv' := [(3, .int (zI (0))), (2, .int (zI ((kq : Int)))), (0, .ref (ad i)), (1, .int (zI ((n : Int))))]) C dX10_pit_86 rfl (by decide) rfl ?_
      have hSy58 := ((okA.at0 hAvy30).1.1 n (by omega)).of (p2 := py49) (by omega)
      obtain ⟨b1hSy58, b2hSy58, b3hSy58, b4hSy58⟩ := mBb (t := rvy30 0 + x) (by omega)
      have hmky59 := hSy58.1
      have hfry60 : ∀ j, j ≠ kq + 2 → j ≠ kq + 1 → j ≠ kq → ry56 j = pi j := fun j n0 n1 n2 => (congrFun hvy57 _).trans ((uZ_n _ _ n0).trans ((congrFun hvy47 _).trans ((uZ_n _ _ n1).trans ((congrFun hvy40 _).trans ((uZ_n _ _ n2).trans (rfl))))))
      have hwy61 : ry56 (kq) = (n : Int) := (congrFun hvy57 _).trans ((uZ_n _ _ (by omega)).trans ((congrFun hvy47 _).trans ((uZ_n _ _ (by omega)).trans ((congrFun hvy40 _).trans (uZ_s _ _ _)))))
      have hwy62 : ry56 (kq + 2) = r (py49) := (congrFun hvy57 _).trans (uZ_s _ _ _)
      have hmn9 : rvy30 py49 = r py49 := (hyvy30 _ (by omega)).trans (rfl)
      have lpw : ∀ (n9 : Nat) (kk : Int) (p9 : Nat → Int) (g1 : Nat → va_E), (85 - kk).toNat = n9 → (g1 (i + 12) = iA cs 1080 p9) → (∀ j, j ≠ i + 12 → g1 j = gy53 j) → (∀ j, j < kq ∨ kq + 90 ≤ j → p9 j = pi j) → (p9 kq = (n : Int)) → (p9 (kq + 2) = rvy30 py49) → (∀ k : Nat, (k : Int) < kk → p9 (kq + 3 + k) = rvy30 (py49 + 2 + k)) → (0 ≤ kk ∧ kk ≤ 84) → zV pZ l eZ ({ frames := 3, cells := 0, slots := 0, locals := 180 } : Room) sZ mZ ([.ref (ad i), .int (zI ((n : Int)))] : List Value).toArray below meth cZ (MQ below (zPost D A (rI0 N ad fun q g' => (-2147483648 ≤ q ∧ q ≤ 2147483647) ∧ (∃ F' r' : Nat → Int, okMr cs ad g' i (x + 1) F' r' st op ai fa mu tb tp ∧ (F' 13 = F 13 ∧ F' 14 = F 14 ∧ F' 17 = F 17 ∧ F' 20 = F 20 ∧ F' 21 = F 21 ∧ F' 23 = F 23 ∧ F' 24 = F 24)) ∧ ∀ j, j < i ∨ i + 30 ≤ j → g' j = g j)) ([.ref (ad i), .int (zI ((n : Int)))] : List Value).toArray sZ ({ frames := 3, cells := 0, slots := 0, locals := 180 } : Room).cells ({ frames := 3, cells := 0, slots := 0, locals := 180 } : Room).slots A) D A 4 (N) ad g1 (0) (0) 87 [(0, .ref (ad i)), (1, .int (zI ((n : Int)))), (2, .int (zI ((kq : Int)))), (3, .int (zI (kk)))] [] := by
        intro n9
        induction n9 using Nat.strongRecOn with
        | ind n9 ih_lpw =>
          intro kk p9 g1 hm9 f2 f3w fA fB fC fk hvk
          obtain ⟨nk, hnk⟩ : ∃ n9 : Nat, kk = (n9 : Int) := ⟨kk.toNat, by omega⟩
          obtain ⟨nj, hnj⟩ : ∃ n9 : Nat, py49 + 2 + nk = n9 := ⟨_, rfl⟩
          obtain ⟨np, hnp⟩ : ∃ n9 : Nat, kq + 3 + nk = n9 := ⟨_, rfl⟩
          have hPt9 : kk = 84 → okPt p9 := fun e => okPt.put (kp := kp) (p := py49) (s := n) (r := rvy30) hPt (by omega) (by omega) hSy58 (by omega) (fun j a => fA j (by omega)) (by rw [show 90 * kp = kq by omega]; exact fB) (by rw [show 90 * kp = kq by omega]; exact fC) (fun m hm => by rw [show 90 * kp = kq by omega]; exact fk m (by omega))
          refine z_iload_n C 3 dX10_pit_87 rfl ?_
          refine z_bipush (z := 84) C dX10_pit_88 (by decide) ?_
          refine z_icmp_ge (tgt := 125) C dX10_pit_90 (by decide) (by omega) (by omega) (fun hby63 => ?_) (fun hby63 => ?_)
          · refine z_aload_n C 0 dX10_pit_125 rfl ?_
            have hgy64 := up_n egy54 hgy48 (ne_o (i := i) (c := 0) (d := 12) rfl)
            have hgy65 := (f3w (i) (ne_o (i := i) (c := 0) (d := 12) rfl)).trans hgy64
            refine z_get (v := .ref (ad (i + 1))) C (lt_A0 hN rfl) hay1 hgy65 rfl inA_X10 0 (by decide) q_1459 rfl rfl dX10_pit_126 ?_
            refine z_iconst (z := 5) C dX10_pit_129 rfl ?_
            refine z_dup2 C dX10_pit_130 rfl rfl ?_
            have hgy66 := up_n egy54 hgy51 (ne_o (i := i) (c := 1) (d := 12) rfl)
            have hgy67 := (f3w (i + 1) (ne_o (i := i) (c := 1) (d := 12) rfl)).trans hgy66
            refine z_iald C (lt_A (c := 1) hN rfl) hay2 hgy67 (5) (by omega) (by omega) (by decide) dX10_pit_131 ?_
            rw [show rvy30 (5) = r (5) from (hyvy30 _ (by omega)).trans (rfl)]
            refine z_iconst (z := 1) C dX10_pit_132 rfl ?_
            refine z_iadd C dX10_pit_133 ?_
            refine z_iast C (lt_A (c := 1) hN rfl) hay2 hgy67 (5) (by omega) (by omega) (by decide) dX10_pit_134 (fun gy68 egy69 => ?_)
            have hgy70 := up_s egy69
            obtain ⟨ry71, hvy72⟩ : ∃ rZ9 : Nat → Int, rZ9 = uZ rvy30 (5) ((r (5)) + 1) := ⟨_, rfl⟩
            rw [← hvy72] at hgy70
            refine z_aload_n C 0 dX10_pit_135 rfl ?_
            have hgy73 := up_n egy69 hgy65 (ne_o (i := i) (c := 0) (d := 1) rfl)
            refine z_get (v := .ref (ad (i + 1))) C (lt_A0 hN rfl) hay1 hgy73 rfl inA_X10 0 (by decide) q_1459 rfl rfl dX10_pit_136 ?_
            refine z_iconst (z := 5) C dX10_pit_139 rfl ?_
            refine z_iald C (lt_A (c := 1) hN rfl) hay2 hgy70 (5) (by omega) (by omega) (by decide) dX10_pit_140 ?_
            rw [show ry71 (5) = (r (5)) + 1 from (congrFun hvy72 _).trans (uZ_s _ _ _)]
            have hfry74 : ∀ j, j ≠ 5 → ry71 j = rvy30 j := fun j n0 => (congrFun hvy72 _).trans ((uZ_n _ _ n0).trans (rfl))
            have hwy75 : ry71 (5) = (r (5)) + 1 := (congrFun hvy72 _).trans (uZ_s _ _ _)
            have hwy76 : ry71 (0) = r (0) := (congrFun hvy72 _).trans ((uZ_n _ _ (by omega)).trans ((hyvy30 _ (by omega)).trans (rfl)))
            have hP10 := hPt9 (by omega)
            have hr5 : rvy30 5 = r 5 := (hyvy30 _ (by omega)).trans (rfl)
            have hr0 : ry71 0 = rvy30 0 := hfry74 0 (by omega)
            have hW5 : okW ry71 0 (x) := okW.five (okA.at0 hAvy30).1 (fun j a => hfry74 j (by omega)) (by show 0 ≤ ry71 5 ∧ ry71 5 ≤ 6; omega)
            have hA10 : okA ry71 (x) := okA.first hAvy30 (Int.le_refl _) (fun j a => hfry74 j (by omega)) hW5 (by omega)
            have hFy77 : ∀ f, f ≠ 12 → f ≠ 15 → f ≠ 16 → Fvy30 f = F f := fun f n12 n15 n16 => ((hFvy30 f n15 n16).trans ((uZ_n _ _ n12).trans rfl))
            have hey78 : Fvy30 13 = F 13 := ((hFvy30 13 (by decide) (by decide)).trans (fn rfl (by decide)))
            have hey79 : Fvy30 14 = F 14 := ((hFvy30 14 (by decide) (by decide)).trans (fn rfl (by decide)))
            have hey80 : Fvy30 15 = Fvy30 15 := rfl
            have hey81 : Fvy30 16 = Fvy30 16 := rfl
            have hey82 : Fvy30 17 = F 17 := ((hFvy30 17 (by decide) (by decide)).trans (fn rfl (by decide)))
            have hey83 : Fvy30 18 = F 18 := ((hFvy30 18 (by decide) (by decide)).trans (fn rfl (by decide)))
            have hey84 : Fvy30 19 = F 19 := ((hFvy30 19 (by decide) (by decide)).trans (fn rfl (by decide)))
            have hey85 : Fvy30 20 = F 20 := ((hFvy30 20 (by decide) (by decide)).trans (fn rfl (by decide)))
            have hey86 : Fvy30 21 = F 21 := ((hFvy30 21 (by decide) (by decide)).trans (fn rfl (by decide)))
            have hey87 : Fvy30 23 = F 23 := ((hFvy30 23 (by decide) (by decide)).trans (fn rfl (by decide)))
            have hey88 : Fvy30 25 = F 25 := ((hFvy30 25 (by decide) (by decide)).trans (fn rfl (by decide)))
            have hey89 : Fvy30 27 = F 27 := ((hFvy30 27 (by decide) (by decide)).trans (fn rfl (by decide)))
            have hey90 : Fvy30 28 = F 28 := ((hFvy30 28 (by decide) (by decide)).trans (fn rfl (by decide)))
            have hey91 : Fvy30 29 = F 29 := ((hFvy30 29 (by decide) (by decide)).trans (fn rfl (by decide)))
            have hKy92 : okF Fvy30 := by unfold okF; omega
            have hgy94 := up_n egy69 f2 (ne_o (i := i) (c := 12) (d := 1) rfl)
            have hMy93 : okMr cs ad gy68 i (x + 1) Fvy30 ry71 st op ai fa mu tb tp := okMr.upd hM hgy73 hKy92 (fun f a => hFy77 f (by omega) (by omega) (by omega)) hgy70 (hA10.mono (by omega)) (fun j a b => by
                by_cases e0 : j = i + 12
                · exact Or.inr ⟨12, (p9), e0, (Or.inr (Or.inr ⟨rfl, hP10⟩)), by rw [e0]; exact hgy94⟩
                exact Or.inl (by rw [egy69, va_up_ne _ _ (by omega)]; rw [f3w _ (by omega)]; rw [egy54, va_up_ne _ _ (by omega)]; rw [egy44, va_up_ne _ _ (by omega)]; rw [egy37, va_up_ne _ _ (by omega)]; rw [hfvy30 _ (by omega) (by omega)]; rw [egy25, va_up_ne _ _ (by omega)]))
            have hkpy95 : Fvy30 13 = F 13 := ((hFvy30 13 (by decide) (by decide)).trans (fn rfl (by decide)))
            have hkpy96 : Fvy30 14 = F 14 := ((hFvy30 14 (by decide) (by decide)).trans (fn rfl (by decide)))
            have hkpy97 : Fvy30 17 = F 17 := ((hFvy30 17 (by decide) (by decide)).trans (fn rfl (by decide)))
            have hkpy98 : Fvy30 20 = F 20 := ((hFvy30 20 (by decide) (by decide)).trans (fn rfl (by decide)))
            have hkpy99 : Fvy30 21 = F 21 := ((hFvy30 21 (by decide) (by decide)).trans (fn rfl (by decide)))
            have hkpy100 : Fvy30 23 = F 23 := ((hFvy30 23 (by decide) (by decide)).trans (fn rfl (by decide)))
            have hkpy101 : Fvy30 24 = F 24 := ((hFvy30 24 (by decide) (by decide)).trans (fn rfl (by decide)))
            exact z_iret C hr hlk dX10_pit_141 (by decide) (by decide) ⟨(r (5)) + 1, rfl, rfl, rfl, by omega, ⟨_, _, hMy93, ⟨hkpy95, hkpy96, hkpy97, hkpy98, hkpy99, hkpy100, hkpy101⟩⟩, fun j j1 => by rw [egy69, va_up_ne _ _ (by omega)]; rw [f3w _ (by omega)]; rw [egy54, va_up_ne _ _ (by omega)]; rw [egy44, va_up_ne _ _ (by omega)]; rw [egy37, va_up_ne _ _ (by omega)]; rw [hfvy30 _ (by omega) (by omega)]; rw [egy25, va_up_ne _ _ (by omega)]⟩
          · refine z_aload_n C 0 dX10_pit_93 rfl ?_
            have hgy102 := up_n egy54 hgy48 (ne_o (i := i) (c := 0) (d := 12) rfl)
            have hgy103 := (f3w (i) (ne_o (i := i) (c := 0) (d := 12) rfl)).trans hgy102
            refine z_get (v := .ref (ad (i + 12))) C (lt_A0 hN rfl) hay1 hgy103 rfl inA_X10 11 (by decide) q_1470 rfl rfl dX10_pit_94 ?_
            refine z_iload_n C 2 dX10_pit_97 rfl ?_
            refine z_iconst (z := 3) C dX10_pit_98 rfl ?_
            refine z_iadd C dX10_pit_99 ?_
            refine z_iload_n C 3 dX10_pit_100 rfl ?_
            refine z_iadd C dX10_pit_101 ?_
            refine z_aload_n C 0 dX10_pit_102 rfl ?_
            refine z_get (v := .ref (ad (i + 1))) C (lt_A0 hN rfl) hay1 hgy103 rfl inA_X10 0 (by decide) q_1459 rfl rfl dX10_pit_103 ?_
            refine z_bipush (z := 6) C dX10_pit_106 (by decide) ?_
            refine z_bipush (z := 86) C dX10_pit_108 (by decide) ?_
            refine z_iload_n C 1 dX10_pit_110 rfl ?_
            refine z_imul C dX10_pit_111 ?_
            refine z_iadd C dX10_pit_112 ?_
            refine z_iconst (z := 2) C dX10_pit_113 rfl ?_
            refine z_iadd C dX10_pit_114 ?_
            refine z_iload_n C 3 dX10_pit_115 rfl ?_
            refine z_iadd C dX10_pit_116 ?_
            have hgy104 := up_n egy54 hgy51 (ne_o (i := i) (c := 1) (d := 12) rfl)
            have hgy105 := (f3w (i + 1) (ne_o (i := i) (c := 1) (d := 12) rfl)).trans hgy104
            refine z_iald C (lt_A (c := 1) hN rfl) hay2 hgy105 (nj) (by omega) (by omega) (by decide) dX10_pit_117 ?_
            rw [show rvy30 (nj) = r (nj) from (hyvy30 _ (by omega)).trans (rfl)]
            refine z_iast C (lt_A (c := 12) hN rfl) hay13 f2 (np) (by omega) (by omega) (by decide) dX10_pit_118 (fun gy106 egy107 => ?_)
            have hgy108 := up_s egy107
            obtain ⟨ry109, hvy110⟩ : ∃ rZ9 : Nat → Int, rZ9 = uZ p9 (np) (r (nj)) := ⟨_, rfl⟩
            rw [← hvy110] at hgy108
            refine z_iinc (z := kk + 1) (lv' := [(3, .int (zI (kk + 1))), (0, .ref (ad i)), (1, .int (zI ((n : Int)))), (2, .int (zI ((kq : Int))))]) (j := 3) C dX10_pit_119 rfl rfl (by decide) rfl ?_
            refine z_goto (tgt := 87) C dX10_pit_122 (by decide) ?_
            have hfry111 : ∀ j, j ≠ np → ry109 j = p9 j := fun j n0 => (congrFun hvy110 _).trans ((uZ_n _ _ n0).trans (rfl))
            have hwy112 : ry109 (np) = r (nj) := (congrFun hvy110 _).trans (uZ_s _ _ _)
            have hrj : rvy30 nj = r (nj) := (hyvy30 _ (by omega)).trans (rfl)
            refine z_lv (lv' := [(0, .ref (ad i)), (1, .int (zI ((n : Int)))), (2, .int (zI ((kq : Int)))), (3, .int (zI (kk + 1)))]) [1, 2, 3, 0] rfl ?_
            exact ih_lpw _ (by omega) (kk + 1) ry109 gy106 rfl hgy108 (fun j j1 => by rw [egy107, va_up_ne _ _ (by omega)]; exact f3w j j1) (fun j a => (hfry111 j (by omega)).trans (fA j a)) ((hfry111 kq (by omega)).trans fB) ((hfry111 (kq + 2) (by omega)).trans fC) (fun k a => by by_cases e : k = nk; (subst e; rw [show kq + 3 + k = np by omega, show py49 + 2 + k = nj by omega]; omega); (rw [hfry111 (kq + 3 + k) (by omega)]; exact fk k (by omega))) (by omega)
      refine z_lv (lv' := [(0, .ref (ad i)), (1, .int (zI ((n : Int)))), (2, .int (zI ((kq : Int)))), (3, .int (zI (0)))]) [2, 3, 1, 0] rfl ?_
      exact lpw _ (0) ry56 gy53 rfl hgy55 (fun j _ => rfl) (fun j a => hfry60 j (by omega) (by omega) (by omega)) (by omega) (by omega) (fun k a => absurd a (by omega)) (by omega)
    · refine z_aload_n C 0 dX10_pit_30 rfl ?_
      refine z_iconst (z := 1) C dX10_pit_31 rfl ?_
      have hgy113 := up_n egy25 ha11 (ne_o (i := i) (c := 11) (d := 0) rfl)
      refine z_cV (As := [.int (zI (1))]) (rest := []) (ci := 12) C (c_X10_refuses l D A cs tt N ad _ i hN _ hgy26 _ hgy113 (1) (by omega)) (lt_A0 hN rfl) hay1 hgy26 rfl rfl mv_yX10_refuses q_1870 hd_yX10_refuses (by decide) (Nat.le_of_ble_eq_true rfl) (by decide) dX10_pit_32 rfl (kI0 fun vy114 gvy114 hvy114 => ?_)
      obtain ⟨hrvy114, ⟨tvy114, hdvy114⟩, hfvy114⟩ := hvy114
      have hgy115 := (hfvy114 (i) (ne_o (i := i) (c := 0) (d := 11) rfl)).trans hgy26
      have hgy116 := (hfvy114 (i + 1) (ne_o (i := i) (c := 1) (d := 11) rfl)).trans hgy28
      have hFy117 : ∀ f, f ≠ 12 → (uZ F 12 (0)) f = F f := fun f n12 => ((uZ_n _ _ n12).trans rfl)
      have hey118 : (uZ F 12 (0)) 13 = F 13 := (fn rfl (by decide))
      have hey119 : (uZ F 12 (0)) 14 = F 14 := (fn rfl (by decide))
      have hey120 : (uZ F 12 (0)) 15 = F 15 := (fn rfl (by decide))
      have hey121 : (uZ F 12 (0)) 16 = F 16 := (fn rfl (by decide))
      have hey122 : (uZ F 12 (0)) 17 = F 17 := (fn rfl (by decide))
      have hey123 : (uZ F 12 (0)) 18 = F 18 := (fn rfl (by decide))
      have hey124 : (uZ F 12 (0)) 19 = F 19 := (fn rfl (by decide))
      have hey125 : (uZ F 12 (0)) 20 = F 20 := (fn rfl (by decide))
      have hey126 : (uZ F 12 (0)) 21 = F 21 := (fn rfl (by decide))
      have hey127 : (uZ F 12 (0)) 23 = F 23 := (fn rfl (by decide))
      have hey128 : (uZ F 12 (0)) 25 = F 25 := (fn rfl (by decide))
      have hey129 : (uZ F 12 (0)) 27 = F 27 := (fn rfl (by decide))
      have hey130 : (uZ F 12 (0)) 28 = F 28 := (fn rfl (by decide))
      have hey131 : (uZ F 12 (0)) 29 = F 29 := (fn rfl (by decide))
      have hKy132 : okF (uZ F 12 (0)) := okF.mv hM.2.1 hey118 hey119 hey120 hey121 hey122 hey123 hey124 hey125 hey126 hey127 hey128 hey129 hey130 hey131
      have hMy133 : okMr cs ad gvy114 i (x + 1) (uZ F 12 (0)) r st op ai fa mu tb tp := okMr.upd hM hgy115 hKy132 (fun f a => hFy117 f (by omega)) hgy116 (hA.mono (by omega)) (fun j a b => by
          by_cases e0 : j = i + 11
          · exact Or.inr ⟨11, _, e0, lsP.l (by decide), by rw [e0]; exact hdvy114⟩
          exact Or.inl (by rw [hfvy114 _ (by omega)]; rw [egy25, va_up_ne _ _ (by omega)]))
      have hkpy134 : (uZ F 12 (0)) 13 = F 13 := (fn rfl (by decide))
      have hkpy135 : (uZ F 12 (0)) 14 = F 14 := (fn rfl (by decide))
      have hkpy136 : (uZ F 12 (0)) 17 = F 17 := (fn rfl (by decide))
      have hkpy137 : (uZ F 12 (0)) 20 = F 20 := (fn rfl (by decide))
      have hkpy138 : (uZ F 12 (0)) 21 = F 21 := (fn rfl (by decide))
      have hkpy139 : (uZ F 12 (0)) 23 = F 23 := (fn rfl (by decide))
      have hkpy140 : (uZ F 12 (0)) 24 = F 24 := (fn rfl (by decide))
      exact z_iret C hr hlk dX10_pit_35 (by decide) (by decide) ⟨vy114, rfl, rfl, rfl, by omega, ⟨_, _, hMy133, ⟨hkpy134, hkpy135, hkpy136, hkpy137, hkpy138, hkpy139, hkpy140⟩⟩, fun j j1 => by rw [hfvy114 _ (by omega)]; rw [egy25, va_up_ne _ _ (by omega)]⟩
  · refine z_if_eq (tgt := 30) C dX10_pit_16 (by decide) (by omega) (fun _ => ?_) (fun h => absurd h (by omega))
    refine z_aload_n C 0 dX10_pit_30 rfl ?_
    refine z_iconst (z := 1) C dX10_pit_31 rfl ?_
    have hgy141 := up_n egy25 ha11 (ne_o (i := i) (c := 11) (d := 0) rfl)
    refine z_cV (As := [.int (zI (1))]) (rest := []) (ci := 12) C (c_X10_refuses l D A cs tt N ad _ i hN _ hgy26 _ hgy141 (1) (by omega)) (lt_A0 hN rfl) hay1 hgy26 rfl rfl mv_yX10_refuses q_1870 hd_yX10_refuses (by decide) (Nat.le_of_ble_eq_true rfl) (by decide) dX10_pit_32 rfl (kI0 fun vy142 gvy142 hvy142 => ?_)
    obtain ⟨hrvy142, ⟨tvy142, hdvy142⟩, hfvy142⟩ := hvy142
    have hgy143 := (hfvy142 (i) (ne_o (i := i) (c := 0) (d := 11) rfl)).trans hgy26
    have hgy144 := up_n egy25 ha1 (ne_o (i := i) (c := 1) (d := 0) rfl)
    have hgy145 := (hfvy142 (i + 1) (ne_o (i := i) (c := 1) (d := 11) rfl)).trans hgy144
    have hFy146 : ∀ f, f ≠ 12 → (uZ F 12 (0)) f = F f := fun f n12 => ((uZ_n _ _ n12).trans rfl)
    have hey147 : (uZ F 12 (0)) 13 = F 13 := (fn rfl (by decide))
    have hey148 : (uZ F 12 (0)) 14 = F 14 := (fn rfl (by decide))
    have hey149 : (uZ F 12 (0)) 15 = F 15 := (fn rfl (by decide))
    have hey150 : (uZ F 12 (0)) 16 = F 16 := (fn rfl (by decide))
    have hey151 : (uZ F 12 (0)) 17 = F 17 := (fn rfl (by decide))
    have hey152 : (uZ F 12 (0)) 18 = F 18 := (fn rfl (by decide))
    have hey153 : (uZ F 12 (0)) 19 = F 19 := (fn rfl (by decide))
    have hey154 : (uZ F 12 (0)) 20 = F 20 := (fn rfl (by decide))
    have hey155 : (uZ F 12 (0)) 21 = F 21 := (fn rfl (by decide))
    have hey156 : (uZ F 12 (0)) 23 = F 23 := (fn rfl (by decide))
    have hey157 : (uZ F 12 (0)) 25 = F 25 := (fn rfl (by decide))
    have hey158 : (uZ F 12 (0)) 27 = F 27 := (fn rfl (by decide))
    have hey159 : (uZ F 12 (0)) 28 = F 28 := (fn rfl (by decide))
    have hey160 : (uZ F 12 (0)) 29 = F 29 := (fn rfl (by decide))
    have hKy161 : okF (uZ F 12 (0)) := okF.mv hM.2.1 hey147 hey148 hey149 hey150 hey151 hey152 hey153 hey154 hey155 hey156 hey157 hey158 hey159 hey160
    have hMy162 : okMr cs ad gvy142 i (x + 1) (uZ F 12 (0)) r st op ai fa mu tb tp := okMr.upd hM hgy143 hKy161 (fun f a => hFy146 f (by omega)) hgy145 (hA.mono (by omega)) (fun j a b => by
        by_cases e0 : j = i + 11
        · exact Or.inr ⟨11, _, e0, lsP.l (by decide), by rw [e0]; exact hdvy142⟩
        exact Or.inl (by rw [hfvy142 _ (by omega)]; rw [egy25, va_up_ne _ _ (by omega)]))
    have hkpy163 : (uZ F 12 (0)) 13 = F 13 := (fn rfl (by decide))
    have hkpy164 : (uZ F 12 (0)) 14 = F 14 := (fn rfl (by decide))
    have hkpy165 : (uZ F 12 (0)) 17 = F 17 := (fn rfl (by decide))
    have hkpy166 : (uZ F 12 (0)) 20 = F 20 := (fn rfl (by decide))
    have hkpy167 : (uZ F 12 (0)) 21 = F 21 := (fn rfl (by decide))
    have hkpy168 : (uZ F 12 (0)) 23 = F 23 := (fn rfl (by decide))
    have hkpy169 : (uZ F 12 (0)) 24 = F 24 := (fn rfl (by decide))
    exact z_iret C hr hlk dX10_pit_35 (by decide) (by decide) ⟨vy142, rfl, rfl, rfl, by omega, ⟨_, _, hMy162, ⟨hkpy163, hkpy164, hkpy165, hkpy166, hkpy167, hkpy168, hkpy169⟩⟩, fun j j1 => by rw [hfvy142 _ (by omega)]; rw [egy25, va_up_ne _ _ (by omega)]⟩

set_option maxRecDepth 100000 in
set_option maxHeartbeats 4000000 in
theorem c_X10_pit_b (l : Launch) (D : va_G) (A : Nat → Prop) (cs : Nat → ClassId) (tt : Nat) (N : Nat) (ad : Nat → Nat) (g : Nat → va_E) (i : Nat) (hN : i + 30 ≤ N) (x : Int) (hx : 0 ≤ x ∧ x ≤ 512) (F r : Nat → Int) {st op ai fa mu tb tp : Nat → Int} (hM : okMr cs ad g i x F r st op ai fa mu tb tp) (z : Int) (hz : -2147483648 ≤ z ∧ z ≤ 2147483647) (hzo : z < 0 ∨ 3 < z) : zM l yX10_pit cX10_pit 4 (some .int) ({ frames := 3, cells := 0, slots := 0, locals := 180 } : Room) D A cs tt N ad g [.ref (ad i), .int (zI (z))] (rI0 N ad fun q g' => (-2147483648 ≤ q ∧ q ≤ 2147483647) ∧ (∃ F' r' : Nat → Int, okMr cs ad g' i (x + 1) F' r' st op ai fa mu tb tp ∧ (F' 13 = F 13 ∧ F' 14 = F 14 ∧ F' 17 = F 17 ∧ F' 20 = F 20 ∧ F' 21 = F 21 ∧ F' 23 = F 23 ∧ F' 24 = F 24)) ∧ ∀ j, j < i ∨ i + 30 ≤ j → g' j = g j) := by
  obtain ⟨hg, ⟨⟨e13, e14, e25, e27, e29⟩, k15, k16, k17, k18, k19, k20, k23, k21⟩, hRD, hTx, hA, ns, nh, nd, rf, pi, te, ki, li, ok1, ok2, fo, dd, dps, ⟨ha1, ha2, ha3, ha4, ha5, ha6, ha7, ha8, ha9, ha10, ha11, ha12, ha13, ha14, ha15, ha24, ha25, ha26, ha27, ha28, ha29⟩, hEv, hPt, hns, htp⟩ := id hM
  obtain ⟨-, hop, hai, hfa, hT, hT1⟩ := id hEv
  have hay1 : zAt ad (i) (ad i) := rfl
  have hay2 : zAt ad (i + 1) (ad (i + 1)) := rfl
  have hay3 : zAt ad (i + 2) (ad (i + 2)) := rfl
  have hay4 : zAt ad (i + 3) (ad (i + 3)) := rfl
  have hay5 : zAt ad (i + 4) (ad (i + 4)) := rfl
  have hay6 : zAt ad (i + 5) (ad (i + 5)) := rfl
  have hay7 : zAt ad (i + 6) (ad (i + 6)) := rfl
  have hay8 : zAt ad (i + 7) (ad (i + 7)) := rfl
  have hay9 : zAt ad (i + 8) (ad (i + 8)) := rfl
  have hay10 : zAt ad (i + 9) (ad (i + 9)) := rfl
  have hay11 : zAt ad (i + 10) (ad (i + 10)) := rfl
  have hay12 : zAt ad (i + 11) (ad (i + 11)) := rfl
  have hay13 : zAt ad (i + 12) (ad (i + 12)) := rfl
  have hay14 : zAt ad (i + 13) (ad (i + 13)) := rfl
  have hay15 : zAt ad (i + 14) (ad (i + 14)) := rfl
  have hay16 : zAt ad (i + 15) (ad (i + 15)) := rfl
  have hay17 : zAt ad (i + 24) (ad (i + 24)) := rfl
  have hay18 : zAt ad (i + 25) (ad (i + 25)) := rfl
  have hay19 : zAt ad (i + 26) (ad (i + 26)) := rfl
  have hay20 : zAt ad (i + 27) (ad (i + 27)) := rfl
  have hay21 : zAt ad (i + 28) (ad (i + 28)) := rfl
  have hay22 : zAt ad (i + 29) (ad (i + 29)) := rfl
  obtain ⟨⟨hsyy23, htyy23, hnyy23, hpyy23⟩, hlyy23⟩ := okA.at0 hA
  simp only [Nat.zero_add] at hsyy23 hnyy23 hpyy23
  have hmn : ∀ s, s < 4 → 0 ≤ r (6 + 86 * s) ∧ r (6 + 86 * s) ≤ 12 := fun s hs => (hsyy23 s hs).1
  have h5 : 0 ≤ r 5 ∧ r 5 ≤ 6 := hpyy23
  refine z_of (by decide) (Nat.le_of_ble_eq_true rfl) ?_
  intro pZ eZ sZ mZ below meth cZ C hr hlk hnm
  refine z_lv (lv' := [(0, .ref (ad i)), (1, .int (zI (z)))]) [0, 1] rfl ?_
  refine z_aload_n C 0 dX10_pit_0 rfl ?_
  refine z_iconst (z := 0) C dX10_pit_1 rfl ?_
  refine z_put (fs' := mF ad (i) (uZ F 12 (0))) C (lt_A0 hN rfl) hay1 hg tyX10 tyX10_ok nmX10 rfl inA_X10 12 (by decide) q_1471 rfl rfl rfl rfl (Nat.le_of_ble_eq_true rfl) rfl dX10_pit_2 (fun gy24 egy25 => ?_)
  have hgy26 := up_s egy25
  refine z_iload_n C 1 dX10_pit_5 rfl ?_
  refine z_iconst (z := 0) C dX10_pit_6 rfl ?_
  refine z_aload_n C 0 dX10_pit_7 rfl ?_
  refine z_get (v := .int (zI (F 13))) C (lt_A0 hN rfl) hay1 hgy26 rfl inA_X10 13 (by decide) q_1472 rfl (fv (F := (uZ F 12 (0))) (f := 13) (fn rfl (by decide))) dX10_pit_8 ?_
  refine z_iconst (z := 1) C dX10_pit_11 rfl ?_
  refine z_isub C dX10_pit_12 ?_
  refine z_cS (As := [.int (zI (z)), .int (zI (0)), .int (zI ((F 13) - 1))]) (rest := []) C (c_X10_within l D A cs tt N ad _ (z) (by omega) (0) (by omega) ((F 13) - 1) (by omega)) ms_yX10_within q_1690 hd_yX10_within (by decide) (Nat.le_of_ble_eq_true rfl) (by decide) dX10_pit_13 rfl (kI0 fun vy27 gvy27 hvy27 => ?_)
  obtain ⟨hvy27, rfl⟩ := hvy27
  obtain rfl : vy27 = 0 := by omega
  refine z_if_eq (tgt := 30) C dX10_pit_16 (by decide) (by omega) (fun _ => ?_) (fun h => absurd h (by omega))
  refine z_aload_n C 0 dX10_pit_30 rfl ?_
  refine z_iconst (z := 1) C dX10_pit_31 rfl ?_
  have hgy28 := up_n egy25 ha11 (ne_o (i := i) (c := 11) (d := 0) rfl)
  refine z_cV (As := [.int (zI (1))]) (rest := []) (ci := 12) C (c_X10_refuses l D A cs tt N ad _ i hN _ hgy26 _ hgy28 (1) (by omega)) (lt_A0 hN rfl) hay1 hgy26 rfl rfl mv_yX10_refuses q_1870 hd_yX10_refuses (by decide) (Nat.le_of_ble_eq_true rfl) (by decide) dX10_pit_32 rfl (kI0 fun vy29 gvy29 hvy29 => ?_)
  obtain ⟨hrvy29, ⟨tvy29, hdvy29⟩, hfvy29⟩ := hvy29
  have hgy30 := (hfvy29 (i) (ne_o (i := i) (c := 0) (d := 11) rfl)).trans hgy26
  have hgy31 := up_n egy25 ha1 (ne_o (i := i) (c := 1) (d := 0) rfl)
  have hgy32 := (hfvy29 (i + 1) (ne_o (i := i) (c := 1) (d := 11) rfl)).trans hgy31
  have hFy33 : ∀ f, f ≠ 12 → (uZ F 12 (0)) f = F f := fun f n12 => ((uZ_n _ _ n12).trans rfl)
  have hey34 : (uZ F 12 (0)) 13 = F 13 := (fn rfl (by decide))
  have hey35 : (uZ F 12 (0)) 14 = F 14 := (fn rfl (by decide))
  have hey36 : (uZ F 12 (0)) 15 = F 15 := (fn rfl (by decide))
  have hey37 : (uZ F 12 (0)) 16 = F 16 := (fn rfl (by decide))
  have hey38 : (uZ F 12 (0)) 17 = F 17 := (fn rfl (by decide))
  have hey39 : (uZ F 12 (0)) 18 = F 18 := (fn rfl (by decide))
  have hey40 : (uZ F 12 (0)) 19 = F 19 := (fn rfl (by decide))
  have hey41 : (uZ F 12 (0)) 20 = F 20 := (fn rfl (by decide))
  have hey42 : (uZ F 12 (0)) 21 = F 21 := (fn rfl (by decide))
  have hey43 : (uZ F 12 (0)) 23 = F 23 := (fn rfl (by decide))
  have hey44 : (uZ F 12 (0)) 25 = F 25 := (fn rfl (by decide))
  have hey45 : (uZ F 12 (0)) 27 = F 27 := (fn rfl (by decide))
  have hey46 : (uZ F 12 (0)) 28 = F 28 := (fn rfl (by decide))
  have hey47 : (uZ F 12 (0)) 29 = F 29 := (fn rfl (by decide))
  have hKy48 : okF (uZ F 12 (0)) := okF.mv hM.2.1 hey34 hey35 hey36 hey37 hey38 hey39 hey40 hey41 hey42 hey43 hey44 hey45 hey46 hey47
  have hMy49 : okMr cs ad gvy29 i (x + 1) (uZ F 12 (0)) r st op ai fa mu tb tp := okMr.upd hM hgy30 hKy48 (fun f a => hFy33 f (by omega)) hgy32 (hA.mono (by omega)) (fun j a b => by
      by_cases e0 : j = i + 11
      · exact Or.inr ⟨11, _, e0, lsP.l (by decide), by rw [e0]; exact hdvy29⟩
      exact Or.inl (by rw [hfvy29 _ (by omega)]; rw [egy25, va_up_ne _ _ (by omega)]))
  have hkpy50 : (uZ F 12 (0)) 13 = F 13 := (fn rfl (by decide))
  have hkpy51 : (uZ F 12 (0)) 14 = F 14 := (fn rfl (by decide))
  have hkpy52 : (uZ F 12 (0)) 17 = F 17 := (fn rfl (by decide))
  have hkpy53 : (uZ F 12 (0)) 20 = F 20 := (fn rfl (by decide))
  have hkpy54 : (uZ F 12 (0)) 21 = F 21 := (fn rfl (by decide))
  have hkpy55 : (uZ F 12 (0)) 23 = F 23 := (fn rfl (by decide))
  have hkpy56 : (uZ F 12 (0)) 24 = F 24 := (fn rfl (by decide))
  exact z_iret C hr hlk dX10_pit_35 (by decide) (by decide) ⟨vy29, rfl, rfl, rfl, by omega, ⟨_, _, hMy49, ⟨hkpy50, hkpy51, hkpy52, hkpy53, hkpy54, hkpy55, hkpy56⟩⟩, fun j j1 => by rw [hfvy29 _ (by omega)]; rw [egy25, va_up_ne _ _ (by omega)]⟩

set_option maxRecDepth 100000 in
set_option maxHeartbeats 4000000 in
theorem c_X10_pit (l : Launch) (D : va_G) (A : Nat → Prop) (cs : Nat → ClassId) (tt : Nat) (N : Nat) (ad : Nat → Nat) (g : Nat → va_E) (i : Nat) (hN : i + 30 ≤ N) (x : Int) (hx : 0 ≤ x ∧ x ≤ 512) (F r : Nat → Int) {st op ai fa mu tb tp : Nat → Int} (hM : okMr cs ad g i x F r st op ai fa mu tb tp) (z : Int) (hz : -2147483648 ≤ z ∧ z ≤ 2147483647) : zM l yX10_pit cX10_pit 4 (some .int) ({ frames := 3, cells := 0, slots := 0, locals := 180 } : Room) D A cs tt N ad g [.ref (ad i), .int (zI (z))] (rI0 N ad fun q g' => (-2147483648 ≤ q ∧ q ≤ 2147483647) ∧ (∃ F' r' : Nat → Int, okMr cs ad g' i (x + 1) F' r' st op ai fa mu tb tp ∧ (F' 13 = F 13 ∧ F' 14 = F 14 ∧ F' 17 = F 17 ∧ F' 20 = F 20 ∧ F' 21 = F 21 ∧ F' 23 = F 23 ∧ F' 24 = F 24)) ∧ ∀ j, j < i ∨ i + 30 ≤ j → g' j = g j) := by
  by_cases h9 : 0 ≤ z ∧ z ≤ 3
  · obtain ⟨n, rfl⟩ : ∃ n : Nat, z = (n : Int) := ⟨z.toNat, by omega⟩
    exact c_X10_pit_a l D A cs tt N ad g i hN x hx F r hM n (by omega) 
  · exact c_X10_pit_b l D A cs tt N ad g i hN x hx F r hM z hz (by omega) 

set_option maxRecDepth 100000 in
set_option maxHeartbeats 4000000 in
theorem c_X10_image (l : Launch) (D : va_G) (A : Nat → Prop) (cs : Nat → ClassId) (tt : Nat) (N : Nat) (ad : Nat → Nat) (g : Nat → va_E) (i : Nat) (hN : i + 30 ≤ N) (x : Int) (hx : 0 ≤ x ∧ x ≤ 512) (F r : Nat → Int) {st op ai fa mu tb tp : Nat → Int} (hM : okMr cs ad g i x F r st op ai fa mu tb tp) : zM l yX10_image cX10_image 2 none ({ frames := 2, cells := 0, slots := 0, locals := 120 } : Room) D A cs tt N ad g [.ref (ad i)] (rV0 N ad fun g' => (∃ F' r' : Nat → Int, okMr cs ad g' i (x + 1) F' r' st op ai fa mu tb tp ∧ (F' 13 = F 13 ∧ F' 14 = F 14 ∧ F' 17 = F 17 ∧ F' 20 = F 17 ∧ F' 21 = 1 ∧ F' 23 = F 23 ∧ F' 24 = F 24)) ∧ ∀ j, j < i ∨ i + 30 ≤ j → g' j = g j) := by
  obtain ⟨hg, ⟨⟨e13, e14, e25, e27, e29⟩, k15, k16, k17, k18, k19, k20, k23, k21⟩, hRD, hTx, hA, ns, nh, nd, rf, pi, te, ki, li, ok1, ok2, fo, dd, dps, ⟨ha1, ha2, ha3, ha4, ha5, ha6, ha7, ha8, ha9, ha10, ha11, ha12, ha13, ha14, ha15, ha24, ha25, ha26, ha27, ha28, ha29⟩, hEv, hPt, hns, htp⟩ := id hM
  obtain ⟨-, hop, hai, hfa, hT, hT1⟩ := id hEv
  have hay1 : zAt ad (i) (ad i) := rfl
  have hay2 : zAt ad (i + 1) (ad (i + 1)) := rfl
  have hay3 : zAt ad (i + 2) (ad (i + 2)) := rfl
  have hay4 : zAt ad (i + 3) (ad (i + 3)) := rfl
  have hay5 : zAt ad (i + 4) (ad (i + 4)) := rfl
  have hay6 : zAt ad (i + 5) (ad (i + 5)) := rfl
  have hay7 : zAt ad (i + 6) (ad (i + 6)) := rfl
  have hay8 : zAt ad (i + 7) (ad (i + 7)) := rfl
  have hay9 : zAt ad (i + 8) (ad (i + 8)) := rfl
  have hay10 : zAt ad (i + 9) (ad (i + 9)) := rfl
  have hay11 : zAt ad (i + 10) (ad (i + 10)) := rfl
  have hay12 : zAt ad (i + 11) (ad (i + 11)) := rfl
  have hay13 : zAt ad (i + 12) (ad (i + 12)) := rfl
  have hay14 : zAt ad (i + 13) (ad (i + 13)) := rfl
  have hay15 : zAt ad (i + 14) (ad (i + 14)) := rfl
  have hay16 : zAt ad (i + 15) (ad (i + 15)) := rfl
  have hay17 : zAt ad (i + 24) (ad (i + 24)) := rfl
  have hay18 : zAt ad (i + 25) (ad (i + 25)) := rfl
  have hay19 : zAt ad (i + 26) (ad (i + 26)) := rfl
  have hay20 : zAt ad (i + 27) (ad (i + 27)) := rfl
  have hay21 : zAt ad (i + 28) (ad (i + 28)) := rfl
  have hay22 : zAt ad (i + 29) (ad (i + 29)) := rfl
  obtain ⟨⟨hsyy23, htyy23, hnyy23, hpyy23⟩, hlyy23⟩ := okA.at0 hA
  simp only [Nat.zero_add] at hsyy23 hnyy23 hpyy23
  have hmn : ∀ s, s < 4 → 0 ≤ r (6 + 86 * s) ∧ r (6 + 86 * s) ≤ 12 := fun s hs => (hsyy23 s hs).1
  have h5 : 0 ≤ r 5 ∧ r 5 ≤ 6 := hpyy23
  refine z_of (by decide) (Nat.le_of_ble_eq_true rfl) ?_
  intro pZ eZ sZ mZ below meth cZ C hr hlk hnm
  refine z_lv (lv' := [(0, .ref (ad i))]) [0] rfl ?_
  refine z_aload_n C 0 dX10_image_0 rfl ?_
  refine z_iconst (z := 0) C dX10_image_1 rfl ?_
  refine z_put (fs' := mF ad (i) (uZ F 12 (0))) C (lt_A0 hN rfl) hay1 hg tyX10 tyX10_ok nmX10 rfl inA_X10 12 (by decide) q_1471 rfl rfl rfl rfl (Nat.le_of_ble_eq_true rfl) rfl dX10_image_2 (fun gy24 egy25 => ?_)
  have hgy26 := up_s egy25
  refine z_aload_n C 0 dX10_image_5 rfl ?_
  refine z_iconst (z := 0) C dX10_image_6 rfl ?_
  refine z_sipush (z := 14700) C dX10_image_7 (by decide) ?_
  refine z_sipush (z := 350) C dX10_image_10 (by decide) ?_
  have hgy27 := up_n egy25 ha1 (ne_o (i := i) (c := 1) (d := 0) rfl)
  refine z_cV (As := [.int (zI (0)), .int (zI (14700)), .int (zI (350))]) (rest := []) (ci := 12) C (c_X10_copies l D A cs tt N ad _ i hN _ hgy26 _ hgy27 0 14700 350 (by omega) (by omega) (by omega)) (lt_A0 hN rfl) hay1 hgy26 rfl rfl mv_yX10_copies q_1881 hd_yX10_copies (by decide) (Nat.le_of_ble_eq_true rfl) (by decide) dX10_image_13 rfl (kV0 fun gvy28 hvy28 => ?_)
  obtain ⟨⟨rvy28, hcvy28, hevy28, hovy28⟩, hfvy28⟩ := hvy28
  have hAy29 : okA rvy28 (x) := okA.copy (a := 0) (b := 42) (m := 1) hA (by omega) (by omega) (by omega) (fun k hk => hevy28 k (by omega)) (fun j hj => hovy28 j (by omega))
  refine z_aload_n C 0 dX10_image_16 rfl ?_
  refine z_sipush (z := 700) C dX10_image_17 (by decide) ?_
  refine z_sipush (z := 15050) C dX10_image_20 (by decide) ?_
  refine z_sipush (z := 14000) C dX10_image_23 (by decide) ?_
  have hgy30 := (hfvy28 (i) (ne_o (i := i) (c := 0) (d := 1) rfl)).trans hgy26
  refine z_cV (As := [.int (zI (700)), .int (zI (15050)), .int (zI (14000))]) (rest := []) (ci := 12) C (c_X10_copies l D A cs tt N ad _ i hN _ hgy30 _ hcvy28 700 15050 14000 (by omega) (by omega) (by omega)) (lt_A0 hN rfl) hay1 hgy30 rfl rfl mv_yX10_copies q_1881 hd_yX10_copies (by decide) (Nat.le_of_ble_eq_true rfl) (by decide) dX10_image_26 rfl (kV0 fun gvy31 hvy31 => ?_)
  obtain ⟨⟨rvy31, hcvy31, hevy31, hovy31⟩, hfvy31⟩ := hvy31
  have hAy32 : okA rvy31 (x) := okA.copy (a := 2) (b := 43) (m := 40) hAy29 (by omega) (by omega) (by omega) (fun k hk => hevy31 k (by omega)) (fun j hj => hovy31 j (by omega))
  refine z_aload_n C 0 dX10_image_29 rfl ?_
  refine z_aload_n C 0 dX10_image_30 rfl ?_
  have hgy33 := (hfvy31 (i) (ne_o (i := i) (c := 0) (d := 1) rfl)).trans hgy30
  refine z_get (v := .int (zI (F 15))) C (lt_A0 hN rfl) hay1 hgy33 rfl inA_X10 15 (by decide) q_1474 rfl (fv (F := (uZ F 12 (0))) (f := 15) (fn rfl (by decide))) dX10_image_31 ?_
  refine z_put (fs' := mF ad (i) (uZ (uZ F 12 (0)) 18 (F 15))) C (lt_A0 hN rfl) hay1 hgy33 tyX10 tyX10_ok nmX10 rfl inA_X10 18 (by decide) q_1477 rfl rfl rfl rfl (Nat.le_of_ble_eq_true rfl) rfl dX10_image_34 (fun gy34 egy35 => ?_)
  have hgy36 := up_s egy35
  refine z_aload_n C 0 dX10_image_37 rfl ?_
  refine z_aload_n C 0 dX10_image_38 rfl ?_
  refine z_get (v := .int (zI (F 16))) C (lt_A0 hN rfl) hay1 hgy36 rfl inA_X10 16 (by decide) q_1475 rfl (fv (F := (uZ (uZ F 12 (0)) 18 (F 15))) (f := 16) (fn (fn rfl (by decide)) (by decide))) dX10_image_39 ?_
  refine z_put (fs' := mF ad (i) (uZ (uZ (uZ F 12 (0)) 18 (F 15)) 19 (F 16))) C (lt_A0 hN rfl) hay1 hgy36 tyX10 tyX10_ok nmX10 rfl inA_X10 19 (by decide) q_1478 rfl rfl rfl rfl (Nat.le_of_ble_eq_true rfl) rfl dX10_image_42 (fun gy37 egy38 => ?_)
  have hgy39 := up_s egy38
  refine z_aload_n C 0 dX10_image_45 rfl ?_
  refine z_aload_n C 0 dX10_image_46 rfl ?_
  refine z_get (v := .int (zI (F 17))) C (lt_A0 hN rfl) hay1 hgy39 rfl inA_X10 17 (by decide) q_1476 rfl (fv (F := (uZ (uZ (uZ F 12 (0)) 18 (F 15)) 19 (F 16))) (f := 17) (fn (fn (fn rfl (by decide)) (by decide)) (by decide))) dX10_image_47 ?_
  refine z_put (fs' := mF ad (i) (uZ (uZ (uZ (uZ F 12 (0)) 18 (F 15)) 19 (F 16)) 20 (F 17))) C (lt_A0 hN rfl) hay1 hgy39 tyX10 tyX10_ok nmX10 rfl inA_X10 20 (by decide) q_1479 rfl rfl rfl rfl (Nat.le_of_ble_eq_true rfl) rfl dX10_image_50 (fun gy40 egy41 => ?_)
  have hgy42 := up_s egy41
  refine z_iconst (z := 0) C dX10_image_53 rfl ?_
  refine z_istore_n (lv' := [(1, .int (zI (0))), (0, .ref (ad i))]) C dX10_image_54 rfl (by decide) rfl ?_
  have lpw : ∀ (n9 : Nat) (kk : Int) (p9 : Nat → Int) (g1 : Nat → va_E), (541 - kk).toNat = n9 → (g1 (i + 12) = iA cs 1080 p9) → (∀ j, j ≠ i + 12 → g1 j = gy40 j) → (∀ m, m < 540 → p9 (0 + m) = pi (0 + m)) → (∀ k : Nat, (k : Int) < kk → p9 (540 + k) = pi (0 + k)) → (0 ≤ kk ∧ kk ≤ 540) → zV pZ l eZ ({ frames := 2, cells := 0, slots := 0, locals := 120 } : Room) sZ mZ ([.ref (ad i)] : List Value).toArray below meth cZ (MQ below (zPost D A (rV0 N ad fun g' => (∃ F' r' : Nat → Int, okMr cs ad g' i (x + 1) F' r' st op ai fa mu tb tp ∧ (F' 13 = F 13 ∧ F' 14 = F 14 ∧ F' 17 = F 17 ∧ F' 20 = F 17 ∧ F' 21 = 1 ∧ F' 23 = F 23 ∧ F' 24 = F 24)) ∧ ∀ j, j < i ∨ i + 30 ≤ j → g' j = g j)) ([.ref (ad i)] : List Value).toArray sZ ({ frames := 2, cells := 0, slots := 0, locals := 120 } : Room).cells ({ frames := 2, cells := 0, slots := 0, locals := 120 } : Room).slots A) D A 2 (N) ad g1 (0) (0) 55 [(0, .ref (ad i)), (1, .int (zI (kk)))] [] := by
    intro n9
    induction n9 using Nat.strongRecOn with
    | ind n9 ih_lpw =>
      intro kk p9 g1 hm9 f2 f3w fA fk hvk
      obtain ⟨nk, hnk⟩ : ∃ n9 : Nat, kk = (n9 : Int) := ⟨kk.toNat, by omega⟩
      have hP9 : kk = 540 → okPt p9 := fun e => okPt.cpy (a := 0) (b := 6) hPt (by omega) (fun m hm => fk m (by omega)) (fun m hm => fA m hm)
      refine z_iload_n C 1 dX10_image_55 rfl ?_
      refine z_sipush (z := 540) C dX10_image_56 (by decide) ?_
      refine z_icmp_ge (tgt := 84) C dX10_image_59 (by decide) (by omega) (by omega) (fun hby43 => ?_) (fun hby43 => ?_)
      · refine z_iconst (z := 0) C dX10_image_84 rfl ?_
        refine z_istore_n (lv' := [(1, .int (zI (0))), (0, .ref (ad i))]) C dX10_image_85 rfl (by decide) rfl ?_
        have hP10 := hP9 (by omega)
        have lp2 : ∀ (n9 : Nat) (kk : Int) (F9b : Nat → Int) (r9b : Nat → Int) (g1 : Nat → va_E), (9 - kk).toNat = n9 → (okMr cs ad g1 i x F9b r9b st op ai fa mu tb tp) → ((∀ f, f ≠ 12 → f ≠ 18 → f ≠ 19 → f ≠ 20 → f ≠ 21 → F9b f = F f)) → (∀ j, j < i ∨ i + 30 ≤ j → g1 j = g j) → (0 ≤ kk ∧ kk ≤ 8) → (F9b 20 = F 17) → zV pZ l eZ ({ frames := 2, cells := 0, slots := 0, locals := 120 } : Room) sZ mZ ([.ref (ad i)] : List Value).toArray below meth cZ (MQ below (zPost D A (rV0 N ad fun g' => (∃ F' r' : Nat → Int, okMr cs ad g' i (x + 1) F' r' st op ai fa mu tb tp ∧ (F' 13 = F 13 ∧ F' 14 = F 14 ∧ F' 17 = F 17 ∧ F' 20 = F 17 ∧ F' 21 = 1 ∧ F' 23 = F 23 ∧ F' 24 = F 24)) ∧ ∀ j, j < i ∨ i + 30 ≤ j → g' j = g j)) ([.ref (ad i)] : List Value).toArray sZ ({ frames := 2, cells := 0, slots := 0, locals := 120 } : Room).cells ({ frames := 2, cells := 0, slots := 0, locals := 120 } : Room).slots A) D A 2 (N) ad g1 (0) (0) 86 [(0, .ref (ad i)), (1, .int (zI (kk)))] [] := by
          intro n9
          induction n9 using Nat.strongRecOn with
          | ind n9 ih_lp2 =>
            intro kk F9b r9b g1 hm9 fMb fFb f3 hvlp20 hvlp21
            obtain ⟨hg_y44, ⟨⟨e13_y44, e14_y44, e25_y44, e27_y44, e29_y44⟩, k15_y44, k16_y44, k17_y44, k18_y44, k19_y44, k20_y44, k23_y44, k21_y44⟩, hRD_y44, hTx_y44, hA_y44, ns_y44, nh_y44, nd_y44, rf_y44, pi_y44, te_y44, ki_y44, li_y44, ok1_y44, ok2_y44, fo_y44, dd_y44, dps_y44, ⟨ha1_y44, ha2_y44, ha3_y44, ha4_y44, ha5_y44, ha6_y44, ha7_y44, ha8_y44, ha9_y44, ha10_y44, ha11_y44, ha12_y44, ha13_y44, ha14_y44, ha15_y44, ha24_y44, ha25_y44, ha26_y44, ha27_y44, ha28_y44, ha29_y44⟩, hEv_y44, hPt_y44, hns_y44, htp_y44⟩ := id fMb
            obtain ⟨-, hop_y44, hai_y44, hfa_y44, hT_y44, hT1_y44⟩ := id hEv_y44
            have e14 := e14_y44
            have e25 := e25_y44
            have e27 := e27_y44
            have e29 := e29_y44
            have hop := hop_y44
            have hai := hai_y44
            have hfa := hfa_y44
            have hT := hT_y44
            have hT1 := hT1_y44
            have hEv := hEv_y44
            have htp := htp_y44
            have hns := hns_y44
            have hPt := hPt_y44
            have hay45 : zAt ad (i) (ad i) := rfl
            have hay46 : zAt ad (i + 1) (ad (i + 1)) := rfl
            have hay47 : zAt ad (i + 2) (ad (i + 2)) := rfl
            have hay48 : zAt ad (i + 3) (ad (i + 3)) := rfl
            have hay49 : zAt ad (i + 4) (ad (i + 4)) := rfl
            have hay50 : zAt ad (i + 5) (ad (i + 5)) := rfl
            have hay51 : zAt ad (i + 6) (ad (i + 6)) := rfl
            have hay52 : zAt ad (i + 7) (ad (i + 7)) := rfl
            have hay53 : zAt ad (i + 8) (ad (i + 8)) := rfl
            have hay54 : zAt ad (i + 9) (ad (i + 9)) := rfl
            have hay55 : zAt ad (i + 10) (ad (i + 10)) := rfl
            have hay56 : zAt ad (i + 11) (ad (i + 11)) := rfl
            have hay57 : zAt ad (i + 12) (ad (i + 12)) := rfl
            have hay58 : zAt ad (i + 13) (ad (i + 13)) := rfl
            have hay59 : zAt ad (i + 14) (ad (i + 14)) := rfl
            have hay60 : zAt ad (i + 15) (ad (i + 15)) := rfl
            have hay61 : zAt ad (i + 24) (ad (i + 24)) := rfl
            have hay62 : zAt ad (i + 25) (ad (i + 25)) := rfl
            have hay63 : zAt ad (i + 26) (ad (i + 26)) := rfl
            have hay64 : zAt ad (i + 27) (ad (i + 27)) := rfl
            have hay65 : zAt ad (i + 28) (ad (i + 28)) := rfl
            have hay66 : zAt ad (i + 29) (ad (i + 29)) := rfl
            obtain ⟨⟨hsyy67, htyy67, hnyy67, hpyy67⟩, hlyy67⟩ := okA.at0 hA_y44
            simp only [Nat.zero_add] at hsyy67 hnyy67 hpyy67
            have hmn : ∀ s, s < 4 → 0 ≤ r9b (6 + 86 * s) ∧ r9b (6 + 86 * s) ≤ 12 := fun s hs => (hsyy67 s hs).1
            have h5 : 0 ≤ r9b 5 ∧ r9b 5 ≤ 6 := hpyy67
            have h13be : F9b 13 = F 13 := fFb 13 (by decide) (by decide) (by decide) (by decide) (by decide)
            have h14be : F9b 14 = F 14 := fFb 14 (by decide) (by decide) (by decide) (by decide) (by decide)
            have h17be : F9b 17 = F 17 := fFb 17 (by decide) (by decide) (by decide) (by decide) (by decide)
            have h23be : F9b 23 = F 23 := fFb 23 (by decide) (by decide) (by decide) (by decide) (by decide)
            have h24be : F9b 24 = F 24 := fFb 24 (by decide) (by decide) (by decide) (by decide) (by decide)
            refine z_iload_n C 1 dX10_image_86 rfl ?_
            refine z_bipush (z := 8) C dX10_image_87 (by decide) ?_
            refine z_icmp_ge (tgt := 143) C dX10_image_89 (by decide) (by omega) (by omega) (fun hby68 => ?_) (fun hby68 => ?_)
            · refine z_iconst (z := 0) C dX10_image_143 rfl ?_
              refine z_istore_n (lv' := [(1, .int (zI (0))), (0, .ref (ad i))]) C dX10_image_144 rfl (by decide) rfl ?_
              have lp3 : ∀ (n9 : Nat) (kk : Int) (F9c : Nat → Int) (r9c : Nat → Int) (g1 : Nat → va_E), (4 - kk).toNat = n9 → (okMr cs ad g1 i x F9c r9c st op ai fa mu tb tp) → ((∀ f, f ≠ 12 → f ≠ 18 → f ≠ 19 → f ≠ 20 → f ≠ 21 → F9c f = F f)) → (∀ j, j < i ∨ i + 30 ≤ j → g1 j = g j) → (0 ≤ kk ∧ kk ≤ 3) → (F9c 20 = F 17) → zV pZ l eZ ({ frames := 2, cells := 0, slots := 0, locals := 120 } : Room) sZ mZ ([.ref (ad i)] : List Value).toArray below meth cZ (MQ below (zPost D A (rV0 N ad fun g' => (∃ F' r' : Nat → Int, okMr cs ad g' i (x + 1) F' r' st op ai fa mu tb tp ∧ (F' 13 = F 13 ∧ F' 14 = F 14 ∧ F' 17 = F 17 ∧ F' 20 = F 17 ∧ F' 21 = 1 ∧ F' 23 = F 23 ∧ F' 24 = F 24)) ∧ ∀ j, j < i ∨ i + 30 ≤ j → g' j = g j)) ([.ref (ad i)] : List Value).toArray sZ ({ frames := 2, cells := 0, slots := 0, locals := 120 } : Room).cells ({ frames := 2, cells := 0, slots := 0, locals := 120 } : Room).slots A) D A 2 (N) ad g1 (0) (0) 145 [(0, .ref (ad i)), (1, .int (zI (kk)))] [] := by
                intro n9
                induction n9 using Nat.strongRecOn with
                | ind n9 ih_lp3 =>
                  intro kk F9c r9c g1 hm9 fMc fFc f3 hvlp30 hvlp31
                  obtain ⟨hg_y69, ⟨⟨e13_y69, e14_y69, e25_y69, e27_y69, e29_y69⟩, k15_y69, k16_y69, k17_y69, k18_y69, k19_y69, k20_y69, k23_y69, k21_y69⟩, hRD_y69, hTx_y69, hA_y69, ns_y69, nh_y69, nd_y69, rf_y69, pi_y69, te_y69, ki_y69, li_y69, ok1_y69, ok2_y69, fo_y69, dd_y69, dps_y69, ⟨ha1_y69, ha2_y69, ha3_y69, ha4_y69, ha5_y69, ha6_y69, ha7_y69, ha8_y69, ha9_y69, ha10_y69, ha11_y69, ha12_y69, ha13_y69, ha14_y69, ha15_y69, ha24_y69, ha25_y69, ha26_y69, ha27_y69, ha28_y69, ha29_y69⟩, hEv_y69, hPt_y69, hns_y69, htp_y69⟩ := id fMc
                  obtain ⟨-, hop_y69, hai_y69, hfa_y69, hT_y69, hT1_y69⟩ := id hEv_y69
                  have e14 := e14_y69
                  have e25 := e25_y69
                  have e27 := e27_y69
                  have e29 := e29_y69
                  have hop := hop_y69
                  have hai := hai_y69
                  have hfa := hfa_y69
                  have hT := hT_y69
                  have hT1 := hT1_y69
                  have hEv := hEv_y69
                  have htp := htp_y69
                  have hns := hns_y69
                  have hPt := hPt_y69
                  have hay70 : zAt ad (i) (ad i) := rfl
                  have hay71 : zAt ad (i + 1) (ad (i + 1)) := rfl
                  have hay72 : zAt ad (i + 2) (ad (i + 2)) := rfl
                  have hay73 : zAt ad (i + 3) (ad (i + 3)) := rfl
                  have hay74 : zAt ad (i + 4) (ad (i + 4)) := rfl
                  have hay75 : zAt ad (i + 5) (ad (i + 5)) := rfl
                  have hay76 : zAt ad (i + 6) (ad (i + 6)) := rfl
                  have hay77 : zAt ad (i + 7) (ad (i + 7)) := rfl
                  have hay78 : zAt ad (i + 8) (ad (i + 8)) := rfl
                  have hay79 : zAt ad (i + 9) (ad (i + 9)) := rfl
                  have hay80 : zAt ad (i + 10) (ad (i + 10)) := rfl
                  have hay81 : zAt ad (i + 11) (ad (i + 11)) := rfl
                  have hay82 : zAt ad (i + 12) (ad (i + 12)) := rfl
                  have hay83 : zAt ad (i + 13) (ad (i + 13)) := rfl
                  have hay84 : zAt ad (i + 14) (ad (i + 14)) := rfl
                  have hay85 : zAt ad (i + 15) (ad (i + 15)) := rfl
                  have hay86 : zAt ad (i + 24) (ad (i + 24)) := rfl
                  have hay87 : zAt ad (i + 25) (ad (i + 25)) := rfl
                  have hay88 : zAt ad (i + 26) (ad (i + 26)) := rfl
                  have hay89 : zAt ad (i + 27) (ad (i + 27)) := rfl
                  have hay90 : zAt ad (i + 28) (ad (i + 28)) := rfl
                  have hay91 : zAt ad (i + 29) (ad (i + 29)) := rfl
                  obtain ⟨⟨hsyy92, htyy92, hnyy92, hpyy92⟩, hlyy92⟩ := okA.at0 hA_y69
                  simp only [Nat.zero_add] at hsyy92 hnyy92 hpyy92
                  have hmn : ∀ s, s < 4 → 0 ≤ r9c (6 + 86 * s) ∧ r9c (6 + 86 * s) ≤ 12 := fun s hs => (hsyy92 s hs).1
                  have h5 : 0 ≤ r9c 5 ∧ r9c 5 ≤ 6 := hpyy92
                  have h13ce : F9c 13 = F 13 := fFc 13 (by decide) (by decide) (by decide) (by decide) (by decide)
                  have h14ce : F9c 14 = F 14 := fFc 14 (by decide) (by decide) (by decide) (by decide) (by decide)
                  have h17ce : F9c 17 = F 17 := fFc 17 (by decide) (by decide) (by decide) (by decide) (by decide)
                  have h23ce : F9c 23 = F 23 := fFc 23 (by decide) (by decide) (by decide) (by decide) (by decide)
                  have h24ce : F9c 24 = F 24 := fFc 24 (by decide) (by decide) (by decide) (by decide) (by decide)
                  refine z_iload_n C 1 dX10_image_145 rfl ?_
                  refine z_iconst (z := 3) C dX10_image_146 rfl ?_
                  refine z_icmp_ge (tgt := 170) C dX10_image_147 (by decide) (by omega) (by omega) (fun hby93 => ?_) (fun hby93 => ?_)
                  · refine z_aload_n C 0 dX10_image_170 rfl ?_
                    refine z_iconst (z := 1) C dX10_image_171 rfl ?_
                    refine z_put (fs' := mF ad (i) (uZ F9c 21 (1))) C (lt_A0 hN rfl) hay70 hg_y69 tyX10 tyX10_ok nmX10 rfl inA_X10 21 (by decide) q_1480 rfl rfl rfl rfl (Nat.le_of_ble_eq_true rfl) rfl dX10_image_172 (fun gy94 egy95 => ?_)
                    have hgy96 := up_s egy95
                    have hgy97 := up_n egy95 ha1_y69 (ne_o (i := i) (c := 1) (d := 0) rfl)
                    have hFy98 : ∀ f, f ≠ 21 → (uZ F9c 21 (1)) f = F9c f := fun f n21 => ((uZ_n _ _ n21).trans rfl)
                    have hey99 : (uZ F9c 21 (1)) 13 = F9c 13 := (fn rfl (by decide))
                    have hey100 : (uZ F9c 21 (1)) 14 = F9c 14 := (fn rfl (by decide))
                    have hey101 : (uZ F9c 21 (1)) 15 = F9c 15 := (fn rfl (by decide))
                    have hey102 : (uZ F9c 21 (1)) 16 = F9c 16 := (fn rfl (by decide))
                    have hey103 : (uZ F9c 21 (1)) 17 = F9c 17 := (fn rfl (by decide))
                    have hey104 : (uZ F9c 21 (1)) 18 = F9c 18 := (fn rfl (by decide))
                    have hey105 : (uZ F9c 21 (1)) 19 = F9c 19 := (fn rfl (by decide))
                    have hey106 : (uZ F9c 21 (1)) 20 = F9c 20 := (fn rfl (by decide))
                    have hey107 : (uZ F9c 21 (1)) 21 = 1 := (uZ_s _ _ _)
                    have hey108 : (uZ F9c 21 (1)) 23 = F9c 23 := (fn rfl (by decide))
                    have hey109 : (uZ F9c 21 (1)) 25 = F9c 25 := (fn rfl (by decide))
                    have hey110 : (uZ F9c 21 (1)) 27 = F9c 27 := (fn rfl (by decide))
                    have hey111 : (uZ F9c 21 (1)) 28 = F9c 28 := (fn rfl (by decide))
                    have hey112 : (uZ F9c 21 (1)) 29 = F9c 29 := (fn rfl (by decide))
                    have hKy113 : okF (uZ F9c 21 (1)) := by unfold okF; omega
                    have hMy114 : okMr cs ad gy94 i (x + 1) (uZ F9c 21 (1)) r9c st op ai fa mu tb tp := okMr.upd fMc hgy96 hKy113 (fun f a => hFy98 f (by omega)) hgy97 (hA_y69.mono (by omega)) (fun j a b => by
                        exact Or.inl (by rw [egy95, va_up_ne _ _ (by omega)]))
                    have hkpy115 : (uZ F9c 21 (1)) 13 = F9c 13 := (fn rfl (by decide))
                    have hkpy116 : (uZ F9c 21 (1)) 14 = F9c 14 := (fn rfl (by decide))
                    have hkpy117 : (uZ F9c 21 (1)) 17 = F9c 17 := (fn rfl (by decide))
                    have hkpy118 : (uZ F9c 21 (1)) 20 = F9c 20 := (fn rfl (by decide))
                    have hkpy119 : (uZ F9c 21 (1)) 21 = 1 := (uZ_s _ _ _)
                    have hkpy120 : (uZ F9c 21 (1)) 23 = F9c 23 := (fn rfl (by decide))
                    have hkpy121 : (uZ F9c 21 (1)) 24 = F9c 24 := (fn rfl (by decide))
                    exact z_vret C hr hlk dX10_image_175 (by decide) (by decide) ⟨rfl, rfl, rfl, ⟨_, _, hMy114, by omega⟩, fun j j1 => by rw [egy95, va_up_ne _ _ (by omega)]; exact f3 j j1⟩
                  · refine z_aload_n C 0 dX10_image_150 rfl ?_
                    refine z_get (v := .ref (ad (i + 11))) C (lt_A0 hN rfl) hay70 hg_y69 rfl inA_X10 10 (by decide) q_1469 rfl rfl dX10_image_151 ?_
                    refine z_iconst (z := 3) C dX10_image_154 rfl ?_
                    refine z_iload_n C 1 dX10_image_155 rfl ?_
                    refine z_iadd C dX10_image_156 ?_
                    refine z_aload_n C 0 dX10_image_157 rfl ?_
                    refine z_get (v := .ref (ad (i + 11))) C (lt_A0 hN rfl) hay70 hg_y69 rfl inA_X10 10 (by decide) q_1469 rfl rfl dX10_image_158 ?_
                    refine z_iload_n C 1 dX10_image_161 rfl ?_
                    refine z_iald C (lt_A (c := 11) hN rfl) hay81 ha11_y69 ((kk).toNat) (by omega) (by omega) (by decide) dX10_image_162 ?_
                    refine z_iast C (lt_A (c := 11) hN rfl) hay81 ha11_y69 ((3 + kk).toNat) (by omega) (by omega) (by decide) dX10_image_163 (fun gy122 egy123 => ?_)
                    have hgy124 := up_s egy123
                    refine z_iinc (z := kk + 1) (lv' := [(1, .int (zI (kk + 1))), (0, .ref (ad i))]) (j := 1) C dX10_image_164 rfl rfl (by decide) rfl ?_
                    refine z_goto (tgt := 145) C dX10_image_167 (by decide) ?_
                    have hgy125 := up_n egy123 hg_y69 (ne_o (i := i) (c := 0) (d := 11) rfl)
                    have hgy126 := up_n egy123 ha1_y69 (ne_o (i := i) (c := 1) (d := 11) rfl)
                    have hMy127 : okMr cs ad gy122 i (x) F9c r9c st op ai fa mu tb tp := okMr.upd fMc hgy125 fMc.2.1 (fun f _ => rfl) hgy126 (hA_y69.mono (by omega)) (fun j a b => by
                        by_cases e0 : j = i + 11
                        · exact Or.inr ⟨11, _, e0, lsP.l (by decide), by rw [e0]; exact hgy124⟩
                        exact Or.inl (by rw [egy123, va_up_ne _ _ (by omega)]))
                    have hFFc : (∀ f, f ≠ 12 → f ≠ 18 → f ≠ 19 → f ≠ 20 → f ≠ 21 → F9c f = F f) := fun f n12 n18 n19 n20 n21 => fFc f n12 n18 n19 n20 n21
                    have hey128 : F9c 13 = F9c 13 := rfl
                    have hey129 : F9c 14 = F9c 14 := rfl
                    have hey130 : F9c 15 = F9c 15 := rfl
                    have hey131 : F9c 16 = F9c 16 := rfl
                    have hey132 : F9c 17 = F9c 17 := rfl
                    have hey133 : F9c 18 = F9c 18 := rfl
                    have hey134 : F9c 19 = F9c 19 := rfl
                    have hey135 : F9c 20 = F9c 20 := rfl
                    refine z_lv (lv' := [(0, .ref (ad i)), (1, .int (zI (kk + 1)))]) [1, 0] rfl ?_
                    exact ih_lp3 _ (by omega) (kk + 1) _ _ gy122 rfl hMy127 hFFc (fun j j1 => by rw [egy123, va_up_ne _ _ (by omega)]; exact f3 j j1) (by omega) (by omega)
              have hMy136 : okMr cs ad g1 i (x) F9b r9b st op ai fa mu tb tp := okMr.upd fMb hg_y44 fMb.2.1 (fun f _ => rfl) ha1_y44 (hA_y44.mono (by omega)) (fun j a b => by
                  exact Or.inl (by rfl))
              have hFFc : (∀ f, f ≠ 12 → f ≠ 18 → f ≠ 19 → f ≠ 20 → f ≠ 21 → F9b f = F f) := fun f n12 n18 n19 n20 n21 => fFb f n12 n18 n19 n20 n21
              have hey137 : F9b 13 = F9b 13 := rfl
              have hey138 : F9b 14 = F9b 14 := rfl
              have hey139 : F9b 15 = F9b 15 := rfl
              have hey140 : F9b 16 = F9b 16 := rfl
              have hey141 : F9b 17 = F9b 17 := rfl
              have hey142 : F9b 18 = F9b 18 := rfl
              have hey143 : F9b 19 = F9b 19 := rfl
              have hey144 : F9b 20 = F9b 20 := rfl
              refine z_lv (lv' := [(0, .ref (ad i)), (1, .int (zI (0)))]) [1, 0] rfl ?_
              exact lp3 _ (0) _ _ g1 rfl hMy136 hFFc (fun j j1 => by exact f3 j j1) (by omega) (by omega)
            · refine z_aload_n C 0 dX10_image_92 rfl ?_
              refine z_get (v := .ref (ad (i + 8))) C (lt_A0 hN rfl) hay45 hg_y44 rfl inA_X10 7 (by decide) q_1466 rfl rfl dX10_image_93 ?_
              refine z_bipush (z := 8) C dX10_image_96 (by decide) ?_
              refine z_iload_n C 1 dX10_image_98 rfl ?_
              refine z_iadd C dX10_image_99 ?_
              refine z_aload_n C 0 dX10_image_100 rfl ?_
              refine z_get (v := .ref (ad (i + 8))) C (lt_A0 hN rfl) hay45 hg_y44 rfl inA_X10 7 (by decide) q_1466 rfl rfl dX10_image_101 ?_
              refine z_iload_n C 1 dX10_image_104 rfl ?_
              refine z_iald C (lt_A (c := 8) hN rfl) hay53 ha8_y44 ((kk).toNat) (by omega) (by omega) (by decide) dX10_image_105 ?_
              have hrfy145 := hns_y44 ((kk).toNat) (by omega)
              refine z_iast C (lt_A (c := 8) hN rfl) hay53 ha8_y44 ((8 + kk).toNat) (by omega) (by omega) (by decide) dX10_image_106 (fun gy146 egy147 => ?_)
              have hgy148 := up_s egy147
              refine z_aload_n C 0 dX10_image_107 rfl ?_
              have hgy149 := up_n egy147 hg_y44 (ne_o (i := i) (c := 0) (d := 8) rfl)
              refine z_get (v := .ref (ad (i + 9))) C (lt_A0 hN rfl) hay45 hgy149 rfl inA_X10 8 (by decide) q_1467 rfl rfl dX10_image_108 ?_
              refine z_bipush (z := 8) C dX10_image_111 (by decide) ?_
              refine z_iload_n C 1 dX10_image_113 rfl ?_
              refine z_iadd C dX10_image_114 ?_
              refine z_aload_n C 0 dX10_image_115 rfl ?_
              refine z_get (v := .ref (ad (i + 9))) C (lt_A0 hN rfl) hay45 hgy149 rfl inA_X10 8 (by decide) q_1467 rfl rfl dX10_image_116 ?_
              refine z_iload_n C 1 dX10_image_119 rfl ?_
              have hgy150 := up_n egy147 ha9_y44 (ne_o (i := i) (c := 9) (d := 8) rfl)
              refine z_iald C (lt_A (c := 9) hN rfl) hay54 hgy150 ((kk).toNat) (by omega) (by omega) (by decide) dX10_image_120 ?_
              refine z_iast C (lt_A (c := 9) hN rfl) hay54 hgy150 ((8 + kk).toNat) (by omega) (by omega) (by decide) dX10_image_121 (fun gy151 egy152 => ?_)
              have hgy153 := up_s egy152
              refine z_aload_n C 0 dX10_image_122 rfl ?_
              have hgy154 := up_n egy152 hgy149 (ne_o (i := i) (c := 0) (d := 9) rfl)
              refine z_get (v := .ref (ad (i + 10))) C (lt_A0 hN rfl) hay45 hgy154 rfl inA_X10 9 (by decide) q_1468 rfl rfl dX10_image_123 ?_
              refine z_bipush (z := 8) C dX10_image_126 (by decide) ?_
              refine z_iload_n C 1 dX10_image_128 rfl ?_
              refine z_iadd C dX10_image_129 ?_
              refine z_aload_n C 0 dX10_image_130 rfl ?_
              refine z_get (v := .ref (ad (i + 10))) C (lt_A0 hN rfl) hay45 hgy154 rfl inA_X10 9 (by decide) q_1468 rfl rfl dX10_image_131 ?_
              refine z_iload_n C 1 dX10_image_134 rfl ?_
              have hgy155 := up_n egy147 ha10_y44 (ne_o (i := i) (c := 10) (d := 8) rfl)
              have hgy156 := up_n egy152 hgy155 (ne_o (i := i) (c := 10) (d := 9) rfl)
              refine z_iald C (lt_A (c := 10) hN rfl) hay55 hgy156 ((kk).toNat) (by omega) (by omega) (by decide) dX10_image_135 ?_
              refine z_iast C (lt_A (c := 10) hN rfl) hay55 hgy156 ((8 + kk).toNat) (by omega) (by omega) (by decide) dX10_image_136 (fun gy157 egy158 => ?_)
              have hgy159 := up_s egy158
              refine z_iinc (z := kk + 1) (lv' := [(1, .int (zI (kk + 1))), (0, .ref (ad i))]) (j := 1) C dX10_image_137 rfl rfl (by decide) rfl ?_
              refine z_goto (tgt := 86) C dX10_image_140 (by decide) ?_
              have hgy160 := up_n egy158 hgy154 (ne_o (i := i) (c := 0) (d := 10) rfl)
              have hgy161 := up_n egy147 ha1_y44 (ne_o (i := i) (c := 1) (d := 8) rfl)
              have hgy162 := up_n egy152 hgy161 (ne_o (i := i) (c := 1) (d := 9) rfl)
              have hgy163 := up_n egy158 hgy162 (ne_o (i := i) (c := 1) (d := 10) rfl)
              have hgy165 := up_n egy152 hgy148 (ne_o (i := i) (c := 8) (d := 9) rfl)
              have hgy166 := up_n egy158 hgy165 (ne_o (i := i) (c := 8) (d := 10) rfl)
              have hgy167 := up_n egy158 hgy153 (ne_o (i := i) (c := 9) (d := 10) rfl)
              have hMy164 : okMr cs ad gy157 i (x) F9b r9b st op ai fa mu tb tp := okMr.upd fMb hgy160 fMb.2.1 (fun f _ => rfl) hgy163 (hA_y44.mono (by omega)) (fun j a b => by
                  by_cases e0 : j = i + 8
                  · exact Or.inr ⟨8, (uZ (ns_y44) ((8 + kk).toNat) (ns_y44 ((kk).toNat))), e0, (Or.inr (Or.inl ⟨rfl, uZ_any hns (by omega)⟩)), by rw [e0]; exact hgy166⟩
                  by_cases e1 : j = i + 9
                  · exact Or.inr ⟨9, _, e1, lsP.l (by decide), by rw [e1]; exact hgy167⟩
                  by_cases e2 : j = i + 10
                  · exact Or.inr ⟨10, _, e2, lsP.l (by decide), by rw [e2]; exact hgy159⟩
                  exact Or.inl (by rw [egy158, va_up_ne _ _ (by omega)]; rw [egy152, va_up_ne _ _ (by omega)]; rw [egy147, va_up_ne _ _ (by omega)]))
              have hFFb : (∀ f, f ≠ 12 → f ≠ 18 → f ≠ 19 → f ≠ 20 → f ≠ 21 → F9b f = F f) := fun f n12 n18 n19 n20 n21 => fFb f n12 n18 n19 n20 n21
              have hey168 : F9b 13 = F9b 13 := rfl
              have hey169 : F9b 14 = F9b 14 := rfl
              have hey170 : F9b 15 = F9b 15 := rfl
              have hey171 : F9b 16 = F9b 16 := rfl
              have hey172 : F9b 17 = F9b 17 := rfl
              have hey173 : F9b 18 = F9b 18 := rfl
              have hey174 : F9b 19 = F9b 19 := rfl
              have hey175 : F9b 20 = F9b 20 := rfl
              refine z_lv (lv' := [(0, .ref (ad i)), (1, .int (zI (kk + 1)))]) [1, 0] rfl ?_
              exact ih_lp2 _ (by omega) (kk + 1) _ _ gy157 rfl hMy164 hFFb (fun j j1 => by rw [egy158, va_up_ne _ _ (by omega)]; rw [egy152, va_up_ne _ _ (by omega)]; rw [egy147, va_up_ne _ _ (by omega)]; exact f3 j j1) (by omega) (by omega)
        have hgy176 := (f3w (i) (ne_o (i := i) (c := 0) (d := 12) rfl)).trans hgy42
        have hgy177 := up_n egy35 hcvy31 (ne_o (i := i) (c := 1) (d := 0) rfl)
        have hgy178 := up_n egy38 hgy177 (ne_o (i := i) (c := 1) (d := 0) rfl)
        have hgy179 := up_n egy41 hgy178 (ne_o (i := i) (c := 1) (d := 0) rfl)
        have hgy180 := (f3w (i + 1) (ne_o (i := i) (c := 1) (d := 12) rfl)).trans hgy179
        have hFy181 : ∀ f, f ≠ 12 → f ≠ 18 → f ≠ 19 → f ≠ 20 → (uZ (uZ (uZ (uZ F 12 (0)) 18 (F 15)) 19 (F 16)) 20 (F 17)) f = F f := fun f n12 n18 n19 n20 => ((uZ_n _ _ n20).trans ((uZ_n _ _ n19).trans ((uZ_n _ _ n18).trans ((uZ_n _ _ n12).trans rfl))))
        have hey182 : (uZ (uZ (uZ (uZ F 12 (0)) 18 (F 15)) 19 (F 16)) 20 (F 17)) 13 = F 13 := (fn (fn (fn (fn rfl (by decide)) (by decide)) (by decide)) (by decide))
        have hey183 : (uZ (uZ (uZ (uZ F 12 (0)) 18 (F 15)) 19 (F 16)) 20 (F 17)) 14 = F 14 := (fn (fn (fn (fn rfl (by decide)) (by decide)) (by decide)) (by decide))
        have hey184 : (uZ (uZ (uZ (uZ F 12 (0)) 18 (F 15)) 19 (F 16)) 20 (F 17)) 15 = F 15 := (fn (fn (fn (fn rfl (by decide)) (by decide)) (by decide)) (by decide))
        have hey185 : (uZ (uZ (uZ (uZ F 12 (0)) 18 (F 15)) 19 (F 16)) 20 (F 17)) 16 = F 16 := (fn (fn (fn (fn rfl (by decide)) (by decide)) (by decide)) (by decide))
        have hey186 : (uZ (uZ (uZ (uZ F 12 (0)) 18 (F 15)) 19 (F 16)) 20 (F 17)) 17 = F 17 := (fn (fn (fn (fn rfl (by decide)) (by decide)) (by decide)) (by decide))
        have hey187 : (uZ (uZ (uZ (uZ F 12 (0)) 18 (F 15)) 19 (F 16)) 20 (F 17)) 18 = F 15 := (fn (fn (uZ_s _ _ _) (by decide)) (by decide))
        have hey188 : (uZ (uZ (uZ (uZ F 12 (0)) 18 (F 15)) 19 (F 16)) 20 (F 17)) 19 = F 16 := (fn (uZ_s _ _ _) (by decide))
        have hey189 : (uZ (uZ (uZ (uZ F 12 (0)) 18 (F 15)) 19 (F 16)) 20 (F 17)) 20 = F 17 := (uZ_s _ _ _)
        have hey190 : (uZ (uZ (uZ (uZ F 12 (0)) 18 (F 15)) 19 (F 16)) 20 (F 17)) 21 = F 21 := (fn (fn (fn (fn rfl (by decide)) (by decide)) (by decide)) (by decide))
        have hey191 : (uZ (uZ (uZ (uZ F 12 (0)) 18 (F 15)) 19 (F 16)) 20 (F 17)) 23 = F 23 := (fn (fn (fn (fn rfl (by decide)) (by decide)) (by decide)) (by decide))
        have hey192 : (uZ (uZ (uZ (uZ F 12 (0)) 18 (F 15)) 19 (F 16)) 20 (F 17)) 25 = F 25 := (fn (fn (fn (fn rfl (by decide)) (by decide)) (by decide)) (by decide))
        have hey193 : (uZ (uZ (uZ (uZ F 12 (0)) 18 (F 15)) 19 (F 16)) 20 (F 17)) 27 = F 27 := (fn (fn (fn (fn rfl (by decide)) (by decide)) (by decide)) (by decide))
        have hey194 : (uZ (uZ (uZ (uZ F 12 (0)) 18 (F 15)) 19 (F 16)) 20 (F 17)) 28 = F 28 := (fn (fn (fn (fn rfl (by decide)) (by decide)) (by decide)) (by decide))
        have hey195 : (uZ (uZ (uZ (uZ F 12 (0)) 18 (F 15)) 19 (F 16)) 20 (F 17)) 29 = F 29 := (fn (fn (fn (fn rfl (by decide)) (by decide)) (by decide)) (by decide))
        have hKy196 : okF (uZ (uZ (uZ (uZ F 12 (0)) 18 (F 15)) 19 (F 16)) 20 (F 17)) := by unfold okF; omega
        have hMy197 : okMr cs ad g1 i (x) (uZ (uZ (uZ (uZ F 12 (0)) 18 (F 15)) 19 (F 16)) 20 (F 17)) rvy31 st op ai fa mu tb tp := okMr.upd hM hgy176 hKy196 (fun f a => hFy181 f (by omega) (by omega) (by omega) (by omega)) hgy180 (hAy32.mono (by omega)) (fun j a b => by
            by_cases e0 : j = i + 12
            · exact Or.inr ⟨12, (p9), e0, (Or.inr (Or.inr ⟨rfl, hP10⟩)), by rw [e0]; exact f2⟩
            exact Or.inl (by rw [f3w _ (by omega)]; rw [egy41, va_up_ne _ _ (by omega)]; rw [egy38, va_up_ne _ _ (by omega)]; rw [egy35, va_up_ne _ _ (by omega)]; rw [hfvy31 _ (by omega)]; rw [hfvy28 _ (by omega)]; rw [egy25, va_up_ne _ _ (by omega)]))
        have hFy198 : ∀ f, f ≠ 12 → f ≠ 18 → f ≠ 19 → f ≠ 20 → (uZ (uZ (uZ (uZ F 12 (0)) 18 (F 15)) 19 (F 16)) 20 (F 17)) f = F f := fun f n12 n18 n19 n20 => ((uZ_n _ _ n20).trans ((uZ_n _ _ n19).trans ((uZ_n _ _ n18).trans ((uZ_n _ _ n12).trans rfl))))
        have hFFb : (∀ f, f ≠ 12 → f ≠ 18 → f ≠ 19 → f ≠ 20 → f ≠ 21 → (uZ (uZ (uZ (uZ F 12 (0)) 18 (F 15)) 19 (F 16)) 20 (F 17)) f = F f) := fun f n12 n18 n19 n20 n21 => (hFy198 f n12 n18 n19 n20)
        have hey199 : (uZ (uZ (uZ (uZ F 12 (0)) 18 (F 15)) 19 (F 16)) 20 (F 17)) 13 = F 13 := (fn (fn (fn (fn rfl (by decide)) (by decide)) (by decide)) (by decide))
        have hey200 : (uZ (uZ (uZ (uZ F 12 (0)) 18 (F 15)) 19 (F 16)) 20 (F 17)) 14 = F 14 := (fn (fn (fn (fn rfl (by decide)) (by decide)) (by decide)) (by decide))
        have hey201 : (uZ (uZ (uZ (uZ F 12 (0)) 18 (F 15)) 19 (F 16)) 20 (F 17)) 15 = F 15 := (fn (fn (fn (fn rfl (by decide)) (by decide)) (by decide)) (by decide))
        have hey202 : (uZ (uZ (uZ (uZ F 12 (0)) 18 (F 15)) 19 (F 16)) 20 (F 17)) 16 = F 16 := (fn (fn (fn (fn rfl (by decide)) (by decide)) (by decide)) (by decide))
        have hey203 : (uZ (uZ (uZ (uZ F 12 (0)) 18 (F 15)) 19 (F 16)) 20 (F 17)) 17 = F 17 := (fn (fn (fn (fn rfl (by decide)) (by decide)) (by decide)) (by decide))
        have hey204 : (uZ (uZ (uZ (uZ F 12 (0)) 18 (F 15)) 19 (F 16)) 20 (F 17)) 18 = F 15 := (fn (fn (uZ_s _ _ _) (by decide)) (by decide))
        have hey205 : (uZ (uZ (uZ (uZ F 12 (0)) 18 (F 15)) 19 (F 16)) 20 (F 17)) 19 = F 16 := (fn (uZ_s _ _ _) (by decide))
        have hey206 : (uZ (uZ (uZ (uZ F 12 (0)) 18 (F 15)) 19 (F 16)) 20 (F 17)) 20 = F 17 := (uZ_s _ _ _)
        refine z_lv (lv' := [(0, .ref (ad i)), (1, .int (zI (0)))]) [1, 0] rfl ?_
        exact lp2 _ (0) _ _ g1 rfl hMy197 hFFb (fun j j1 => by rw [f3w _ (by omega)]; rw [egy41, va_up_ne _ _ (by omega)]; rw [egy38, va_up_ne _ _ (by omega)]; rw [egy35, va_up_ne _ _ (by omega)]; rw [hfvy31 _ (by omega)]; rw [hfvy28 _ (by omega)]; rw [egy25, va_up_ne _ _ (by omega)]) (by omega) (by omega)
      · refine z_aload_n C 0 dX10_image_62 rfl ?_
        have hgy207 := (f3w (i) (ne_o (i := i) (c := 0) (d := 12) rfl)).trans hgy42
        refine z_get (v := .ref (ad (i + 12))) C (lt_A0 hN rfl) hay1 hgy207 rfl inA_X10 11 (by decide) q_1470 rfl rfl dX10_image_63 ?_
        refine z_sipush (z := 540) C dX10_image_66 (by decide) ?_
        refine z_iload_n C 1 dX10_image_69 rfl ?_
        refine z_iadd C dX10_image_70 ?_
        refine z_aload_n C 0 dX10_image_71 rfl ?_
        refine z_get (v := .ref (ad (i + 12))) C (lt_A0 hN rfl) hay1 hgy207 rfl inA_X10 11 (by decide) q_1470 rfl rfl dX10_image_72 ?_
        refine z_iload_n C 1 dX10_image_75 rfl ?_
        refine z_iald C (lt_A (c := 12) hN rfl) hay13 f2 (nk) (by omega) (by omega) (by decide) dX10_image_76 ?_
        refine z_iast C (lt_A (c := 12) hN rfl) hay13 f2 (540 + nk) (by omega) (by omega) (by decide) dX10_image_77 (fun gy208 egy209 => ?_)
        have hgy210 := up_s egy209
        obtain ⟨ry211, hvy212⟩ : ∃ rZ9 : Nat → Int, rZ9 = uZ p9 (540 + nk) (p9 (nk)) := ⟨_, rfl⟩
        rw [← hvy212] at hgy210
        refine z_iinc (z := kk + 1) (lv' := [(1, .int (zI (kk + 1))), (0, .ref (ad i))]) (j := 1) C dX10_image_78 rfl rfl (by decide) rfl ?_
        refine z_goto (tgt := 55) C dX10_image_81 (by decide) ?_
        have hfry213 : ∀ j, j ≠ 540 + nk → ry211 j = p9 j := fun j n0 => (congrFun hvy212 _).trans ((uZ_n _ _ n0).trans (rfl))
        have hwy214 : ry211 (540 + nk) = p9 (nk) := (congrFun hvy212 _).trans (uZ_s _ _ _)
        have hsrc : p9 nk = pi nk := by have h9 := fA nk (by omega); rw [Nat.zero_add] at h9; exact h9
        have hfk9 : ∀ k : Nat, (k : Int) < kk + 1 → ry211 (540 + k) = pi (0 + k) := by
          intro k a
          by_cases e : k = nk
          · rw [e, Nat.zero_add]; have h9 : ry211 (540 + nk) = pi (nk) := by omega
            exact h9
          · rw [hfry213 _ (by omega)]; exact fk k (by omega)
        refine z_lv (lv' := [(0, .ref (ad i)), (1, .int (zI (kk + 1)))]) [1, 0] rfl ?_
        exact ih_lpw _ (by omega) (kk + 1) ry211 gy208 rfl hgy210 (fun j j1 => by rw [egy209, va_up_ne _ _ (by omega)]; exact f3w j j1) (fun m hm => (hfry213 _ (by omega)).trans (fA m hm)) hfk9 (by omega)
  have hgy215 := up_n egy25 ha12 (ne_o (i := i) (c := 12) (d := 0) rfl)
  have hgy216 := (hfvy28 (i + 12) (ne_o (i := i) (c := 12) (d := 1) rfl)).trans hgy215
  have hgy217 := (hfvy31 (i + 12) (ne_o (i := i) (c := 12) (d := 1) rfl)).trans hgy216
  have hgy218 := up_n egy35 hgy217 (ne_o (i := i) (c := 12) (d := 0) rfl)
  have hgy219 := up_n egy38 hgy218 (ne_o (i := i) (c := 12) (d := 0) rfl)
  have hgy220 := up_n egy41 hgy219 (ne_o (i := i) (c := 12) (d := 0) rfl)
  refine z_lv (lv' := [(0, .ref (ad i)), (1, .int (zI (0)))]) [1, 0] rfl ?_
  exact lpw _ (0) pi gy40 rfl hgy220 (fun j _ => rfl) (fun m _ => rfl) (fun k a => absurd a (by omega)) (by omega)

set_option maxRecDepth 100000 in
set_option maxHeartbeats 4000000 in
theorem c_X10_restore (l : Launch) (D : va_G) (A : Nat → Prop) (cs : Nat → ClassId) (tt : Nat) (N : Nat) (ad : Nat → Nat) (g : Nat → va_E) (i : Nat) (hN : i + 30 ≤ N) (x : Int) (hx : 0 ≤ x ∧ x ≤ 512) (F r : Nat → Int) {st op ai fa mu tb tp : Nat → Int} (hM : okMr cs ad g i x F r st op ai fa mu tb tp) : zM l yX10_restore cX10_restore 2 (some .boolean) ({ frames := 2, cells := 0, slots := 0, locals := 120 } : Room) D A cs tt N ad g [.ref (ad i)] (rI0 N ad fun q g' => (0 ≤ q ∧ q ≤ 1) ∧ (∃ F' r' : Nat → Int, okMr cs ad g' i (x + 1) F' r' st op ai fa mu tb tp ∧ ((q = 0 ∧ F 21 = 0 ∧ F' 17 = F 17) ∨ (q = 1 ∧ F 21 = 1 ∧ F' 17 = F 20)) ∧ (F' 13 = F 13 ∧ F' 14 = F 14 ∧ F' 17 = F' 17 ∧ F' 20 = F 20 ∧ F' 21 = F 21 ∧ F' 23 = F 23 ∧ F' 24 = F 24)) ∧ ∀ j, j < i ∨ i + 30 ≤ j → g' j = g j) := by
  obtain ⟨hg, ⟨⟨e13, e14, e25, e27, e29⟩, k15, k16, k17, k18, k19, k20, k23, k21⟩, hRD, hTx, hA, ns, nh, nd, rf, pi, te, ki, li, ok1, ok2, fo, dd, dps, ⟨ha1, ha2, ha3, ha4, ha5, ha6, ha7, ha8, ha9, ha10, ha11, ha12, ha13, ha14, ha15, ha24, ha25, ha26, ha27, ha28, ha29⟩, hEv, hPt, hns, htp⟩ := id hM
  obtain ⟨-, hop, hai, hfa, hT, hT1⟩ := id hEv
  have hay1 : zAt ad (i) (ad i) := rfl
  have hay2 : zAt ad (i + 1) (ad (i + 1)) := rfl
  have hay3 : zAt ad (i + 2) (ad (i + 2)) := rfl
  have hay4 : zAt ad (i + 3) (ad (i + 3)) := rfl
  have hay5 : zAt ad (i + 4) (ad (i + 4)) := rfl
  have hay6 : zAt ad (i + 5) (ad (i + 5)) := rfl
  have hay7 : zAt ad (i + 6) (ad (i + 6)) := rfl
  have hay8 : zAt ad (i + 7) (ad (i + 7)) := rfl
  have hay9 : zAt ad (i + 8) (ad (i + 8)) := rfl
  have hay10 : zAt ad (i + 9) (ad (i + 9)) := rfl
  have hay11 : zAt ad (i + 10) (ad (i + 10)) := rfl
  have hay12 : zAt ad (i + 11) (ad (i + 11)) := rfl
  have hay13 : zAt ad (i + 12) (ad (i + 12)) := rfl
  have hay14 : zAt ad (i + 13) (ad (i + 13)) := rfl
  have hay15 : zAt ad (i + 14) (ad (i + 14)) := rfl
  have hay16 : zAt ad (i + 15) (ad (i + 15)) := rfl
  have hay17 : zAt ad (i + 24) (ad (i + 24)) := rfl
  have hay18 : zAt ad (i + 25) (ad (i + 25)) := rfl
  have hay19 : zAt ad (i + 26) (ad (i + 26)) := rfl
  have hay20 : zAt ad (i + 27) (ad (i + 27)) := rfl
  have hay21 : zAt ad (i + 28) (ad (i + 28)) := rfl
  have hay22 : zAt ad (i + 29) (ad (i + 29)) := rfl
  obtain ⟨⟨hsyy23, htyy23, hnyy23, hpyy23⟩, hlyy23⟩ := okA.at0 hA
  simp only [Nat.zero_add] at hsyy23 hnyy23 hpyy23
  have hmn : ∀ s, s < 4 → 0 ≤ r (6 + 86 * s) ∧ r (6 + 86 * s) ≤ 12 := fun s hs => (hsyy23 s hs).1
  have h5 : 0 ≤ r 5 ∧ r 5 ≤ 6 := hpyy23
  refine z_of (by decide) (Nat.le_of_ble_eq_true rfl) ?_
  intro pZ eZ sZ mZ below meth cZ C hr hlk hnm
  refine z_lv (lv' := [(0, .ref (ad i))]) [0] rfl ?_
  refine z_aload_n C 0 dX10_restore_0 rfl ?_
  refine z_iconst (z := 0) C dX10_restore_1 rfl ?_
  refine z_put (fs' := mF ad (i) (uZ F 12 (0))) C (lt_A0 hN rfl) hay1 hg tyX10 tyX10_ok nmX10 rfl inA_X10 12 (by decide) q_1471 rfl rfl rfl rfl (Nat.le_of_ble_eq_true rfl) rfl dX10_restore_2 (fun gy24 egy25 => ?_)
  have hgy26 := up_s egy25
  refine z_aload_n C 0 dX10_restore_5 rfl ?_
  refine z_get (v := .int (zI (F 21))) C (lt_A0 hN rfl) hay1 hgy26 rfl inA_X10 21 (by decide) q_1480 rfl (fv (F := (uZ F 12 (0))) (f := 21) (fn rfl (by decide))) dX10_restore_6 ?_
  refine z_if_ne (tgt := 14) C dX10_restore_9 (by decide) (by omega) (fun hby27 => ?_) (fun hby27 => ?_)
  · refine z_aload_n C 0 dX10_restore_14 rfl ?_
    refine z_sipush (z := 14700) C dX10_restore_15 (by decide) ?_
    refine z_iconst (z := 0) C dX10_restore_18 rfl ?_
    refine z_sipush (z := 350) C dX10_restore_19 (by decide) ?_
    have hgy28 := up_n egy25 ha1 (ne_o (i := i) (c := 1) (d := 0) rfl)
    refine z_cV (As := [.int (zI (14700)), .int (zI (0)), .int (zI (350))]) (rest := []) (ci := 12) C (c_X10_copies l D A cs tt N ad _ i hN _ hgy26 _ hgy28 14700 0 350 (by omega) (by omega) (by omega)) (lt_A0 hN rfl) hay1 hgy26 rfl rfl mv_yX10_copies q_1881 hd_yX10_copies (by decide) (Nat.le_of_ble_eq_true rfl) (by decide) dX10_restore_22 rfl (kV0 fun gvy29 hvy29 => ?_)
    obtain ⟨⟨rvy29, hcvy29, hevy29, hovy29⟩, hfvy29⟩ := hvy29
    have hAy30 : okA rvy29 (x) := okA.copy (a := 42) (b := 0) (m := 1) hA (by omega) (by omega) (by omega) (fun k hk => hevy29 k (by omega)) (fun j hj => hovy29 j (by omega))
    refine z_aload_n C 0 dX10_restore_25 rfl ?_
    refine z_sipush (z := 15050) C dX10_restore_26 (by decide) ?_
    refine z_sipush (z := 700) C dX10_restore_29 (by decide) ?_
    refine z_sipush (z := 14000) C dX10_restore_32 (by decide) ?_
    have hgy31 := (hfvy29 (i) (ne_o (i := i) (c := 0) (d := 1) rfl)).trans hgy26
    refine z_cV (As := [.int (zI (15050)), .int (zI (700)), .int (zI (14000))]) (rest := []) (ci := 12) C (c_X10_copies l D A cs tt N ad _ i hN _ hgy31 _ hcvy29 15050 700 14000 (by omega) (by omega) (by omega)) (lt_A0 hN rfl) hay1 hgy31 rfl rfl mv_yX10_copies q_1881 hd_yX10_copies (by decide) (Nat.le_of_ble_eq_true rfl) (by decide) dX10_restore_35 rfl (kV0 fun gvy32 hvy32 => ?_)
    obtain ⟨⟨rvy32, hcvy32, hevy32, hovy32⟩, hfvy32⟩ := hvy32
    have hAy33 : okA rvy32 (x) := okA.copy (a := 43) (b := 2) (m := 40) hAy30 (by omega) (by omega) (by omega) (fun k hk => hevy32 k (by omega)) (fun j hj => hovy32 j (by omega))
    refine z_aload_n C 0 dX10_restore_38 rfl ?_
    refine z_aload_n C 0 dX10_restore_39 rfl ?_
    have hgy34 := (hfvy32 (i) (ne_o (i := i) (c := 0) (d := 1) rfl)).trans hgy31
    refine z_get (v := .int (zI (F 18))) C (lt_A0 hN rfl) hay1 hgy34 rfl inA_X10 18 (by decide) q_1477 rfl (fv (F := (uZ F 12 (0))) (f := 18) (fn rfl (by decide))) dX10_restore_40 ?_
    refine z_put (fs' := mF ad (i) (uZ (uZ F 12 (0)) 15 (F 18))) C (lt_A0 hN rfl) hay1 hgy34 tyX10 tyX10_ok nmX10 rfl inA_X10 15 (by decide) q_1474 rfl rfl rfl rfl (Nat.le_of_ble_eq_true rfl) rfl dX10_restore_43 (fun gy35 egy36 => ?_)
    have hgy37 := up_s egy36
    refine z_aload_n C 0 dX10_restore_46 rfl ?_
    refine z_aload_n C 0 dX10_restore_47 rfl ?_
    refine z_get (v := .int (zI (F 19))) C (lt_A0 hN rfl) hay1 hgy37 rfl inA_X10 19 (by decide) q_1478 rfl (fv (F := (uZ (uZ F 12 (0)) 15 (F 18))) (f := 19) (fn (fn rfl (by decide)) (by decide))) dX10_restore_48 ?_
    refine z_put (fs' := mF ad (i) (uZ (uZ (uZ F 12 (0)) 15 (F 18)) 16 (F 19))) C (lt_A0 hN rfl) hay1 hgy37 tyX10 tyX10_ok nmX10 rfl inA_X10 16 (by decide) q_1475 rfl rfl rfl rfl (Nat.le_of_ble_eq_true rfl) rfl dX10_restore_51 (fun gy38 egy39 => ?_)
    have hgy40 := up_s egy39
    refine z_aload_n C 0 dX10_restore_54 rfl ?_
    refine z_aload_n C 0 dX10_restore_55 rfl ?_
    refine z_get (v := .int (zI (F 20))) C (lt_A0 hN rfl) hay1 hgy40 rfl inA_X10 20 (by decide) q_1479 rfl (fv (F := (uZ (uZ (uZ F 12 (0)) 15 (F 18)) 16 (F 19))) (f := 20) (fn (fn (fn rfl (by decide)) (by decide)) (by decide))) dX10_restore_56 ?_
    refine z_put (fs' := mF ad (i) (uZ (uZ (uZ (uZ F 12 (0)) 15 (F 18)) 16 (F 19)) 17 (F 20))) C (lt_A0 hN rfl) hay1 hgy40 tyX10 tyX10_ok nmX10 rfl inA_X10 17 (by decide) q_1476 rfl rfl rfl rfl (Nat.le_of_ble_eq_true rfl) rfl dX10_restore_59 (fun gy41 egy42 => ?_)
    have hgy43 := up_s egy42
    refine z_iconst (z := 0) C dX10_restore_62 rfl ?_
    refine z_istore_n (lv' := [(1, .int (zI (0))), (0, .ref (ad i))]) C dX10_restore_63 rfl (by decide) rfl ?_
    have lpw : ∀ (n9 : Nat) (kk : Int) (p9 : Nat → Int) (g1 : Nat → va_E), (541 - kk).toNat = n9 → (g1 (i + 12) = iA cs 1080 p9) → (∀ j, j ≠ i + 12 → g1 j = gy41 j) → (∀ m, m < 540 → p9 (540 + m) = pi (540 + m)) → (∀ k : Nat, (k : Int) < kk → p9 (0 + k) = pi (540 + k)) → (0 ≤ kk ∧ kk ≤ 540) → zV pZ l eZ ({ frames := 2, cells := 0, slots := 0, locals := 120 } : Room) sZ mZ ([.ref (ad i)] : List Value).toArray below meth cZ (MQ below (zPost D A (rI0 N ad fun q g' => (0 ≤ q ∧ q ≤ 1) ∧ (∃ F' r' : Nat → Int, okMr cs ad g' i (x + 1) F' r' st op ai fa mu tb tp ∧ ((q = 0 ∧ F 21 = 0 ∧ F' 17 = F 17) ∨ (q = 1 ∧ F 21 = 1 ∧ F' 17 = F 20)) ∧ (F' 13 = F 13 ∧ F' 14 = F 14 ∧ F' 17 = F' 17 ∧ F' 20 = F 20 ∧ F' 21 = F 21 ∧ F' 23 = F 23 ∧ F' 24 = F 24)) ∧ ∀ j, j < i ∨ i + 30 ≤ j → g' j = g j)) ([.ref (ad i)] : List Value).toArray sZ ({ frames := 2, cells := 0, slots := 0, locals := 120 } : Room).cells ({ frames := 2, cells := 0, slots := 0, locals := 120 } : Room).slots A) D A 2 (N) ad g1 (0) (0) 64 [(0, .ref (ad i)), (1, .int (zI (kk)))] [] := by
      intro n9
      induction n9 using Nat.strongRecOn with
      | ind n9 ih_lpw =>
        intro kk p9 g1 hm9 f2 f3w fA fk hvk
        obtain ⟨nk, hnk⟩ : ∃ n9 : Nat, kk = (n9 : Int) := ⟨kk.toNat, by omega⟩
        have hP9 : kk = 540 → okPt p9 := fun e => okPt.cpy (a := 6) (b := 0) hPt (by omega) (fun m hm => fk m (by omega)) (fun m hm => fA m hm)
        refine z_iload_n C 1 dX10_restore_64 rfl ?_
        refine z_sipush (z := 540) C dX10_restore_65 (by decide) ?_
        refine z_icmp_ge (tgt := 93) C dX10_restore_68 (by decide) (by omega) (by omega) (fun hby44 => ?_) (fun hby44 => ?_)
        · refine z_iconst (z := 0) C dX10_restore_93 rfl ?_
          refine z_istore_n (lv' := [(1, .int (zI (0))), (0, .ref (ad i))]) C dX10_restore_94 rfl (by decide) rfl ?_
          have hP10 := hP9 (by omega)
          have lp2 : ∀ (n9 : Nat) (kk : Int) (F9b : Nat → Int) (r9b : Nat → Int) (g1 : Nat → va_E), (9 - kk).toNat = n9 → (okMr cs ad g1 i x F9b r9b st op ai fa mu tb tp) → ((∀ f, f ≠ 12 → f ≠ 15 → f ≠ 16 → f ≠ 17 → F9b f = F f)) → (∀ j, j < i ∨ i + 30 ≤ j → g1 j = g j) → (0 ≤ kk ∧ kk ≤ 8) → (F9b 17 = F 20 ∧ F 21 = 1) → zV pZ l eZ ({ frames := 2, cells := 0, slots := 0, locals := 120 } : Room) sZ mZ ([.ref (ad i)] : List Value).toArray below meth cZ (MQ below (zPost D A (rI0 N ad fun q g' => (0 ≤ q ∧ q ≤ 1) ∧ (∃ F' r' : Nat → Int, okMr cs ad g' i (x + 1) F' r' st op ai fa mu tb tp ∧ ((q = 0 ∧ F 21 = 0 ∧ F' 17 = F 17) ∨ (q = 1 ∧ F 21 = 1 ∧ F' 17 = F 20)) ∧ (F' 13 = F 13 ∧ F' 14 = F 14 ∧ F' 17 = F' 17 ∧ F' 20 = F 20 ∧ F' 21 = F 21 ∧ F' 23 = F 23 ∧ F' 24 = F 24)) ∧ ∀ j, j < i ∨ i + 30 ≤ j → g' j = g j)) ([.ref (ad i)] : List Value).toArray sZ ({ frames := 2, cells := 0, slots := 0, locals := 120 } : Room).cells ({ frames := 2, cells := 0, slots := 0, locals := 120 } : Room).slots A) D A 2 (N) ad g1 (0) (0) 95 [(0, .ref (ad i)), (1, .int (zI (kk)))] [] := by
            intro n9
            induction n9 using Nat.strongRecOn with
            | ind n9 ih_lp2 =>
              intro kk F9b r9b g1 hm9 fMb fFb f3 hvlp20 hvlp21
              obtain ⟨hg_y45, ⟨⟨e13_y45, e14_y45, e25_y45, e27_y45, e29_y45⟩, k15_y45, k16_y45, k17_y45, k18_y45, k19_y45, k20_y45, k23_y45, k21_y45⟩, hRD_y45, hTx_y45, hA_y45, ns_y45, nh_y45, nd_y45, rf_y45, pi_y45, te_y45, ki_y45, li_y45, ok1_y45, ok2_y45, fo_y45, dd_y45, dps_y45, ⟨ha1_y45, ha2_y45, ha3_y45, ha4_y45, ha5_y45, ha6_y45, ha7_y45, ha8_y45, ha9_y45, ha10_y45, ha11_y45, ha12_y45, ha13_y45, ha14_y45, ha15_y45, ha24_y45, ha25_y45, ha26_y45, ha27_y45, ha28_y45, ha29_y45⟩, hEv_y45, hPt_y45, hns_y45, htp_y45⟩ := id fMb
              obtain ⟨-, hop_y45, hai_y45, hfa_y45, hT_y45, hT1_y45⟩ := id hEv_y45
              have e14 := e14_y45
              have e25 := e25_y45
              have e27 := e27_y45
              have e29 := e29_y45
              have hop := hop_y45
              have hai := hai_y45
              have hfa := hfa_y45
              have hT := hT_y45
              have hT1 := hT1_y45
              have hEv := hEv_y45
              have htp := htp_y45
              have hns := hns_y45
              have hPt := hPt_y45
              have hay46 : zAt ad (i) (ad i) := rfl
              have hay47 : zAt ad (i + 1) (ad (i + 1)) := rfl
              have hay48 : zAt ad (i + 2) (ad (i + 2)) := rfl
              have hay49 : zAt ad (i + 3) (ad (i + 3)) := rfl
              have hay50 : zAt ad (i + 4) (ad (i + 4)) := rfl
              have hay51 : zAt ad (i + 5) (ad (i + 5)) := rfl
              have hay52 : zAt ad (i + 6) (ad (i + 6)) := rfl
              have hay53 : zAt ad (i + 7) (ad (i + 7)) := rfl
              have hay54 : zAt ad (i + 8) (ad (i + 8)) := rfl
              have hay55 : zAt ad (i + 9) (ad (i + 9)) := rfl
              have hay56 : zAt ad (i + 10) (ad (i + 10)) := rfl
              have hay57 : zAt ad (i + 11) (ad (i + 11)) := rfl
              have hay58 : zAt ad (i + 12) (ad (i + 12)) := rfl
              have hay59 : zAt ad (i + 13) (ad (i + 13)) := rfl
              have hay60 : zAt ad (i + 14) (ad (i + 14)) := rfl
              have hay61 : zAt ad (i + 15) (ad (i + 15)) := rfl
              have hay62 : zAt ad (i + 24) (ad (i + 24)) := rfl
              have hay63 : zAt ad (i + 25) (ad (i + 25)) := rfl
              have hay64 : zAt ad (i + 26) (ad (i + 26)) := rfl
              have hay65 : zAt ad (i + 27) (ad (i + 27)) := rfl
              have hay66 : zAt ad (i + 28) (ad (i + 28)) := rfl
              have hay67 : zAt ad (i + 29) (ad (i + 29)) := rfl
              obtain ⟨⟨hsyy68, htyy68, hnyy68, hpyy68⟩, hlyy68⟩ := okA.at0 hA_y45
              simp only [Nat.zero_add] at hsyy68 hnyy68 hpyy68
              have hmn : ∀ s, s < 4 → 0 ≤ r9b (6 + 86 * s) ∧ r9b (6 + 86 * s) ≤ 12 := fun s hs => (hsyy68 s hs).1
              have h5 : 0 ≤ r9b 5 ∧ r9b 5 ≤ 6 := hpyy68
              have h13be : F9b 13 = F 13 := fFb 13 (by decide) (by decide) (by decide) (by decide)
              have h14be : F9b 14 = F 14 := fFb 14 (by decide) (by decide) (by decide) (by decide)
              have h20be : F9b 20 = F 20 := fFb 20 (by decide) (by decide) (by decide) (by decide)
              have h21be : F9b 21 = F 21 := fFb 21 (by decide) (by decide) (by decide) (by decide)
              have h23be : F9b 23 = F 23 := fFb 23 (by decide) (by decide) (by decide) (by decide)
              have h24be : F9b 24 = F 24 := fFb 24 (by decide) (by decide) (by decide) (by decide)
              refine z_iload_n C 1 dX10_restore_95 rfl ?_
              refine z_bipush (z := 8) C dX10_restore_96 (by decide) ?_
              refine z_icmp_ge (tgt := 152) C dX10_restore_98 (by decide) (by omega) (by omega) (fun hby69 => ?_) (fun hby69 => ?_)
              · refine z_iconst (z := 0) C dX10_restore_152 rfl ?_
                refine z_istore_n (lv' := [(1, .int (zI (0))), (0, .ref (ad i))]) C dX10_restore_153 rfl (by decide) rfl ?_
                have lp3 : ∀ (n9 : Nat) (kk : Int) (F9c : Nat → Int) (r9c : Nat → Int) (g1 : Nat → va_E), (4 - kk).toNat = n9 → (okMr cs ad g1 i x F9c r9c st op ai fa mu tb tp) → ((∀ f, f ≠ 12 → f ≠ 15 → f ≠ 16 → f ≠ 17 → F9c f = F f)) → (∀ j, j < i ∨ i + 30 ≤ j → g1 j = g j) → (0 ≤ kk ∧ kk ≤ 3) → (F9c 17 = F 20 ∧ F 21 = 1) → zV pZ l eZ ({ frames := 2, cells := 0, slots := 0, locals := 120 } : Room) sZ mZ ([.ref (ad i)] : List Value).toArray below meth cZ (MQ below (zPost D A (rI0 N ad fun q g' => (0 ≤ q ∧ q ≤ 1) ∧ (∃ F' r' : Nat → Int, okMr cs ad g' i (x + 1) F' r' st op ai fa mu tb tp ∧ ((q = 0 ∧ F 21 = 0 ∧ F' 17 = F 17) ∨ (q = 1 ∧ F 21 = 1 ∧ F' 17 = F 20)) ∧ (F' 13 = F 13 ∧ F' 14 = F 14 ∧ F' 17 = F' 17 ∧ F' 20 = F 20 ∧ F' 21 = F 21 ∧ F' 23 = F 23 ∧ F' 24 = F 24)) ∧ ∀ j, j < i ∨ i + 30 ≤ j → g' j = g j)) ([.ref (ad i)] : List Value).toArray sZ ({ frames := 2, cells := 0, slots := 0, locals := 120 } : Room).cells ({ frames := 2, cells := 0, slots := 0, locals := 120 } : Room).slots A) D A 2 (N) ad g1 (0) (0) 154 [(0, .ref (ad i)), (1, .int (zI (kk)))] [] := by
                  intro n9
                  induction n9 using Nat.strongRecOn with
                  | ind n9 ih_lp3 =>
                    intro kk F9c r9c g1 hm9 fMc fFc f3 hvlp30 hvlp31
                    obtain ⟨hg_y70, ⟨⟨e13_y70, e14_y70, e25_y70, e27_y70, e29_y70⟩, k15_y70, k16_y70, k17_y70, k18_y70, k19_y70, k20_y70, k23_y70, k21_y70⟩, hRD_y70, hTx_y70, hA_y70, ns_y70, nh_y70, nd_y70, rf_y70, pi_y70, te_y70, ki_y70, li_y70, ok1_y70, ok2_y70, fo_y70, dd_y70, dps_y70, ⟨ha1_y70, ha2_y70, ha3_y70, ha4_y70, ha5_y70, ha6_y70, ha7_y70, ha8_y70, ha9_y70, ha10_y70, ha11_y70, ha12_y70, ha13_y70, ha14_y70, ha15_y70, ha24_y70, ha25_y70, ha26_y70, ha27_y70, ha28_y70, ha29_y70⟩, hEv_y70, hPt_y70, hns_y70, htp_y70⟩ := id fMc
                    obtain ⟨-, hop_y70, hai_y70, hfa_y70, hT_y70, hT1_y70⟩ := id hEv_y70
                    have e14 := e14_y70
                    have e25 := e25_y70
                    have e27 := e27_y70
                    have e29 := e29_y70
                    have hop := hop_y70
                    have hai := hai_y70
                    have hfa := hfa_y70
                    have hT := hT_y70
                    have hT1 := hT1_y70
                    have hEv := hEv_y70
                    have htp := htp_y70
                    have hns := hns_y70
                    have hPt := hPt_y70
                    have hay71 : zAt ad (i) (ad i) := rfl
                    have hay72 : zAt ad (i + 1) (ad (i + 1)) := rfl
                    have hay73 : zAt ad (i + 2) (ad (i + 2)) := rfl
                    have hay74 : zAt ad (i + 3) (ad (i + 3)) := rfl
                    have hay75 : zAt ad (i + 4) (ad (i + 4)) := rfl
                    have hay76 : zAt ad (i + 5) (ad (i + 5)) := rfl
                    have hay77 : zAt ad (i + 6) (ad (i + 6)) := rfl
                    have hay78 : zAt ad (i + 7) (ad (i + 7)) := rfl
                    have hay79 : zAt ad (i + 8) (ad (i + 8)) := rfl
                    have hay80 : zAt ad (i + 9) (ad (i + 9)) := rfl
                    have hay81 : zAt ad (i + 10) (ad (i + 10)) := rfl
                    have hay82 : zAt ad (i + 11) (ad (i + 11)) := rfl
                    have hay83 : zAt ad (i + 12) (ad (i + 12)) := rfl
                    have hay84 : zAt ad (i + 13) (ad (i + 13)) := rfl
                    have hay85 : zAt ad (i + 14) (ad (i + 14)) := rfl
                    have hay86 : zAt ad (i + 15) (ad (i + 15)) := rfl
                    have hay87 : zAt ad (i + 24) (ad (i + 24)) := rfl
                    have hay88 : zAt ad (i + 25) (ad (i + 25)) := rfl
                    have hay89 : zAt ad (i + 26) (ad (i + 26)) := rfl
                    have hay90 : zAt ad (i + 27) (ad (i + 27)) := rfl
                    have hay91 : zAt ad (i + 28) (ad (i + 28)) := rfl
                    have hay92 : zAt ad (i + 29) (ad (i + 29)) := rfl
                    obtain ⟨⟨hsyy93, htyy93, hnyy93, hpyy93⟩, hlyy93⟩ := okA.at0 hA_y70
                    simp only [Nat.zero_add] at hsyy93 hnyy93 hpyy93
                    have hmn : ∀ s, s < 4 → 0 ≤ r9c (6 + 86 * s) ∧ r9c (6 + 86 * s) ≤ 12 := fun s hs => (hsyy93 s hs).1
                    have h5 : 0 ≤ r9c 5 ∧ r9c 5 ≤ 6 := hpyy93
                    have h13ce : F9c 13 = F 13 := fFc 13 (by decide) (by decide) (by decide) (by decide)
                    have h14ce : F9c 14 = F 14 := fFc 14 (by decide) (by decide) (by decide) (by decide)
                    have h20ce : F9c 20 = F 20 := fFc 20 (by decide) (by decide) (by decide) (by decide)
                    have h21ce : F9c 21 = F 21 := fFc 21 (by decide) (by decide) (by decide) (by decide)
                    have h23ce : F9c 23 = F 23 := fFc 23 (by decide) (by decide) (by decide) (by decide)
                    have h24ce : F9c 24 = F 24 := fFc 24 (by decide) (by decide) (by decide) (by decide)
                    refine z_iload_n C 1 dX10_restore_154 rfl ?_
                    refine z_iconst (z := 3) C dX10_restore_155 rfl ?_
                    refine z_icmp_ge (tgt := 179) C dX10_restore_156 (by decide) (by omega) (by omega) (fun hby94 => ?_) (fun hby94 => ?_)
                    · refine z_iconst (z := 1) C dX10_restore_179 rfl ?_
                      have hMy95 : okMr cs ad g1 i (x + 1) F9c r9c st op ai fa mu tb tp := okMr.upd fMc hg_y70 fMc.2.1 (fun f _ => rfl) ha1_y70 (hA_y70.mono (by omega)) (fun j a b => by
                          exact Or.inl (by rfl))
                      have hkpy96 : F9c 13 = F9c 13 := rfl
                      have hkpy97 : F9c 14 = F9c 14 := rfl
                      have hkpy98 : F9c 17 = F9c 17 := rfl
                      have hkpy99 : F9c 20 = F9c 20 := rfl
                      have hkpy100 : F9c 21 = F9c 21 := rfl
                      have hkpy101 : F9c 23 = F9c 23 := rfl
                      have hkpy102 : F9c 24 = F9c 24 := rfl
                      exact z_zret C hr hlk dX10_restore_180 (by decide) (by decide) (by decide) ⟨1, rfl, rfl, rfl, by omega, ⟨_, _, hMy95, by omega, by omega⟩, fun j j1 => by exact f3 j j1⟩
                    · refine z_aload_n C 0 dX10_restore_159 rfl ?_
                      refine z_get (v := .ref (ad (i + 11))) C (lt_A0 hN rfl) hay71 hg_y70 rfl inA_X10 10 (by decide) q_1469 rfl rfl dX10_restore_160 ?_
                      refine z_iload_n C 1 dX10_restore_163 rfl ?_
                      refine z_aload_n C 0 dX10_restore_164 rfl ?_
                      refine z_get (v := .ref (ad (i + 11))) C (lt_A0 hN rfl) hay71 hg_y70 rfl inA_X10 10 (by decide) q_1469 rfl rfl dX10_restore_165 ?_
                      refine z_iconst (z := 3) C dX10_restore_168 rfl ?_
                      refine z_iload_n C 1 dX10_restore_169 rfl ?_
                      refine z_iadd C dX10_restore_170 ?_
                      refine z_iald C (lt_A (c := 11) hN rfl) hay82 ha11_y70 ((3 + kk).toNat) (by omega) (by omega) (by decide) dX10_restore_171 ?_
                      refine z_iast C (lt_A (c := 11) hN rfl) hay82 ha11_y70 ((kk).toNat) (by omega) (by omega) (by decide) dX10_restore_172 (fun gy103 egy104 => ?_)
                      have hgy105 := up_s egy104
                      refine z_iinc (z := kk + 1) (lv' := [(1, .int (zI (kk + 1))), (0, .ref (ad i))]) (j := 1) C dX10_restore_173 rfl rfl (by decide) rfl ?_
                      refine z_goto (tgt := 154) C dX10_restore_176 (by decide) ?_
                      have hgy106 := up_n egy104 hg_y70 (ne_o (i := i) (c := 0) (d := 11) rfl)
                      have hgy107 := up_n egy104 ha1_y70 (ne_o (i := i) (c := 1) (d := 11) rfl)
                      have hMy108 : okMr cs ad gy103 i (x) F9c r9c st op ai fa mu tb tp := okMr.upd fMc hgy106 fMc.2.1 (fun f _ => rfl) hgy107 (hA_y70.mono (by omega)) (fun j a b => by
                          by_cases e0 : j = i + 11
                          · exact Or.inr ⟨11, _, e0, lsP.l (by decide), by rw [e0]; exact hgy105⟩
                          exact Or.inl (by rw [egy104, va_up_ne _ _ (by omega)]))
                      have hFFc : (∀ f, f ≠ 12 → f ≠ 15 → f ≠ 16 → f ≠ 17 → F9c f = F f) := fun f n12 n15 n16 n17 => fFc f n12 n15 n16 n17
                      have hey109 : F9c 13 = F9c 13 := rfl
                      have hey110 : F9c 14 = F9c 14 := rfl
                      have hey111 : F9c 15 = F9c 15 := rfl
                      have hey112 : F9c 16 = F9c 16 := rfl
                      have hey113 : F9c 17 = F9c 17 := rfl
                      have hey114 : F9c 18 = F9c 18 := rfl
                      have hey115 : F9c 19 = F9c 19 := rfl
                      have hey116 : F9c 20 = F9c 20 := rfl
                      refine z_lv (lv' := [(0, .ref (ad i)), (1, .int (zI (kk + 1)))]) [1, 0] rfl ?_
                      exact ih_lp3 _ (by omega) (kk + 1) _ _ gy103 rfl hMy108 hFFc (fun j j1 => by rw [egy104, va_up_ne _ _ (by omega)]; exact f3 j j1) (by omega) (by omega)
                have hMy117 : okMr cs ad g1 i (x) F9b r9b st op ai fa mu tb tp := okMr.upd fMb hg_y45 fMb.2.1 (fun f _ => rfl) ha1_y45 (hA_y45.mono (by omega)) (fun j a b => by
                    exact Or.inl (by rfl))
                have hFFc : (∀ f, f ≠ 12 → f ≠ 15 → f ≠ 16 → f ≠ 17 → F9b f = F f) := fun f n12 n15 n16 n17 => fFb f n12 n15 n16 n17
                have hey118 : F9b 13 = F9b 13 := rfl
                have hey119 : F9b 14 = F9b 14 := rfl
                have hey120 : F9b 15 = F9b 15 := rfl
                have hey121 : F9b 16 = F9b 16 := rfl
                have hey122 : F9b 17 = F9b 17 := rfl
                have hey123 : F9b 18 = F9b 18 := rfl
                have hey124 : F9b 19 = F9b 19 := rfl
                have hey125 : F9b 20 = F9b 20 := rfl
                refine z_lv (lv' := [(0, .ref (ad i)), (1, .int (zI (0)))]) [1, 0] rfl ?_
                exact lp3 _ (0) _ _ g1 rfl hMy117 hFFc (fun j j1 => by exact f3 j j1) (by omega) (by omega)
              · refine z_aload_n C 0 dX10_restore_101 rfl ?_
                refine z_get (v := .ref (ad (i + 8))) C (lt_A0 hN rfl) hay46 hg_y45 rfl inA_X10 7 (by decide) q_1466 rfl rfl dX10_restore_102 ?_
                refine z_iload_n C 1 dX10_restore_105 rfl ?_
                refine z_aload_n C 0 dX10_restore_106 rfl ?_
                refine z_get (v := .ref (ad (i + 8))) C (lt_A0 hN rfl) hay46 hg_y45 rfl inA_X10 7 (by decide) q_1466 rfl rfl dX10_restore_107 ?_
                refine z_bipush (z := 8) C dX10_restore_110 (by decide) ?_
                refine z_iload_n C 1 dX10_restore_112 rfl ?_
                refine z_iadd C dX10_restore_113 ?_
                refine z_iald C (lt_A (c := 8) hN rfl) hay54 ha8_y45 ((8 + kk).toNat) (by omega) (by omega) (by decide) dX10_restore_114 ?_
                have hrfy126 := hns_y45 ((8 + kk).toNat) (by omega)
                refine z_iast C (lt_A (c := 8) hN rfl) hay54 ha8_y45 ((kk).toNat) (by omega) (by omega) (by decide) dX10_restore_115 (fun gy127 egy128 => ?_)
                have hgy129 := up_s egy128
                refine z_aload_n C 0 dX10_restore_116 rfl ?_
                have hgy130 := up_n egy128 hg_y45 (ne_o (i := i) (c := 0) (d := 8) rfl)
                refine z_get (v := .ref (ad (i + 9))) C (lt_A0 hN rfl) hay46 hgy130 rfl inA_X10 8 (by decide) q_1467 rfl rfl dX10_restore_117 ?_
                refine z_iload_n C 1 dX10_restore_120 rfl ?_
                refine z_aload_n C 0 dX10_restore_121 rfl ?_
                refine z_get (v := .ref (ad (i + 9))) C (lt_A0 hN rfl) hay46 hgy130 rfl inA_X10 8 (by decide) q_1467 rfl rfl dX10_restore_122 ?_
                refine z_bipush (z := 8) C dX10_restore_125 (by decide) ?_
                refine z_iload_n C 1 dX10_restore_127 rfl ?_
                refine z_iadd C dX10_restore_128 ?_
                have hgy131 := up_n egy128 ha9_y45 (ne_o (i := i) (c := 9) (d := 8) rfl)
                refine z_iald C (lt_A (c := 9) hN rfl) hay55 hgy131 ((8 + kk).toNat) (by omega) (by omega) (by decide) dX10_restore_129 ?_
                refine z_iast C (lt_A (c := 9) hN rfl) hay55 hgy131 ((kk).toNat) (by omega) (by omega) (by decide) dX10_restore_130 (fun gy132 egy133 => ?_)
                have hgy134 := up_s egy133
                refine z_aload_n C 0 dX10_restore_131 rfl ?_
                have hgy135 := up_n egy133 hgy130 (ne_o (i := i) (c := 0) (d := 9) rfl)
                refine z_get (v := .ref (ad (i + 10))) C (lt_A0 hN rfl) hay46 hgy135 rfl inA_X10 9 (by decide) q_1468 rfl rfl dX10_restore_132 ?_
                refine z_iload_n C 1 dX10_restore_135 rfl ?_
                refine z_aload_n C 0 dX10_restore_136 rfl ?_
                refine z_get (v := .ref (ad (i + 10))) C (lt_A0 hN rfl) hay46 hgy135 rfl inA_X10 9 (by decide) q_1468 rfl rfl dX10_restore_137 ?_
                refine z_bipush (z := 8) C dX10_restore_140 (by decide) ?_
                refine z_iload_n C 1 dX10_restore_142 rfl ?_
                refine z_iadd C dX10_restore_143 ?_
                have hgy136 := up_n egy128 ha10_y45 (ne_o (i := i) (c := 10) (d := 8) rfl)
                have hgy137 := up_n egy133 hgy136 (ne_o (i := i) (c := 10) (d := 9) rfl)
                refine z_iald C (lt_A (c := 10) hN rfl) hay56 hgy137 ((8 + kk).toNat) (by omega) (by omega) (by decide) dX10_restore_144 ?_
                refine z_iast C (lt_A (c := 10) hN rfl) hay56 hgy137 ((kk).toNat) (by omega) (by omega) (by decide) dX10_restore_145 (fun gy138 egy139 => ?_)
                have hgy140 := up_s egy139
                refine z_iinc (z := kk + 1) (lv' := [(1, .int (zI (kk + 1))), (0, .ref (ad i))]) (j := 1) C dX10_restore_146 rfl rfl (by decide) rfl ?_
                refine z_goto (tgt := 95) C dX10_restore_149 (by decide) ?_
                have hgy141 := up_n egy139 hgy135 (ne_o (i := i) (c := 0) (d := 10) rfl)
                have hgy142 := up_n egy128 ha1_y45 (ne_o (i := i) (c := 1) (d := 8) rfl)
                have hgy143 := up_n egy133 hgy142 (ne_o (i := i) (c := 1) (d := 9) rfl)
                have hgy144 := up_n egy139 hgy143 (ne_o (i := i) (c := 1) (d := 10) rfl)
                have hgy146 := up_n egy133 hgy129 (ne_o (i := i) (c := 8) (d := 9) rfl)
                have hgy147 := up_n egy139 hgy146 (ne_o (i := i) (c := 8) (d := 10) rfl)
                have hgy148 := up_n egy139 hgy134 (ne_o (i := i) (c := 9) (d := 10) rfl)
                have hMy145 : okMr cs ad gy138 i (x) F9b r9b st op ai fa mu tb tp := okMr.upd fMb hgy141 fMb.2.1 (fun f _ => rfl) hgy144 (hA_y45.mono (by omega)) (fun j a b => by
                    by_cases e0 : j = i + 8
                    · exact Or.inr ⟨8, (uZ (ns_y45) ((kk).toNat) (ns_y45 ((8 + kk).toNat))), e0, (Or.inr (Or.inl ⟨rfl, uZ_any hns (by omega)⟩)), by rw [e0]; exact hgy147⟩
                    by_cases e1 : j = i + 9
                    · exact Or.inr ⟨9, _, e1, lsP.l (by decide), by rw [e1]; exact hgy148⟩
                    by_cases e2 : j = i + 10
                    · exact Or.inr ⟨10, _, e2, lsP.l (by decide), by rw [e2]; exact hgy140⟩
                    exact Or.inl (by rw [egy139, va_up_ne _ _ (by omega)]; rw [egy133, va_up_ne _ _ (by omega)]; rw [egy128, va_up_ne _ _ (by omega)]))
                have hFFb : (∀ f, f ≠ 12 → f ≠ 15 → f ≠ 16 → f ≠ 17 → F9b f = F f) := fun f n12 n15 n16 n17 => fFb f n12 n15 n16 n17
                have hey149 : F9b 13 = F9b 13 := rfl
                have hey150 : F9b 14 = F9b 14 := rfl
                have hey151 : F9b 15 = F9b 15 := rfl
                have hey152 : F9b 16 = F9b 16 := rfl
                have hey153 : F9b 17 = F9b 17 := rfl
                have hey154 : F9b 18 = F9b 18 := rfl
                have hey155 : F9b 19 = F9b 19 := rfl
                have hey156 : F9b 20 = F9b 20 := rfl
                refine z_lv (lv' := [(0, .ref (ad i)), (1, .int (zI (kk + 1)))]) [1, 0] rfl ?_
                exact ih_lp2 _ (by omega) (kk + 1) _ _ gy138 rfl hMy145 hFFb (fun j j1 => by rw [egy139, va_up_ne _ _ (by omega)]; rw [egy133, va_up_ne _ _ (by omega)]; rw [egy128, va_up_ne _ _ (by omega)]; exact f3 j j1) (by omega) (by omega)
          have hgy157 := (f3w (i) (ne_o (i := i) (c := 0) (d := 12) rfl)).trans hgy43
          have hgy158 := up_n egy36 hcvy32 (ne_o (i := i) (c := 1) (d := 0) rfl)
          have hgy159 := up_n egy39 hgy158 (ne_o (i := i) (c := 1) (d := 0) rfl)
          have hgy160 := up_n egy42 hgy159 (ne_o (i := i) (c := 1) (d := 0) rfl)
          have hgy161 := (f3w (i + 1) (ne_o (i := i) (c := 1) (d := 12) rfl)).trans hgy160
          have hFy162 : ∀ f, f ≠ 12 → f ≠ 15 → f ≠ 16 → f ≠ 17 → (uZ (uZ (uZ (uZ F 12 (0)) 15 (F 18)) 16 (F 19)) 17 (F 20)) f = F f := fun f n12 n15 n16 n17 => ((uZ_n _ _ n17).trans ((uZ_n _ _ n16).trans ((uZ_n _ _ n15).trans ((uZ_n _ _ n12).trans rfl))))
          have hey163 : (uZ (uZ (uZ (uZ F 12 (0)) 15 (F 18)) 16 (F 19)) 17 (F 20)) 13 = F 13 := (fn (fn (fn (fn rfl (by decide)) (by decide)) (by decide)) (by decide))
          have hey164 : (uZ (uZ (uZ (uZ F 12 (0)) 15 (F 18)) 16 (F 19)) 17 (F 20)) 14 = F 14 := (fn (fn (fn (fn rfl (by decide)) (by decide)) (by decide)) (by decide))
          have hey165 : (uZ (uZ (uZ (uZ F 12 (0)) 15 (F 18)) 16 (F 19)) 17 (F 20)) 15 = F 18 := (fn (fn (uZ_s _ _ _) (by decide)) (by decide))
          have hey166 : (uZ (uZ (uZ (uZ F 12 (0)) 15 (F 18)) 16 (F 19)) 17 (F 20)) 16 = F 19 := (fn (uZ_s _ _ _) (by decide))
          have hey167 : (uZ (uZ (uZ (uZ F 12 (0)) 15 (F 18)) 16 (F 19)) 17 (F 20)) 17 = F 20 := (uZ_s _ _ _)
          have hey168 : (uZ (uZ (uZ (uZ F 12 (0)) 15 (F 18)) 16 (F 19)) 17 (F 20)) 18 = F 18 := (fn (fn (fn (fn rfl (by decide)) (by decide)) (by decide)) (by decide))
          have hey169 : (uZ (uZ (uZ (uZ F 12 (0)) 15 (F 18)) 16 (F 19)) 17 (F 20)) 19 = F 19 := (fn (fn (fn (fn rfl (by decide)) (by decide)) (by decide)) (by decide))
          have hey170 : (uZ (uZ (uZ (uZ F 12 (0)) 15 (F 18)) 16 (F 19)) 17 (F 20)) 20 = F 20 := (fn (fn (fn (fn rfl (by decide)) (by decide)) (by decide)) (by decide))
          have hey171 : (uZ (uZ (uZ (uZ F 12 (0)) 15 (F 18)) 16 (F 19)) 17 (F 20)) 21 = F 21 := (fn (fn (fn (fn rfl (by decide)) (by decide)) (by decide)) (by decide))
          have hey172 : (uZ (uZ (uZ (uZ F 12 (0)) 15 (F 18)) 16 (F 19)) 17 (F 20)) 23 = F 23 := (fn (fn (fn (fn rfl (by decide)) (by decide)) (by decide)) (by decide))
          have hey173 : (uZ (uZ (uZ (uZ F 12 (0)) 15 (F 18)) 16 (F 19)) 17 (F 20)) 25 = F 25 := (fn (fn (fn (fn rfl (by decide)) (by decide)) (by decide)) (by decide))
          have hey174 : (uZ (uZ (uZ (uZ F 12 (0)) 15 (F 18)) 16 (F 19)) 17 (F 20)) 27 = F 27 := (fn (fn (fn (fn rfl (by decide)) (by decide)) (by decide)) (by decide))
          have hey175 : (uZ (uZ (uZ (uZ F 12 (0)) 15 (F 18)) 16 (F 19)) 17 (F 20)) 28 = F 28 := (fn (fn (fn (fn rfl (by decide)) (by decide)) (by decide)) (by decide))
          have hey176 : (uZ (uZ (uZ (uZ F 12 (0)) 15 (F 18)) 16 (F 19)) 17 (F 20)) 29 = F 29 := (fn (fn (fn (fn rfl (by decide)) (by decide)) (by decide)) (by decide))
          have hKy177 : okF (uZ (uZ (uZ (uZ F 12 (0)) 15 (F 18)) 16 (F 19)) 17 (F 20)) := by unfold okF; omega
          have hMy178 : okMr cs ad g1 i (x) (uZ (uZ (uZ (uZ F 12 (0)) 15 (F 18)) 16 (F 19)) 17 (F 20)) rvy32 st op ai fa mu tb tp := okMr.upd hM hgy157 hKy177 (fun f a => hFy162 f (by omega) (by omega) (by omega) (by omega)) hgy161 (hAy33.mono (by omega)) (fun j a b => by
              by_cases e0 : j = i + 12
              · exact Or.inr ⟨12, (p9), e0, (Or.inr (Or.inr ⟨rfl, hP10⟩)), by rw [e0]; exact f2⟩
              exact Or.inl (by rw [f3w _ (by omega)]; rw [egy42, va_up_ne _ _ (by omega)]; rw [egy39, va_up_ne _ _ (by omega)]; rw [egy36, va_up_ne _ _ (by omega)]; rw [hfvy32 _ (by omega)]; rw [hfvy29 _ (by omega)]; rw [egy25, va_up_ne _ _ (by omega)]))
          have hFy179 : ∀ f, f ≠ 12 → f ≠ 15 → f ≠ 16 → f ≠ 17 → (uZ (uZ (uZ (uZ F 12 (0)) 15 (F 18)) 16 (F 19)) 17 (F 20)) f = F f := fun f n12 n15 n16 n17 => ((uZ_n _ _ n17).trans ((uZ_n _ _ n16).trans ((uZ_n _ _ n15).trans ((uZ_n _ _ n12).trans rfl))))
          have hFFb : (∀ f, f ≠ 12 → f ≠ 15 → f ≠ 16 → f ≠ 17 → (uZ (uZ (uZ (uZ F 12 (0)) 15 (F 18)) 16 (F 19)) 17 (F 20)) f = F f) := fun f n12 n15 n16 n17 => (hFy179 f n12 n15 n16 n17)
          have hey180 : (uZ (uZ (uZ (uZ F 12 (0)) 15 (F 18)) 16 (F 19)) 17 (F 20)) 13 = F 13 := (fn (fn (fn (fn rfl (by decide)) (by decide)) (by decide)) (by decide))
          have hey181 : (uZ (uZ (uZ (uZ F 12 (0)) 15 (F 18)) 16 (F 19)) 17 (F 20)) 14 = F 14 := (fn (fn (fn (fn rfl (by decide)) (by decide)) (by decide)) (by decide))
          have hey182 : (uZ (uZ (uZ (uZ F 12 (0)) 15 (F 18)) 16 (F 19)) 17 (F 20)) 15 = F 18 := (fn (fn (uZ_s _ _ _) (by decide)) (by decide))
          have hey183 : (uZ (uZ (uZ (uZ F 12 (0)) 15 (F 18)) 16 (F 19)) 17 (F 20)) 16 = F 19 := (fn (uZ_s _ _ _) (by decide))
          have hey184 : (uZ (uZ (uZ (uZ F 12 (0)) 15 (F 18)) 16 (F 19)) 17 (F 20)) 17 = F 20 := (uZ_s _ _ _)
          have hey185 : (uZ (uZ (uZ (uZ F 12 (0)) 15 (F 18)) 16 (F 19)) 17 (F 20)) 18 = F 18 := (fn (fn (fn (fn rfl (by decide)) (by decide)) (by decide)) (by decide))
          have hey186 : (uZ (uZ (uZ (uZ F 12 (0)) 15 (F 18)) 16 (F 19)) 17 (F 20)) 19 = F 19 := (fn (fn (fn (fn rfl (by decide)) (by decide)) (by decide)) (by decide))
          have hey187 : (uZ (uZ (uZ (uZ F 12 (0)) 15 (F 18)) 16 (F 19)) 17 (F 20)) 20 = F 20 := (fn (fn (fn (fn rfl (by decide)) (by decide)) (by decide)) (by decide))
          refine z_lv (lv' := [(0, .ref (ad i)), (1, .int (zI (0)))]) [1, 0] rfl ?_
          exact lp2 _ (0) _ _ g1 rfl hMy178 hFFb (fun j j1 => by rw [f3w _ (by omega)]; rw [egy42, va_up_ne _ _ (by omega)]; rw [egy39, va_up_ne _ _ (by omega)]; rw [egy36, va_up_ne _ _ (by omega)]; rw [hfvy32 _ (by omega)]; rw [hfvy29 _ (by omega)]; rw [egy25, va_up_ne _ _ (by omega)]) (by omega) (by omega)
        · refine z_aload_n C 0 dX10_restore_71 rfl ?_
          have hgy188 := (f3w (i) (ne_o (i := i) (c := 0) (d := 12) rfl)).trans hgy43
          refine z_get (v := .ref (ad (i + 12))) C (lt_A0 hN rfl) hay1 hgy188 rfl inA_X10 11 (by decide) q_1470 rfl rfl dX10_restore_72 ?_
          refine z_iload_n C 1 dX10_restore_75 rfl ?_
          refine z_aload_n C 0 dX10_restore_76 rfl ?_
          refine z_get (v := .ref (ad (i + 12))) C (lt_A0 hN rfl) hay1 hgy188 rfl inA_X10 11 (by decide) q_1470 rfl rfl dX10_restore_77 ?_
          refine z_sipush (z := 540) C dX10_restore_80 (by decide) ?_
          refine z_iload_n C 1 dX10_restore_83 rfl ?_
          refine z_iadd C dX10_restore_84 ?_
          refine z_iald C (lt_A (c := 12) hN rfl) hay13 f2 (540 + nk) (by omega) (by omega) (by decide) dX10_restore_85 ?_
          refine z_iast C (lt_A (c := 12) hN rfl) hay13 f2 (nk) (by omega) (by omega) (by decide) dX10_restore_86 (fun gy189 egy190 => ?_)
          have hgy191 := up_s egy190
          obtain ⟨ry192, hvy193⟩ : ∃ rZ9 : Nat → Int, rZ9 = uZ p9 (nk) (p9 (540 + nk)) := ⟨_, rfl⟩
          rw [← hvy193] at hgy191
          refine z_iinc (z := kk + 1) (lv' := [(1, .int (zI (kk + 1))), (0, .ref (ad i))]) (j := 1) C dX10_restore_87 rfl rfl (by decide) rfl ?_
          refine z_goto (tgt := 64) C dX10_restore_90 (by decide) ?_
          have hfry194 : ∀ j, j ≠ nk → ry192 j = p9 j := fun j n0 => (congrFun hvy193 _).trans ((uZ_n _ _ n0).trans (rfl))
          have hwy195 : ry192 (nk) = p9 (540 + nk) := (congrFun hvy193 _).trans (uZ_s _ _ _)
          have hsrc : p9 (540 + nk) = pi (540 + nk) := fA nk (by omega)
          have hfk9 : ∀ k : Nat, (k : Int) < kk + 1 → ry192 (0 + k) = pi (540 + k) := by
            intro k a
            by_cases e : k = nk
            · rw [e, Nat.zero_add]; have h9 : ry192 (nk) = pi (540 + nk) := by omega
              exact h9
            · rw [hfry194 _ (by omega)]; exact fk k (by omega)
          refine z_lv (lv' := [(0, .ref (ad i)), (1, .int (zI (kk + 1)))]) [1, 0] rfl ?_
          exact ih_lpw _ (by omega) (kk + 1) ry192 gy189 rfl hgy191 (fun j j1 => by rw [egy190, va_up_ne _ _ (by omega)]; exact f3w j j1) (fun m hm => (hfry194 _ (by omega)).trans (fA m hm)) hfk9 (by omega)
    have hgy196 := up_n egy25 ha12 (ne_o (i := i) (c := 12) (d := 0) rfl)
    have hgy197 := (hfvy29 (i + 12) (ne_o (i := i) (c := 12) (d := 1) rfl)).trans hgy196
    have hgy198 := (hfvy32 (i + 12) (ne_o (i := i) (c := 12) (d := 1) rfl)).trans hgy197
    have hgy199 := up_n egy36 hgy198 (ne_o (i := i) (c := 12) (d := 0) rfl)
    have hgy200 := up_n egy39 hgy199 (ne_o (i := i) (c := 12) (d := 0) rfl)
    have hgy201 := up_n egy42 hgy200 (ne_o (i := i) (c := 12) (d := 0) rfl)
    refine z_lv (lv' := [(0, .ref (ad i)), (1, .int (zI (0)))]) [1, 0] rfl ?_
    exact lpw _ (0) pi gy41 rfl hgy201 (fun j _ => rfl) (fun m _ => rfl) (fun k a => absurd a (by omega)) (by omega)
  · refine z_iconst (z := 0) C dX10_restore_12 rfl ?_
    have hgy202 := up_n egy25 ha1 (ne_o (i := i) (c := 1) (d := 0) rfl)
    have hFy203 : ∀ f, f ≠ 12 → (uZ F 12 (0)) f = F f := fun f n12 => ((uZ_n _ _ n12).trans rfl)
    have hey204 : (uZ F 12 (0)) 13 = F 13 := (fn rfl (by decide))
    have hey205 : (uZ F 12 (0)) 14 = F 14 := (fn rfl (by decide))
    have hey206 : (uZ F 12 (0)) 15 = F 15 := (fn rfl (by decide))
    have hey207 : (uZ F 12 (0)) 16 = F 16 := (fn rfl (by decide))
    have hey208 : (uZ F 12 (0)) 17 = F 17 := (fn rfl (by decide))
    have hey209 : (uZ F 12 (0)) 18 = F 18 := (fn rfl (by decide))
    have hey210 : (uZ F 12 (0)) 19 = F 19 := (fn rfl (by decide))
    have hey211 : (uZ F 12 (0)) 20 = F 20 := (fn rfl (by decide))
    have hey212 : (uZ F 12 (0)) 21 = F 21 := (fn rfl (by decide))
    have hey213 : (uZ F 12 (0)) 23 = F 23 := (fn rfl (by decide))
    have hey214 : (uZ F 12 (0)) 25 = F 25 := (fn rfl (by decide))
    have hey215 : (uZ F 12 (0)) 27 = F 27 := (fn rfl (by decide))
    have hey216 : (uZ F 12 (0)) 28 = F 28 := (fn rfl (by decide))
    have hey217 : (uZ F 12 (0)) 29 = F 29 := (fn rfl (by decide))
    have hKy218 : okF (uZ F 12 (0)) := okF.mv hM.2.1 hey204 hey205 hey206 hey207 hey208 hey209 hey210 hey211 hey212 hey213 hey214 hey215 hey216 hey217
    have hMy219 : okMr cs ad gy24 i (x + 1) (uZ F 12 (0)) r st op ai fa mu tb tp := okMr.upd hM hgy26 hKy218 (fun f a => hFy203 f (by omega)) hgy202 (hA.mono (by omega)) (fun j a b => by
        exact Or.inl (by rw [egy25, va_up_ne _ _ (by omega)]))
    have hkpy220 : (uZ F 12 (0)) 13 = F 13 := (fn rfl (by decide))
    have hkpy221 : (uZ F 12 (0)) 14 = F 14 := (fn rfl (by decide))
    have hkpy222 : (uZ F 12 (0)) 17 = F 17 := (fn rfl (by decide))
    have hkpy223 : (uZ F 12 (0)) 20 = F 20 := (fn rfl (by decide))
    have hkpy224 : (uZ F 12 (0)) 21 = F 21 := (fn rfl (by decide))
    have hkpy225 : (uZ F 12 (0)) 23 = F 23 := (fn rfl (by decide))
    have hkpy226 : (uZ F 12 (0)) 24 = F 24 := (fn rfl (by decide))
    exact z_zret C hr hlk dX10_restore_13 (by decide) (by decide) (by decide) ⟨0, rfl, rfl, rfl, by omega, ⟨_, _, hMy219, by omega, by omega⟩, fun j j1 => by rw [egy25, va_up_ne _ _ (by omega)]⟩

