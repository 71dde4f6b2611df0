set_option maxRecDepth 100000 in
set_option maxHeartbeats 4000000 in
theorem env_of {s : State} {b : Nat} (hts : ∀ w ∈ lw_tbl, w.before #[Value.ref b] s = true) (hgv : (Jvm.Cond.and given_1 narrow_1).before #[Value.ref b] s = true) : ∃ (D : va_G) (cs : Nat → ClassId) (tt : Nat), zE D (fun q => s.heap.size ≤ q) cs tt s := by
  have hs := flat_of_before _ hgv
  have hA : ∀ a : Nat, a < s.heap.size → ¬ (fun q => s.heap.size ≤ q) a := fun a h h2 => Nat.lt_irrefl _ (Nat.lt_of_lt_of_le h h2)
  have hAW : ∀ w ∈ AW, w.before #[Value.ref b] s = true := fun w h => hts w (List.mem_filter.mp h).1
  obtain ⟨c0, i0, k0⟩ := u_known (C := RJ0) (T := TJ0) (N := 4) (n := 4) hAW inA_J0 (hts _ fw_1123)
  obtain ⟨c1, i1, k1⟩ := u_known (C := RJ4) (T := TJ4) (N := 4) (n := 4) hAW inA_J4 (hts _ fw_318)
  obtain ⟨c2, i2, k2⟩ := u_known (C := RX0) (T := TX0) (N := 4) (n := 4) hAW inA_X0 (hts _ fw_284)
  obtain ⟨c3, i3, k3⟩ := u_known (C := RX1) (T := TX1) (N := 1) (n := 1) hAW inA_X1 (hts _ fw_308)
  obtain ⟨c4, i4, k4⟩ := u_known (C := RX2) (T := TX2) (N := 4) (n := 4) hAW inA_X2 (hts _ fw_211)
  obtain ⟨c5, i5, k5⟩ := u_known (C := RX3) (T := TX3) (N := 3) (n := 3) hAW inA_X3 (hts _ fw_149)
  obtain ⟨c6, i6, k6⟩ := u_known (C := RX4) (T := TX4) (N := 3) (n := 3) hAW inA_X4 (hts _ fw_234)
  obtain ⟨c7, i7, k7⟩ := u_known (C := RX5) (T := TX5) (N := 9) (n := 9) hAW inA_X5 (hts _ fw_74)
  obtain ⟨c8, i8, k8⟩ := u_known (C := RX6) (T := TX6) (N := 6) (n := 6) hAW inA_X6 (hts _ fw_136)
  obtain ⟨c9, i9, k9⟩ := u_known (C := RX7) (T := TX7) (N := 9) (n := 9) hAW inA_X7 (hts _ fw_38)
  obtain ⟨c10, i10, k10⟩ := u_known (C := RX8) (T := TX8) (N := 7) (n := 7) hAW inA_X8 (hts _ fw_142)
  obtain ⟨c11, i11, k11⟩ := u_known (C := RX9) (T := TX9) (N := 14) (n := 14) hAW inA_X9 (hts _ fw_30)
  obtain ⟨c12, i12, k12⟩ := u_known (C := RX10) (T := TX10) (N := 60) (n := 60) hAW inA_X10 (hts _ fw_1450)
  obtain ⟨a0, ka0, co0, fa0, ha0, hk0⟩ := Cond.arrayClass_spec (hts _ fw_72)
  obtain ⟨a1, ka1, co1, fa1, ha1, hk1⟩ := Cond.arrayClass_spec (hts _ fw_134)
  obtain ⟨a2, ka2, co2, fa2, ha2, hk2⟩ := Cond.arrayClass_spec (hts _ fw_2120)
  have ao3 : va_AO RX3 s := va_AO.of (hts _ fw_148)
  obtain ⟨co3, a3, ka3, fc3, -, ha3, hk3, fa3⟩ := Cond.arrayOver_spec ao3
  have ao4 : va_AO RX8 s := va_AO.of (hts _ fw_207)
  obtain ⟨co4, a4, ka4, fc4, -, ha4, hk4, fa4⟩ := Cond.arrayOver_spec ao4
  have ao5 : va_AO RX4 s := va_AO.of (hts _ fw_209)
  obtain ⟨co5, a5, ka5, fc5, -, ha5, hk5, fa5⟩ := Cond.arrayOver_spec ao5
  have ao6 : va_AOA .int s := hts _ fw_290
  obtain ⟨co6, a6, ka6, fc6, -, ha6, hk6, fa6⟩ := arrayOverA_spec ao6
  have hel : ∀ j : Nat, j < 15 → (Term.elem (.static "SnowRecorder" "TABLE" "[I") (.int (Int32.ofNat j))).eval #[Value.ref b] s none [] s = some (.int (zI (tabZ j))) := by
    intro j hj
    rcases (show j = 0 ∨ j = 1 ∨ j = 2 ∨ j = 3 ∨ j = 4 ∨ j = 5 ∨ j = 6 ∨ j = 7 ∨ j = 8 ∨ j = 9 ∨ j = 10 ∨ j = 11 ∨ j = 12 ∨ j = 13 ∨ j = 14 by omega) with rfl | rfl | rfl | rfl | rfl | rfl | rfl | rfl | rfl | rfl | rfl | rfl | rfl | rfl | rfl
    · exact va_eqt (hs _ fg_7)
    · exact va_eqt (hs _ fg_8)
    · exact va_eqt (hs _ fg_9)
    · exact va_eqt (hs _ fg_10)
    · exact va_eqt (hs _ fg_11)
    · exact va_eqt (hs _ fg_12)
    · exact va_eqt (hs _ fg_13)
    · exact va_eqt (hs _ fg_14)
    · exact va_eqt (hs _ fg_15)
    · exact va_eqt (hs _ fg_16)
    · exact va_eqt (hs _ fg_17)
    · exact va_eqt (hs _ fg_18)
    · exact va_eqt (hs _ fg_19)
    · exact va_eqt (hs _ fg_20)
    · exact va_eqt (hs _ fg_21)
  obtain ⟨tt, ht, hTB⟩ := zTB_of (hs _ fg_5) (hs _ fg_968) (va_eqt (hs _ fg_6)) hel hA
  obtain ⟨sa0, sv0, hsk0⟩ := zq_so0 hts hgv hA
  obtain ⟨sa1, sv1, hsk1⟩ := zq_so1 hts hgv hA
  obtain ⟨sa2, sv2, hsk2⟩ := zq_so2 hts hgv hA
  obtain ⟨sa3, sv3, hsk3⟩ := zq_so3 hts hgv hA
  obtain ⟨sa4, sv4, hsk4⟩ := zq_so4 hts hgv hA
  obtain ⟨sa5, sv5, hsk5⟩ := zq_so5 hts hgv hA
  obtain ⟨sa6, sv6, hsk6⟩ := zq_so6 hts hgv hA
  obtain ⟨sa7, sv7, hsk7⟩ := zq_so7 hts hgv hA
  obtain ⟨sa8, sv8, hsk8⟩ := zq_so8 hts hgv hA
  obtain ⟨sa9, sv9, hsk9⟩ := zq_so9 hts hgv hA
  obtain ⟨sa10, sv10, hsk10⟩ := zq_so10 hts hgv hA
  obtain ⟨sa11, sv11, hsk11⟩ := zq_so11 hts hgv hA
  obtain ⟨sa12, sv12, hsk12⟩ := zq_so12 hts hgv hA
  obtain ⟨sa13, sv13, hsk13⟩ := zq_so13 hts hgv hA
  obtain ⟨sa14, sv14, hsk14⟩ := zq_so14 hts hgv hA
  obtain ⟨sa15, sv15, hsk15⟩ := zq_so15 hts hgv hA
  obtain ⟨sa16, sv16, hsk16⟩ := zq_so16 hts hgv hA
  obtain ⟨sa17, sv17, hsk17⟩ := zq_so17 hts hgv hA
  obtain ⟨sr0, hsr0⟩ := zq_st0 hts hgv hA
  obtain ⟨sr1, hsr1⟩ := zq_st1 hts hgv hA
  obtain ⟨sr2, hsr2⟩ := zq_st2 hts hgv hA
  refine ⟨(fun k => match k with | 0 => c0 | 1 => c1 | 2 => c2 | 3 => c3 | 4 => c4 | 5 => c5 | 6 => c6 | 7 => c7 | 8 => c8 | 9 => c9 | 10 => c10 | 11 => c11 | _ => c12, fun k => match k with | 0 => i0 | 1 => i1 | 2 => i2 | 3 => i3 | 4 => i4 | 5 => i5 | 6 => i6 | 7 => i7 | 8 => i8 | 9 => i9 | 10 => i10 | 11 => i11 | _ => i12), zq_cs [a0, a1, a2, a3, a4, a5, a6] [sa0, sa1, sa2, sa3, sa4, sa5, sa6, sa7, sa8, sa9, sa10, sa11, sa12, sa13, sa14, sa15, sa16, sa17] [sv0, sv1, sv2, sv3, sv4, sv5, sv6, sv7, sv8, sv9, sv10, sv11, sv12, sv13, sv14, sv15, sv16, sv17] [sr0, sr1, sr2], tt, ⟨?_, ?_⟩, ?_, fun q h => h, ⟨ao3, ao4, ao5, ao6⟩, ⟨?_, hTB, ?_⟩, ⟨?_, ?_⟩, ?_, ?_, ⟨?_, ?_, ?_⟩⟩
  · intro k q hq
    match k, hq with
    | 0, hq => cases hq; exact k0
    | 1, hq => cases hq; exact k1
    | 2, hq => cases hq; exact k2
    | 3, hq => cases hq; exact k3
    | 4, hq => cases hq; exact k4
    | 5, hq => cases hq; exact k5
    | 6, hq => cases hq; exact k6
    | 7, hq => cases hq; exact k7
    | 8, hq => cases hq; exact k8
    | 9, hq => cases hq; exact k9
    | 10, hq => cases hq; exact k10
    | 11, hq => cases hq; exact k11
    | 12, hq => cases hq; exact k12
    | k + 13, hq => simp [vwCl] at hq
  · intro k q hq
    match k, hq with
    | 0, hq => cases hq; exact ⟨arrT_of ha0 hk0, fa0⟩
    | 1, hq => cases hq; exact ⟨arrT_of ha1 hk1, fa1⟩
    | 2, hq => cases hq; exact ⟨arrT_of ha2 hk2, fa2⟩
    | 3, hq => cases hq; exact ⟨arrT_of ha3 hk3, ⟨ka3, co3, ha3, hk3, fc3, fa3⟩⟩
    | 4, hq => cases hq; exact ⟨arrT_of ha4 hk4, ⟨ka4, co4, ha4, hk4, fc4, fa4⟩⟩
    | 5, hq => cases hq; exact ⟨arrT_of ha5 hk5, ⟨ka5, co5, ha5, hk5, fc5, fa5⟩⟩
    | 6, hq => cases hq; exact ⟨arrT_of ha6 hk6, fa6⟩
    | k + 7, hq => simp [tyL] at hq
  · intro w hw
    have h1 := (List.mem_filter.mp hw).2
    simp only [Bool.and_eq_true] at h1
    exact va_Nw.of h1.1 (hts w (List.mem_filter.mp hw).1)
  · exact va_Zref (hts _ fw_80) (hts _ fw_1) ht hA
  · exact va_Zof (hts _ fw_327) (hts _ fw_13) (va_eqt (hs _ fg_22)) hA
  · exact vx_Zqof (hts _ fw_685) (hts _ fw_16) (hs _ fg_23) hA
  · exact vx_Zqof (hts _ fw_687) (hts _ fw_16) (hs _ fg_24) hA
  · unfold SRL
    exact List.forall_mem_cons.mpr ⟨sr_of (hts _ fw_698) (hs _ fg_389), List.forall_mem_cons.mpr ⟨sr_of (hts _ fw_913) (hs _ fg_549), List.forall_mem_cons.mpr ⟨sr_of (hts _ fw_927) (hs _ fg_566), List.forall_mem_cons.mpr ⟨sr_of (hts _ fw_928) (hs _ fg_582), List.forall_mem_cons.mpr ⟨sr_of (hts _ fw_944) (hs _ fg_610), List.forall_mem_cons.mpr ⟨sr_of (hts _ fw_947) (hs _ fg_627), List.forall_mem_cons.mpr ⟨sr_of (hts _ fw_959) (hs _ fg_655), List.forall_mem_cons.mpr ⟨sr_of (hts _ fw_966) (hs _ fg_672), List.forall_mem_cons.mpr ⟨sr_of (hts _ fw_1202) (hs _ fg_775), List.forall_mem_cons.mpr ⟨sr_of (hts _ fw_1223) (hs _ fg_791), List.forall_mem_cons.mpr ⟨sr_of (hts _ fw_1227) (hs _ fg_815), List.forall_mem_cons.mpr ⟨sr_of (hts _ fw_1247) (hs _ fg_836), List.forall_mem_cons.mpr ⟨sr_of (hts _ fw_1320) (hs _ fg_861), List.forall_mem_cons.mpr ⟨sr_of (hts _ fw_1321) (hs _ fg_876), List.forall_mem_cons.mpr ⟨sr_of (hts _ fw_1348) (hs _ fg_902), List.forall_mem_cons.mpr ⟨sr_of (hts _ fw_1415) (hs _ fg_924), List.forall_mem_cons.mpr ⟨sr_of (hts _ fw_1432) (hs _ fg_946), fun _ h => absurd h List.not_mem_nil⟩⟩⟩⟩⟩⟩⟩⟩⟩⟩⟩⟩⟩⟩⟩⟩⟩
  · exact va_Nc.of (hs _ fg_342)
  · unfold SKL
    exact List.forall_mem_cons.mpr ⟨hsk0, List.forall_mem_cons.mpr ⟨hsk1, List.forall_mem_cons.mpr ⟨hsk2, List.forall_mem_cons.mpr ⟨hsk3, List.forall_mem_cons.mpr ⟨hsk4, List.forall_mem_cons.mpr ⟨hsk5, List.forall_mem_cons.mpr ⟨hsk6, List.forall_mem_cons.mpr ⟨hsk7, List.forall_mem_cons.mpr ⟨hsk8, List.forall_mem_cons.mpr ⟨hsk9, List.forall_mem_cons.mpr ⟨hsk10, List.forall_mem_cons.mpr ⟨hsk11, List.forall_mem_cons.mpr ⟨hsk12, List.forall_mem_cons.mpr ⟨hsk13, List.forall_mem_cons.mpr ⟨hsk14, List.forall_mem_cons.mpr ⟨hsk15, List.forall_mem_cons.mpr ⟨hsk16, List.forall_mem_cons.mpr ⟨hsk17, fun _ h => absurd h List.not_mem_nil⟩⟩⟩⟩⟩⟩⟩⟩⟩⟩⟩⟩⟩⟩⟩⟩⟩⟩
  · unfold STL
    exact List.forall_mem_cons.mpr ⟨hsr0, List.forall_mem_cons.mpr ⟨hsr1, List.forall_mem_cons.mpr ⟨hsr2, fun _ h => absurd h List.not_mem_nil⟩⟩⟩
  · exact va_Zqof (hts _ fw_782) (hts _ fw_23) (hs _ fg_25) hA
