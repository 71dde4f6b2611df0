theorem okMr.arr2 {cs : Nat → ClassId} {g g' : Nat → va_E} {i n : Nat} (k : Nat) {P : (Nat → Int) → Prop} (h : ∃ t : Nat → Int, g (i + k) = iA cs n t ∧ P t) (hn : mLen k = n) (hG : g' (i + k) = g (i + k) ∨ ∃ (k2 : Nat) (t : Nat → Int), i + k = i + k2 ∧ lsP k2 t ∧ g' (i + k) = iA cs (mLen k2) t) (hP : ∀ t, lsP k t → P t) : ∃ t : Nat → Int, g' (i + k) = iA cs n t ∧ P t := by
  obtain ⟨t, h1, h2⟩ := h
  rcases hG with e | ⟨k2, t2, e1, e2, e3⟩
  · exact ⟨t, by rw [e]; exact h1, h2⟩
  · have e4 : k2 = k := by omega
    subst e4
    exact ⟨t2, by rw [e3, hn], hP t2 e2⟩
theorem okMr.upd2 {cs : Nat → ClassId} {ad : Nat → Nat} {g g' : Nat → va_E} {i : Nat} {x x' : Int} {F F' r r' : Nat → Int} (h : okMr cs ad g i x F r) (hi : g' i = mC ad i F') (hK : okF F') (hD : RD F') (hT : okTx cs g' i F') (hr : g' (i + 1) = iA cs 29200 r') (hA : okA r' x') (hG : ∀ j, i + 1 < j → j < i + 30 → j < i + 16 ∨ i + 23 < j → g' j = g j ∨ ∃ (k : Nat) (t : Nat → Int), j = i + k ∧ lsP k t ∧ g' j = iA cs (mLen k) t) : okMr cs ad g' i x' F' r' := by
  obtain ⟨h1, h2, h3, h4, h5, st, op, ai, fa, mu, tb, ns, nh, nd, rf, pi, tp, te, ki, li, ok1, ok2, fo, dd, dps, ⟨b1, b2, b3, b4, b5, b6, b7, b8, b9, b10, b11, b12, b13, b14, b15, b24, b25, b26, b27, b28, b29⟩, h6, h7, h8, h9⟩ := h
  have hS : ∀ (k n : Nat) (t : Nat → Int), (3 ≤ k ∧ k ≤ 7) → g (i + k) = iA cs n t → g' (i + k) = iA cs n t := fun k n t a b => (hG (i + k) (by omega) (by omega) (by omega)).elim (fun e => by rw [e]; exact b) (fun ⟨k2, t, e1, e2, e3⟩ => by
    exfalso
    unfold lsP at e2
    rcases e2 with e2 | ⟨e2, _⟩ | ⟨e2, _⟩ | ⟨e2, _⟩ <;> omega)
  have t1 : ∀ k, (k = 2 ∨ k = 9 ∨ k = 10 ∨ k = 11 ∨ k = 14 ∨ k = 15 ∨ (24 ≤ k ∧ k ≤ 29)) → ∀ t : Nat → Int, g (i + k) = iA cs (mLen k) t → ∃ t2 : Nat → Int, g' (i + k) = iA cs (mLen k) t2 := fun k a t b => by
    obtain ⟨t2, e, _⟩ := okMr.arr2 (P := fun _ => True) k ⟨t, b, trivial⟩ rfl (hG (i + k) (by omega) (by omega) (by omega)) (fun _ _ => trivial)
    exact ⟨t2, e⟩
  obtain ⟨u2, v2⟩ := t1 2 (by omega) _ b2
  obtain ⟨u9, v9⟩ := t1 9 (by omega) _ b9
  obtain ⟨u10, v10⟩ := t1 10 (by omega) _ b10
  obtain ⟨u11, v11⟩ := t1 11 (by omega) _ b11
  obtain ⟨u14, v14⟩ := t1 14 (by omega) _ b14
  obtain ⟨u15, v15⟩ := t1 15 (by omega) _ b15
  obtain ⟨u24, v24⟩ := t1 24 (by omega) _ b24
  obtain ⟨u25, v25⟩ := t1 25 (by omega) _ b25
  obtain ⟨u26, v26⟩ := t1 26 (by omega) _ b26
  obtain ⟨u27, v27⟩ := t1 27 (by omega) _ b27
  obtain ⟨u28, v28⟩ := t1 28 (by omega) _ b28
  obtain ⟨u29, v29⟩ := t1 29 (by omega) _ b29
  obtain ⟨u8, v8, w8⟩ := okMr.arr2 (P := fun t => ∀ k, k < 16 → 0 ≤ t k ∧ t k ≤ 3) 8 ⟨ns, b8, h8⟩ rfl (hG (i + 8) (by omega) (by omega) (by omega)) (fun t e => by
    rcases e with e | ⟨_, e⟩ | ⟨e, _⟩ | ⟨e, _⟩
    · omega
    · exact e
    · omega
    · omega)
  obtain ⟨u12, v12, w12⟩ := okMr.arr2 (P := okPt) 12 ⟨pi, b12, h7⟩ rfl (hG (i + 12) (by omega) (by omega) (by omega)) (fun t e => by
    rcases e with e | ⟨e, _⟩ | ⟨_, e⟩ | ⟨e, _⟩
    · omega
    · omega
    · exact e
    · omega)
  obtain ⟨u13, v13, w13⟩ := okMr.arr2 (P := fun t => ∀ k, k < 900 → 0 ≤ t k ∧ t k ≤ 255) 13 ⟨tp, b13, h9⟩ rfl (hG (i + 13) (by omega) (by omega) (by omega)) (fun t e => by
    rcases e with e | ⟨e, _⟩ | ⟨e, _⟩ | ⟨_, e⟩
    · omega
    · omega
    · omega
    · exact e)
  obtain ⟨_, c2, c3, c4, c5, c6⟩ := h6
  exact ⟨hi, hK, hD, hT.weak, hA, u2, op, ai, fa, mu, tb, u8, u9, u10, u11, u12, u13, u14, u15, u24, u25, u26, u27, u28, u29, ⟨hr, v2, hS 3 _ _ (by omega) b3, hS 4 _ _ (by omega) b4, hS 5 _ _ (by omega) b5, hS 6 _ _ (by omega) b6, hS 7 _ _ (by omega) b7, v8, v9, v10, v11, v12, v13, v14, v15, v24, v25, v26, v27, v28, v29⟩, ⟨hK.1, c2, c3, c4, c5, c6⟩, w12, w8, w13⟩

theorem tabOK : ∀ j : Fin 15, (0 ≤ tabZ j.val ∧ tabZ j.val ≤ 9999) ∧ (10 ≤ j.val → 1 ≤ tabZ j.val) := by decide
theorem lyT_ms {r ly1 : Nat → Int} {p q0 : Nat} : ∀ n : Nat, n ≤ 12 → (∀ l, l < n → lyT ly1 (q0 + 7 * l)) → (∀ m, m < 84 → r (p + 2 + m) = ly1 (q0 + m)) → (∀ l, l < n → ly r (p + 2 + 7 * l)) ∧ ms r p n ≤ 198 * (n : Int) ∧ dp r p n ≤ 999 * (n : Int) := by
  intro n
  induction n with
  | zero => intro _ _ _; exact ⟨fun l hl => absurd hl (by omega), by show (0 : Int) ≤ _; omega, by show (0 : Int) ≤ _; omega⟩
  | succ n ih =>
    intro hn h he
    obtain ⟨a1, a2, a3⟩ := ih (by omega) (fun l hl => h l (by omega)) he
    have h9 := h n (by omega)
    have e0 := he (7 * n) (by omega)
    have e1 := he (7 * n + 1) (by omega)
    have e2 := he (7 * n + 2) (by omega)
    have e3 := he (7 * n + 3) (by omega)
    have e4 := he (7 * n + 4) (by omega)
    have e6 := he (7 * n + 6) (by omega)
    rw [← Nat.add_assoc, ← Nat.add_assoc] at e1 e2 e3 e4 e6
    obtain ⟨b0, b1, b2, b3, b4, b6⟩ := h9
    refine ⟨fun l hl => ?_, ?_, ?_⟩
    · by_cases e : l = n
      · subst e
        unfold ly
        rw [e0, e1, e2, e3, e4, e6]
        omega
      · exact a1 l (by omega)
    · show ms r p n + (r (p + 2 + 7 * n + 1) + r (p + 2 + 7 * n + 2)) ≤ _
      rw [e1, e2]; omega
    · show dp r p n + r (p + 2 + 7 * n + 3) ≤ _
      rw [e3]; omega
theorem okS.ofT {r ly1 : Nat → Int} {p q0 : Nat} {m : Int} (hp : r p = m) (hm : 0 ≤ m ∧ m ≤ 12) (h : ∀ l : Nat, (l : Int) < m → lyT ly1 (q0 + 7 * l)) (he : ∀ k, k < 84 → r (p + 2 + k) = ly1 (q0 + k)) : okS r p 2400 12000 := by
  obtain ⟨n, hn⟩ : ∃ n : Nat, m = (n : Int) := ⟨m.toNat, by omega⟩
  obtain ⟨a1, a2, a3⟩ := lyT_ms (r := r) (p := p) n (by omega) (fun l hl => h l (by omega)) he
  exact okS.mk n (by omega) (by omega) a1 (by omega) (by omega)

set_option maxRecDepth 100000 in
set_option maxHeartbeats 4000000 in
theorem c_X10_becomes (l : Launch) (D : va_G) (A : Nat → Prop) (cs : Nat → ClassId) (tt : Nat) (N : Nat) (ad : Nat → Nat) (g : Nat → va_E) (i : Nat) (hN : i + 30 ≤ N) (x : Int) (hx : 0 ≤ x ∧ x ≤ 512) (F r : Nat → Int) (hM : okMr cs ad g i x F r) (hTs : okTx cs g i F) : zM l yX10_becomes cX10_becomes 3 none ({ frames := 2, cells := 0, slots := 0, locals := 120 } : Room) D A cs tt N ad g [.ref (ad i)] (rV0 N ad fun g' => (∃ F' r' : Nat → Int, okMr cs ad g' i x F' r' ∧ F' 23 = F 23) ∧ ∀ j, j < i ∨ i + 30 ≤ j → g' j = g j) := by
  obtain ⟨hg, ⟨⟨e13, e14, e25, e27, e29⟩, k15, k16, k17, k18, k19, k20, k23⟩, hRD, hTx, hA, st, op, ai, fa, mu, tb, ns, nh, nd, rf, pi, tp, te, ki, li, ok1, ok2, fo, dd, dps, ⟨ha1, ha2, ha3, ha4, ha5, ha6, ha7, ha8, ha9, ha10, ha11, ha12, ha13, ha14, ha15, ha24, ha25, ha26, ha27, ha28, ha29⟩, hEv, hPt, hns, htp⟩ := id hM
  obtain ⟨-, hop, hai, hfa, hT, hT1⟩ := id hEv
  have hay1 : zAt ad (i) (ad i) := rfl
  have hay2 : zAt ad (i + 1) (ad (i + 1)) := rfl
  have hay3 : zAt ad (i + 2) (ad (i + 2)) := rfl
  have hay4 : zAt ad (i + 3) (ad (i + 3)) := rfl
  have hay5 : zAt ad (i + 4) (ad (i + 4)) := rfl
  have hay6 : zAt ad (i + 5) (ad (i + 5)) := rfl
  have hay7 : zAt ad (i + 6) (ad (i + 6)) := rfl
  have hay8 : zAt ad (i + 7) (ad (i + 7)) := rfl
  have hay9 : zAt ad (i + 8) (ad (i + 8)) := rfl
  have hay10 : zAt ad (i + 9) (ad (i + 9)) := rfl
  have hay11 : zAt ad (i + 10) (ad (i + 10)) := rfl
  have hay12 : zAt ad (i + 11) (ad (i + 11)) := rfl
  have hay13 : zAt ad (i + 12) (ad (i + 12)) := rfl
  have hay14 : zAt ad (i + 13) (ad (i + 13)) := rfl
  have hay15 : zAt ad (i + 14) (ad (i + 14)) := rfl
  have hay16 : zAt ad (i + 15) (ad (i + 15)) := rfl
  have hay17 : zAt ad (i + 24) (ad (i + 24)) := rfl
  have hay18 : zAt ad (i + 25) (ad (i + 25)) := rfl
  have hay19 : zAt ad (i + 26) (ad (i + 26)) := rfl
  have hay20 : zAt ad (i + 27) (ad (i + 27)) := rfl
  have hay21 : zAt ad (i + 28) (ad (i + 28)) := rfl
  have hay22 : zAt ad (i + 29) (ad (i + 29)) := rfl
  obtain ⟨⟨hsyy23, htyy23, hnyy23, hpyy23⟩, hlyy23⟩ := okA.at0 hA
  simp only [Nat.zero_add] at hsyy23 hnyy23 hpyy23
  have hmn : ∀ s, s < 4 → 0 ≤ r (6 + 86 * s) ∧ r (6 + 86 * s) ≤ 12 := fun s hs => (hsyy23 s hs).1
  have h5 : 0 ≤ r 5 ∧ r 5 ≤ 6 := hpyy23
  obtain ⟨st1, op1, mn1, ai1, fa1, mu1, tb1, ly1, ⟨ha16, ha17, ha18, ha19, ha20, ha21, ha22, ha23⟩, ⟨⟨t47, t48, t49⟩, hop1, hmn1, hai1, hfa1, htb1, hly1⟩⟩ := id hTs
  have hay24 : zAt ad (i + 16) (ad (i + 16)) := rfl
  have hay25 : zAt ad (i + 17) (ad (i + 17)) := rfl
  have hay26 : zAt ad (i + 18) (ad (i + 18)) := rfl
  have hay27 : zAt ad (i + 19) (ad (i + 19)) := rfl
  have hay28 : zAt ad (i + 20) (ad (i + 20)) := rfl
  have hay29 : zAt ad (i + 21) (ad (i + 21)) := rfl
  have hay30 : zAt ad (i + 22) (ad (i + 22)) := rfl
  have hay31 : zAt ad (i + 23) (ad (i + 23)) := rfl
  have hRD32 := hRD.1
  refine z_of (by decide) (Nat.le_of_ble_eq_true rfl) ?_
  intro pZ eZ sZ mZ below meth cZ C hr hlk hnm
  refine z_lv (lv' := [(0, .ref (ad i))]) [0] rfl ?_
  refine z_aload_n C 0 dX10_becomes_0 rfl ?_
  refine z_aload_n C 0 dX10_becomes_1 rfl ?_
  refine z_get (v := .int (zI (F 47))) C (by omega) hay1 hg rfl inA_X10 47 (by decide) q_1506 rfl (fv (F := F) (f := 47) rfl) dX10_becomes_2 ?_
  refine z_put (fs' := mF ad (i) (uZ F 13 (F 47))) C (by omega) hay1 hg tyX10 tyX10_ok nmX10 rfl inA_X10 13 (by decide) q_1472 rfl rfl rfl rfl (Nat.le_of_ble_eq_true rfl) rfl dX10_becomes_5 (fun gy32 egy33 => ?_)
  have hgy34 := up_s egy33
  refine z_aload_n C 0 dX10_becomes_8 rfl ?_
  refine z_aload_n C 0 dX10_becomes_9 rfl ?_
  refine z_get (v := .int (zI (F 48))) C (by omega) hay1 hgy34 rfl inA_X10 48 (by decide) q_1507 rfl (fv (F := (uZ F 13 (F 47))) (f := 48) (fn rfl (by decide))) dX10_becomes_10 ?_
  refine z_put (fs' := mF ad (i) (uZ (uZ F 13 (F 47)) 14 (F 48))) C (by omega) hay1 hgy34 tyX10 tyX10_ok nmX10 rfl inA_X10 14 (by decide) q_1473 rfl rfl rfl rfl (Nat.le_of_ble_eq_true rfl) rfl dX10_becomes_13 (fun gy35 egy36 => ?_)
  have hgy37 := up_s egy36
  refine z_aload_n C 0 dX10_becomes_16 rfl ?_
  have hgy38 := up_n egy33 ha7 (ne_o (i := i) (c := 7) (d := 0) rfl)
  have hgy39 := up_n egy36 hgy38 (ne_o (i := i) (c := 7) (d := 0) rfl)
  refine z_cV (As := []) (rest := []) (ci := 12) C (c_X10_laysTable l D A cs tt N ad _ i _ _ (by omega) hgy37 hgy39) (by omega) hay1 hgy37 rfl rfl mv_yX10_laysTable q_1455 hd_yX10_laysTable (by decide) (Nat.le_of_ble_eq_true rfl) (by decide) dX10_becomes_17 rfl (kV0 fun gvy40 hvy40 => ?_)
  obtain ⟨hfvy40, rvy40, hdvy40, htvy40⟩ := hvy40
  refine z_iconst (z := 0) C dX10_becomes_20 rfl ?_
  refine z_istore_n (lv' := [(1, .int (zI (0))), (0, .ref (ad i))]) C dX10_becomes_21 rfl (by decide) rfl ?_
  have A : ∀ (n9 : Nat) (ka : Int) (t9 : Nat → Int) (g1 : Nat → va_E), (16 - ka).toNat = n9 → (g1 (i + 7) = iA cs 15 t9) → (∀ j, j ≠ i + 7 → g1 j = gvy40 j) → (∀ j, j < 15 → (0 ≤ t9 j ∧ t9 j ≤ 9999) ∧ (10 ≤ j → 1 ≤ t9 j)) → (0 ≤ ka ∧ ka ≤ 15) → zV pZ l eZ ({ frames := 2, cells := 0, slots := 0, locals := 120 } : Room) sZ mZ ([.ref (ad i)] : List Value).toArray below meth cZ (MQ below (zPost D A (rV0 N ad fun g' => (∃ F' r' : Nat → Int, okMr cs ad g' i x F' r' ∧ F' 23 = F 23) ∧ ∀ j, j < i ∨ i + 30 ≤ j → g' j = g j)) ([.ref (ad i)] : List Value).toArray sZ ({ frames := 2, cells := 0, slots := 0, locals := 120 } : Room).cells ({ frames := 2, cells := 0, slots := 0, locals := 120 } : Room).slots A) D A 3 (N) ad g1 (0) (0) 22 [(0, .ref (ad i)), (1, .int (zI (ka)))] [] := by
    intro n9
    induction n9 using Nat.strongRecOn with
    | ind n9 ih_A =>
      intro ka t9 g1 hm9 f2A_t9 f3A fTa hvkA
      obtain ⟨nkA, hnkA⟩ : ∃ n9 : Nat, ka = (n9 : Int) := ⟨ka.toNat, by omega⟩
      refine z_iload_n C 1 dX10_becomes_22 rfl ?_
      refine z_bipush (z := 15) C dX10_becomes_23 (by decide) ?_
      refine z_icmp_ge (tgt := 56) C dX10_becomes_25 (by decide) (by omega) (by omega) (fun hby41 => ?_) (fun hby41 => ?_)
      · refine z_iconst (z := 0) C dX10_becomes_56 rfl ?_
        refine z_istore_n (lv' := [(1, .int (zI (0))), (0, .ref (ad i))]) C dX10_becomes_57 rfl (by decide) rfl ?_
        obtain ⟨g1B, hg1B⟩ : ∃ h : Nat → va_E, h = g1 := ⟨_, rfl⟩
        subst hg1B
        have B : ∀ (n9 : Nat) (kb : Int) (a9 : Nat → Int) (fa9 : Nat → Int) (m9 : Nat → Int) (g1 : Nat → va_E), (25 - kb).toNat = n9 → (g1 (i + 4) = iA cs 24 a9) → (g1 (i + 5) = iA cs 24 fa9) → (g1 (i + 6) = iA cs 24 m9) → (∀ j, j ≠ i + 4 → j ≠ i + 5 → j ≠ i + 6 → g1 j = g1B j) → (∀ k, k < 24 → -300 ≤ a9 k ∧ a9 k ≤ 100) → (∀ k, k < 24 → (0 ≤ fa9 k ∧ fa9 k ≤ 3) ∧ (0 ≤ m9 k ∧ m9 k ≤ 50) ∧ (fa9 k = 1 ∨ fa9 k = 2 → 1 ≤ m9 k)) → (0 ≤ kb ∧ kb ≤ F 48) → zV pZ l eZ ({ frames := 2, cells := 0, slots := 0, locals := 120 } : Room) sZ mZ ([.ref (ad i)] : List Value).toArray below meth cZ (MQ below (zPost D A (rV0 N ad fun g' => (∃ F' r' : Nat → Int, okMr cs ad g' i x F' r' ∧ F' 23 = F 23) ∧ ∀ j, j < i ∨ i + 30 ≤ j → g' j = g j)) ([.ref (ad i)] : List Value).toArray sZ ({ frames := 2, cells := 0, slots := 0, locals := 120 } : Room).cells ({ frames := 2, cells := 0, slots := 0, locals := 120 } : Room).slots A) D A 3 (N) ad g1 (0) (0) 58 [(0, .ref (ad i)), (1, .int (zI (kb)))] [] := by
          intro n9
          induction n9 using Nat.strongRecOn with
          | ind n9 ih_B =>
            intro kb a9 fa9 m9 g1 hm9 f2B_a9 f2B_fa9 f2B_m9 f3B fBa fBf hvkB
            obtain ⟨nkB, hnkB⟩ : ∃ n9 : Nat, kb = (n9 : Int) := ⟨kb.toNat, by omega⟩
            refine z_iload_n C 1 dX10_becomes_58 rfl ?_
            refine z_aload_n C 0 dX10_becomes_59 rfl ?_
            have hgy42 := (hfvy40 (i) (ne_o (i := i) (c := 0) (d := 7) rfl)).trans hgy37
            have hgy43 := (f3A (i) (ne_o (i := i) (c := 0) (d := 7) rfl)).trans hgy42
            have hgy44 := (f3B (i) (ne_o (i := i) (c := 0) (d := 4) rfl) (ne_o (i := i) (c := 0) (d := 5) rfl) (ne_o (i := i) (c := 0) (d := 6) rfl)).trans hgy43
            refine z_get (v := .int (zI (F 48))) C (by omega) hay1 hgy44 rfl inA_X10 14 (by decide) q_1473 rfl (fv (F := (uZ (uZ F 13 (F 47)) 14 (F 48))) (f := 14) (uZ_s _ _ _)) dX10_becomes_60 ?_
            refine z_icmp_ge (tgt := 108) C dX10_becomes_63 (by decide) (by omega) (by omega) (fun hby45 => ?_) (fun hby45 => ?_)
            · refine z_iconst (z := 0) C dX10_becomes_108 rfl ?_
              refine z_istore_n (lv' := [(1, .int (zI (0))), (0, .ref (ad i))]) C dX10_becomes_109 rfl (by decide) rfl ?_
              obtain ⟨g1C, hg1C⟩ : ∃ h : Nat → va_E, h = g1 := ⟨_, rfl⟩
              subst hg1C
              have C : ∀ (n9 : Nat) (kc : Int) (r9 : Nat → Int) (g1 : Nat → va_E), (351 - kc).toNat = n9 → (g1 (i + 1) = iA cs 29200 r9) → (∀ j, j ≠ i + 1 → g1 j = g1C j) → (∀ j : Nat, (j : Int) < kc → r9 j = 0) → (∀ j : Nat, kc ≤ (j : Int) → r9 j = r j) → (0 ≤ kc ∧ kc ≤ 350) → zV pZ l eZ ({ frames := 2, cells := 0, slots := 0, locals := 120 } : Room) sZ mZ ([.ref (ad i)] : List Value).toArray below meth cZ (MQ below (zPost D A (rV0 N ad fun g' => (∃ F' r' : Nat → Int, okMr cs ad g' i x F' r' ∧ F' 23 = F 23) ∧ ∀ j, j < i ∨ i + 30 ≤ j → g' j = g j)) ([.ref (ad i)] : List Value).toArray sZ ({ frames := 2, cells := 0, slots := 0, locals := 120 } : Room).cells ({ frames := 2, cells := 0, slots := 0, locals := 120 } : Room).slots A) D A 3 (N) ad g1 (0) (0) 110 [(0, .ref (ad i)), (1, .int (zI (kc)))] [] := by
                intro n9
                induction n9 using Nat.strongRecOn with
                | ind n9 ih_C =>
                  intro kc r9 g1 hm9 f2C_r9 f3C fCz fCr hvkC
                  obtain ⟨nkC, hnkC⟩ : ∃ n9 : Nat, kc = (n9 : Int) := ⟨kc.toNat, by omega⟩
                  refine z_iload_n C 1 dX10_becomes_110 rfl ?_
                  refine z_sipush (z := 350) C dX10_becomes_111 (by decide) ?_
                  refine z_icmp_ge (tgt := 130) C dX10_becomes_114 (by decide) (by omega) (by omega) (fun hby46 => ?_) (fun hby46 => ?_)
                  · refine z_aload_n C 0 dX10_becomes_130 rfl ?_
                    have hgy47 := (f3C (i) (ne_o (i := i) (c := 0) (d := 1) rfl)).trans hgy44
                    refine z_get (v := .ref (ad (i + 1))) C (by omega) hay1 hgy47 rfl inA_X10 0 (by decide) q_1459 rfl rfl dX10_becomes_131 ?_
                    refine z_iconst (z := 1) C dX10_becomes_134 rfl ?_
                    refine z_aload_n C 0 dX10_becomes_135 rfl ?_
                    refine z_get (v := .int (zI (F 49))) C (by omega) hay1 hgy47 rfl inA_X10 49 (by decide) q_1508 rfl (fv (F := (uZ (uZ F 13 (F 47)) 14 (F 48))) (f := 49) (fn (fn rfl (by decide)) (by decide))) dX10_becomes_136 ?_
                    refine z_iast C (by omega) hay2 f2C_r9 (1) (by omega) (by omega) (by decide) dX10_becomes_139 (fun gy48 egy49 => ?_)
                    have hgy50 := up_s egy49
                    obtain ⟨ry51, hvy52⟩ : ∃ rZ9 : Nat → Int, rZ9 = uZ r9 (1) (F 49) := ⟨_, rfl⟩
                    rw [← hvy52] at hgy50
                    refine z_iconst (z := 0) C dX10_becomes_140 rfl ?_
                    refine z_istore_n (lv' := [(1, .int (zI (0))), (0, .ref (ad i))]) C dX10_becomes_141 rfl (by decide) rfl ?_
                    have hfry53 : ∀ j, j ≠ 1 → ry51 j = r9 j := fun j n0 => (congrFun hvy52 _).trans ((uZ_n _ _ n0).trans (rfl))
                    have hwy54 : ry51 (1) = F 49 := (congrFun hvy52 _).trans (uZ_s _ _ _)
                    have D : ∀ (n9 : Nat) (sd : Int) (rd9 : Nat → Int) (st9 : Nat → Int) (op9 : Nat → Int) (g1 : Nat → va_E), (5 - sd).toNat = n9 → (g1 (i + 1) = iA cs 29200 rd9) → (g1 (i + 2) = iA cs 4 st9) → (g1 (i + 3) = iA cs 4 op9) → (∀ j, j ≠ i + 1 → j ≠ i + 2 → j ≠ i + 3 → g1 j = gy48 j) → (∀ k, k < 4 → 0 ≤ op9 k ∧ op9 k ≤ 20) → (rd9 0 = 0) → (rd9 1 = F 49) → (rd9 5 = 0) → (∀ j, 350 ≤ j → rd9 j = r j) → (∀ s : Nat, s < 4 → ((s : Int) < sd → okS rd9 (6 + 86 * s) 2400 12000) ∧ (sd ≤ (s : Int) → rd9 (6 + 86 * s) = 0)) → (0 ≤ sd ∧ sd ≤ F 47) → zV pZ l eZ ({ frames := 2, cells := 0, slots := 0, locals := 120 } : Room) sZ mZ ([.ref (ad i)] : List Value).toArray below meth cZ (MQ below (zPost D A (rV0 N ad fun g' => (∃ F' r' : Nat → Int, okMr cs ad g' i x F' r' ∧ F' 23 = F 23) ∧ ∀ j, j < i ∨ i + 30 ≤ j → g' j = g j)) ([.ref (ad i)] : List Value).toArray sZ ({ frames := 2, cells := 0, slots := 0, locals := 120 } : Room).cells ({ frames := 2, cells := 0, slots := 0, locals := 120 } : Room).slots A) D A 3 (N) ad g1 (0) (0) 142 [(0, .ref (ad i)), (1, .int (zI (sd)))] [] := by
                      intro n9
                      induction n9 using Nat.strongRecOn with
                      | ind n9 ih_D =>
                        intro sd rd9 st9 op9 g1 hm9 f2D_rd9 f2D_st9 f2D_op9 f3D fDo fD0 fD1 fD5 fDr fDs hvkD
                        obtain ⟨nkD, hnkD⟩ : ∃ n9 : Nat, sd = (n9 : Int) := ⟨sd.toNat, by omega⟩
                        refine z_iload_n C 1 dX10_becomes_142 rfl ?_
                        refine z_aload_n C 0 dX10_becomes_143 rfl ?_
                        have hgy55 := up_n egy49 hgy47 (ne_o (i := i) (c := 0) (d := 1) rfl)
                        have hgy56 := (f3D (i) (ne_o (i := i) (c := 0) (d := 1) rfl) (ne_o (i := i) (c := 0) (d := 2) rfl) (ne_o (i := i) (c := 0) (d := 3) rfl)).trans hgy55
                        refine z_get (v := .int (zI (F 47))) C (by omega) hay1 hgy56 rfl inA_X10 13 (by decide) q_1472 rfl (fv (F := (uZ (uZ F 13 (F 47)) 14 (F 48))) (f := 13) (fn (uZ_s _ _ _) (by decide))) dX10_becomes_144 ?_
                        refine z_icmp_ge (tgt := 233) C dX10_becomes_147 (by decide) (by omega) (by omega) (fun hby57 => ?_) (fun hby57 => ?_)
                        · refine z_aload_n C 0 dX10_becomes_233 rfl ?_
                          refine z_aload_n C 0 dX10_becomes_234 rfl ?_
                          refine z_aload_n C 0 dX10_becomes_235 rfl ?_
                          refine z_aload_n C 0 dX10_becomes_236 rfl ?_
                          refine z_iconst (z := 0) C dX10_becomes_237 rfl ?_
                          refine z_dup_x1 C dX10_becomes_238 rfl rfl ?_
                          refine z_put (fs' := mF ad (i) (uZ (uZ (uZ F 13 (F 47)) 14 (F 48)) 21 (0))) C (by omega) hay1 hgy56 tyX10 tyX10_ok nmX10 rfl inA_X10 21 (by decide) q_1480 rfl rfl rfl rfl (Nat.le_of_ble_eq_true rfl) rfl dX10_becomes_239 (fun gy58 egy59 => ?_)
                          have hgy60 := up_s egy59
                          refine z_dup_x1 C dX10_becomes_242 rfl rfl ?_
                          refine z_put (fs' := mF ad (i) (uZ (uZ (uZ (uZ F 13 (F 47)) 14 (F 48)) 21 (0)) 17 (0))) C (by omega) hay1 hgy60 tyX10 tyX10_ok nmX10 rfl inA_X10 17 (by decide) q_1476 rfl rfl rfl rfl (Nat.le_of_ble_eq_true rfl) rfl dX10_becomes_243 (fun gy61 egy62 => ?_)
                          have hgy63 := up_s egy62
                          refine z_dup_x1 C dX10_becomes_246 rfl rfl ?_
                          refine z_put (fs' := mF ad (i) (uZ (uZ (uZ (uZ (uZ F 13 (F 47)) 14 (F 48)) 21 (0)) 17 (0)) 16 (0))) C (by omega) hay1 hgy63 tyX10 tyX10_ok nmX10 rfl inA_X10 16 (by decide) q_1475 rfl rfl rfl rfl (Nat.le_of_ble_eq_true rfl) rfl dX10_becomes_247 (fun gy64 egy65 => ?_)
                          have hgy66 := up_s egy65
                          refine z_put (fs' := mF ad (i) (uZ (uZ (uZ (uZ (uZ (uZ F 13 (F 47)) 14 (F 48)) 21 (0)) 17 (0)) 16 (0)) 15 (0))) C (by omega) hay1 hgy66 tyX10 tyX10_ok nmX10 rfl inA_X10 15 (by decide) q_1474 rfl rfl rfl rfl (Nat.le_of_ble_eq_true rfl) rfl dX10_becomes_250 (fun gy67 egy68 => ?_)
                          have hgy69 := up_s egy68
                          have hey70 : (uZ (uZ (uZ (uZ (uZ (uZ F 13 (F 47)) 14 (F 48)) 21 (0)) 17 (0)) 16 (0)) 15 (0)) 13 = F 47 := (fn (fn (fn (fn (fn (uZ_s _ _ _) (by decide)) (by decide)) (by decide)) (by decide)) (by decide))
                          have hey71 : (uZ (uZ (uZ (uZ (uZ (uZ F 13 (F 47)) 14 (F 48)) 21 (0)) 17 (0)) 16 (0)) 15 (0)) 14 = F 48 := (fn (fn (fn (fn (uZ_s _ _ _) (by decide)) (by decide)) (by decide)) (by decide))
                          have hey72 : (uZ (uZ (uZ (uZ (uZ (uZ F 13 (F 47)) 14 (F 48)) 21 (0)) 17 (0)) 16 (0)) 15 (0)) 15 = 0 := (uZ_s _ _ _)
                          have hey73 : (uZ (uZ (uZ (uZ (uZ (uZ F 13 (F 47)) 14 (F 48)) 21 (0)) 17 (0)) 16 (0)) 15 (0)) 16 = 0 := (fn (uZ_s _ _ _) (by decide))
                          have hey74 : (uZ (uZ (uZ (uZ (uZ (uZ F 13 (F 47)) 14 (F 48)) 21 (0)) 17 (0)) 16 (0)) 15 (0)) 17 = 0 := (fn (fn (uZ_s _ _ _) (by decide)) (by decide))
                          have hey75 : (uZ (uZ (uZ (uZ (uZ (uZ F 13 (F 47)) 14 (F 48)) 21 (0)) 17 (0)) 16 (0)) 15 (0)) 18 = F 18 := (fn (fn (fn (fn (fn (fn rfl (by decide)) (by decide)) (by decide)) (by decide)) (by decide)) (by decide))
                          have hey76 : (uZ (uZ (uZ (uZ (uZ (uZ F 13 (F 47)) 14 (F 48)) 21 (0)) 17 (0)) 16 (0)) 15 (0)) 19 = F 19 := (fn (fn (fn (fn (fn (fn rfl (by decide)) (by decide)) (by decide)) (by decide)) (by decide)) (by decide))
                          have hey77 : (uZ (uZ (uZ (uZ (uZ (uZ F 13 (F 47)) 14 (F 48)) 21 (0)) 17 (0)) 16 (0)) 15 (0)) 20 = F 20 := (fn (fn (fn (fn (fn (fn rfl (by decide)) (by decide)) (by decide)) (by decide)) (by decide)) (by decide))
                          have hey78 : (uZ (uZ (uZ (uZ (uZ (uZ F 13 (F 47)) 14 (F 48)) 21 (0)) 17 (0)) 16 (0)) 15 (0)) 23 = F 23 := (fn (fn (fn (fn (fn (fn rfl (by decide)) (by decide)) (by decide)) (by decide)) (by decide)) (by decide))
                          have hey79 : (uZ (uZ (uZ (uZ (uZ (uZ F 13 (F 47)) 14 (F 48)) 21 (0)) 17 (0)) 16 (0)) 15 (0)) 25 = F 25 := (fn (fn (fn (fn (fn (fn rfl (by decide)) (by decide)) (by decide)) (by decide)) (by decide)) (by decide))
                          have hey80 : (uZ (uZ (uZ (uZ (uZ (uZ F 13 (F 47)) 14 (F 48)) 21 (0)) 17 (0)) 16 (0)) 15 (0)) 27 = F 27 := (fn (fn (fn (fn (fn (fn rfl (by decide)) (by decide)) (by decide)) (by decide)) (by decide)) (by decide))
                          have hey81 : (uZ (uZ (uZ (uZ (uZ (uZ F 13 (F 47)) 14 (F 48)) 21 (0)) 17 (0)) 16 (0)) 15 (0)) 28 = F 28 := (fn (fn (fn (fn (fn (fn rfl (by decide)) (by decide)) (by decide)) (by decide)) (by decide)) (by decide))
                          have hey82 : (uZ (uZ (uZ (uZ (uZ (uZ F 13 (F 47)) 14 (F 48)) 21 (0)) 17 (0)) 16 (0)) 15 (0)) 29 = F 29 := (fn (fn (fn (fn (fn (fn rfl (by decide)) (by decide)) (by decide)) (by decide)) (by decide)) (by decide))
                          have hey83 : (uZ (uZ (uZ (uZ (uZ (uZ F 13 (F 47)) 14 (F 48)) 21 (0)) 17 (0)) 16 (0)) 15 (0)) 21 = 0 := (fn (fn (fn (uZ_s _ _ _) (by decide)) (by decide)) (by decide))
                          have hK9 : okF (uZ (uZ (uZ (uZ (uZ (uZ F 13 (F 47)) 14 (F 48)) 21 (0)) 17 (0)) 16 (0)) 15 (0)) := by unfold okF; omega
                          have hx47 : (uZ (uZ (uZ (uZ (uZ (uZ F 13 (F 47)) 14 (F 48)) 21 (0)) 17 (0)) 16 (0)) 15 (0)) 47 = F 47 := (fn (fn (fn (fn (fn (fn rfl (by decide)) (by decide)) (by decide)) (by decide)) (by decide)) (by decide))
                          have hx48 : (uZ (uZ (uZ (uZ (uZ (uZ F 13 (F 47)) 14 (F 48)) 21 (0)) 17 (0)) 16 (0)) 15 (0)) 48 = F 48 := (fn (fn (fn (fn (fn (fn rfl (by decide)) (by decide)) (by decide)) (by decide)) (by decide)) (by decide))
                          have hx49 : (uZ (uZ (uZ (uZ (uZ (uZ F 13 (F 47)) 14 (F 48)) 21 (0)) 17 (0)) 16 (0)) 15 (0)) 49 = F 49 := (fn (fn (fn (fn (fn (fn rfl (by decide)) (by decide)) (by decide)) (by decide)) (by decide)) (by decide))
                          have hx32 : (uZ (uZ (uZ (uZ (uZ (uZ F 13 (F 47)) 14 (F 48)) 21 (0)) 17 (0)) 16 (0)) 15 (0)) 32 = F 32 := (fn (fn (fn (fn (fn (fn rfl (by decide)) (by decide)) (by decide)) (by decide)) (by decide)) (by decide))
                          have hT9 : okTx cs gy67 i (uZ (uZ (uZ (uZ (uZ (uZ F 13 (F 47)) 14 (F 48)) 21 (0)) 17 (0)) 16 (0)) 15 (0)) := hTs.mv (fun j a b => by rw [egy68, va_up_ne _ _ (by omega)]; rw [egy65, va_up_ne _ _ (by omega)]; rw [egy62, va_up_ne _ _ (by omega)]; rw [egy59, va_up_ne _ _ (by omega)]; rw [f3D _ (by omega) (by omega) (by omega)]; rw [egy49, va_up_ne _ _ (by omega)]; rw [f3C _ (by omega)]; rw [f3B _ (by omega) (by omega) (by omega)]; rw [f3A _ (by omega)]; rw [hfvy40 _ (by omega)]; rw [egy36, va_up_ne _ _ (by omega)]; rw [egy33, va_up_ne _ _ (by omega)]) ⟨by omega, by omega, by omega, by omega⟩
                          have hW9 : okW rd9 0 x := ⟨fun s hs => by rw [fD0]; exact (by by_cases e : (s : Int) < sd; exact (((fDs s hs).1 e).of (by omega)).mono (by unfold mB; omega) (by unfold eB; omega); exact (okS.zero ((fDs s hs).2 (by omega)) (by unfold mB; omega) (by unfold eB; omega)).of (by omega)), by rw [fD0]; omega, by rw [fD0]; show 0 ≤ rd9 1 ∧ rd9 1 ≤ _; rw [fD1]; omega, by show 0 ≤ rd9 5 ∧ rd9 5 ≤ 6; rw [fD5]; omega⟩
                          have hA9 : okA rd9 x := okA.first hA (Int.le_refl _) (fun j a => fDr j a) hW9 (by rw [fD0]; omega)
                          have hgy84 := up_n egy59 f2D_rd9 (ne_o (i := i) (c := 1) (d := 0) rfl)
                          have hgy85 := up_n egy62 hgy84 (ne_o (i := i) (c := 1) (d := 0) rfl)
                          have hgy86 := up_n egy65 hgy85 (ne_o (i := i) (c := 1) (d := 0) rfl)
                          have hgy87 := up_n egy68 hgy86 (ne_o (i := i) (c := 1) (d := 0) rfl)
                          have hgy88 := up_n egy59 f2D_st9 (ne_o (i := i) (c := 2) (d := 0) rfl)
                          have hgy89 := up_n egy62 hgy88 (ne_o (i := i) (c := 2) (d := 0) rfl)
                          have hgy90 := up_n egy65 hgy89 (ne_o (i := i) (c := 2) (d := 0) rfl)
                          have hgy91 := up_n egy68 hgy90 (ne_o (i := i) (c := 2) (d := 0) rfl)
                          have hgy92 := up_n egy59 f2D_op9 (ne_o (i := i) (c := 3) (d := 0) rfl)
                          have hgy93 := up_n egy62 hgy92 (ne_o (i := i) (c := 3) (d := 0) rfl)
                          have hgy94 := up_n egy65 hgy93 (ne_o (i := i) (c := 3) (d := 0) rfl)
                          have hgy95 := up_n egy68 hgy94 (ne_o (i := i) (c := 3) (d := 0) rfl)
                          have hgy96 := (f3C (i + 4) (ne_o (i := i) (c := 4) (d := 1) rfl)).trans f2B_a9
                          have hgy97 := up_n egy49 hgy96 (ne_o (i := i) (c := 4) (d := 1) rfl)
                          have hgy98 := (f3D (i + 4) (ne_o (i := i) (c := 4) (d := 1) rfl) (ne_o (i := i) (c := 4) (d := 2) rfl) (ne_o (i := i) (c := 4) (d := 3) rfl)).trans hgy97
                          have hgy99 := up_n egy59 hgy98 (ne_o (i := i) (c := 4) (d := 0) rfl)
                          have hgy100 := up_n egy62 hgy99 (ne_o (i := i) (c := 4) (d := 0) rfl)
                          have hgy101 := up_n egy65 hgy100 (ne_o (i := i) (c := 4) (d := 0) rfl)
                          have hgy102 := up_n egy68 hgy101 (ne_o (i := i) (c := 4) (d := 0) rfl)
                          have hgy103 := (f3C (i + 5) (ne_o (i := i) (c := 5) (d := 1) rfl)).trans f2B_fa9
                          have hgy104 := up_n egy49 hgy103 (ne_o (i := i) (c := 5) (d := 1) rfl)
                          have hgy105 := (f3D (i + 5) (ne_o (i := i) (c := 5) (d := 1) rfl) (ne_o (i := i) (c := 5) (d := 2) rfl) (ne_o (i := i) (c := 5) (d := 3) rfl)).trans hgy104
                          have hgy106 := up_n egy59 hgy105 (ne_o (i := i) (c := 5) (d := 0) rfl)
                          have hgy107 := up_n egy62 hgy106 (ne_o (i := i) (c := 5) (d := 0) rfl)
                          have hgy108 := up_n egy65 hgy107 (ne_o (i := i) (c := 5) (d := 0) rfl)
                          have hgy109 := up_n egy68 hgy108 (ne_o (i := i) (c := 5) (d := 0) rfl)
                          have hgy110 := (f3C (i + 6) (ne_o (i := i) (c := 6) (d := 1) rfl)).trans f2B_m9
                          have hgy111 := up_n egy49 hgy110 (ne_o (i := i) (c := 6) (d := 1) rfl)
                          have hgy112 := (f3D (i + 6) (ne_o (i := i) (c := 6) (d := 1) rfl) (ne_o (i := i) (c := 6) (d := 2) rfl) (ne_o (i := i) (c := 6) (d := 3) rfl)).trans hgy111
                          have hgy113 := up_n egy59 hgy112 (ne_o (i := i) (c := 6) (d := 0) rfl)
                          have hgy114 := up_n egy62 hgy113 (ne_o (i := i) (c := 6) (d := 0) rfl)
                          have hgy115 := up_n egy65 hgy114 (ne_o (i := i) (c := 6) (d := 0) rfl)
                          have hgy116 := up_n egy68 hgy115 (ne_o (i := i) (c := 6) (d := 0) rfl)
                          have hgy117 := (f3B (i + 7) (ne_o (i := i) (c := 7) (d := 4) rfl) (ne_o (i := i) (c := 7) (d := 5) rfl) (ne_o (i := i) (c := 7) (d := 6) rfl)).trans f2A_t9
                          have hgy118 := (f3C (i + 7) (ne_o (i := i) (c := 7) (d := 1) rfl)).trans hgy117
                          have hgy119 := up_n egy49 hgy118 (ne_o (i := i) (c := 7) (d := 1) rfl)
                          have hgy120 := (f3D (i + 7) (ne_o (i := i) (c := 7) (d := 1) rfl) (ne_o (i := i) (c := 7) (d := 2) rfl) (ne_o (i := i) (c := 7) (d := 3) rfl)).trans hgy119
                          have hgy121 := up_n egy59 hgy120 (ne_o (i := i) (c := 7) (d := 0) rfl)
                          have hgy122 := up_n egy62 hgy121 (ne_o (i := i) (c := 7) (d := 0) rfl)
                          have hgy123 := up_n egy65 hgy122 (ne_o (i := i) (c := 7) (d := 0) rfl)
                          have hgy124 := up_n egy68 hgy123 (ne_o (i := i) (c := 7) (d := 0) rfl)
                          have hgy125 := up_n egy33 ha8 (ne_o (i := i) (c := 8) (d := 0) rfl)
                          have hgy126 := up_n egy36 hgy125 (ne_o (i := i) (c := 8) (d := 0) rfl)
                          have hgy127 := (hfvy40 (i + 8) (ne_o (i := i) (c := 8) (d := 7) rfl)).trans hgy126
                          have hgy128 := (f3A (i + 8) (ne_o (i := i) (c := 8) (d := 7) rfl)).trans hgy127
                          have hgy129 := (f3B (i + 8) (ne_o (i := i) (c := 8) (d := 4) rfl) (ne_o (i := i) (c := 8) (d := 5) rfl) (ne_o (i := i) (c := 8) (d := 6) rfl)).trans hgy128
                          have hgy130 := (f3C (i + 8) (ne_o (i := i) (c := 8) (d := 1) rfl)).trans hgy129
                          have hgy131 := up_n egy49 hgy130 (ne_o (i := i) (c := 8) (d := 1) rfl)
                          have hgy132 := (f3D (i + 8) (ne_o (i := i) (c := 8) (d := 1) rfl) (ne_o (i := i) (c := 8) (d := 2) rfl) (ne_o (i := i) (c := 8) (d := 3) rfl)).trans hgy131
                          have hgy133 := up_n egy59 hgy132 (ne_o (i := i) (c := 8) (d := 0) rfl)
                          have hgy134 := up_n egy62 hgy133 (ne_o (i := i) (c := 8) (d := 0) rfl)
                          have hgy135 := up_n egy65 hgy134 (ne_o (i := i) (c := 8) (d := 0) rfl)
                          have hgy136 := up_n egy68 hgy135 (ne_o (i := i) (c := 8) (d := 0) rfl)
                          have hgy137 := up_n egy33 ha9 (ne_o (i := i) (c := 9) (d := 0) rfl)
                          have hgy138 := up_n egy36 hgy137 (ne_o (i := i) (c := 9) (d := 0) rfl)
                          have hgy139 := (hfvy40 (i + 9) (ne_o (i := i) (c := 9) (d := 7) rfl)).trans hgy138
                          have hgy140 := (f3A (i + 9) (ne_o (i := i) (c := 9) (d := 7) rfl)).trans hgy139
                          have hgy141 := (f3B (i + 9) (ne_o (i := i) (c := 9) (d := 4) rfl) (ne_o (i := i) (c := 9) (d := 5) rfl) (ne_o (i := i) (c := 9) (d := 6) rfl)).trans hgy140
                          have hgy142 := (f3C (i + 9) (ne_o (i := i) (c := 9) (d := 1) rfl)).trans hgy141
                          have hgy143 := up_n egy49 hgy142 (ne_o (i := i) (c := 9) (d := 1) rfl)
                          have hgy144 := (f3D (i + 9) (ne_o (i := i) (c := 9) (d := 1) rfl) (ne_o (i := i) (c := 9) (d := 2) rfl) (ne_o (i := i) (c := 9) (d := 3) rfl)).trans hgy143
                          have hgy145 := up_n egy59 hgy144 (ne_o (i := i) (c := 9) (d := 0) rfl)
                          have hgy146 := up_n egy62 hgy145 (ne_o (i := i) (c := 9) (d := 0) rfl)
                          have hgy147 := up_n egy65 hgy146 (ne_o (i := i) (c := 9) (d := 0) rfl)
                          have hgy148 := up_n egy68 hgy147 (ne_o (i := i) (c := 9) (d := 0) rfl)
                          have hgy149 := up_n egy33 ha10 (ne_o (i := i) (c := 10) (d := 0) rfl)
                          have hgy150 := up_n egy36 hgy149 (ne_o (i := i) (c := 10) (d := 0) rfl)
                          have hgy151 := (hfvy40 (i + 10) (ne_o (i := i) (c := 10) (d := 7) rfl)).trans hgy150
                          have hgy152 := (f3A (i + 10) (ne_o (i := i) (c := 10) (d := 7) rfl)).trans hgy151
                          have hgy153 := (f3B (i + 10) (ne_o (i := i) (c := 10) (d := 4) rfl) (ne_o (i := i) (c := 10) (d := 5) rfl) (ne_o (i := i) (c := 10) (d := 6) rfl)).trans hgy152
                          have hgy154 := (f3C (i + 10) (ne_o (i := i) (c := 10) (d := 1) rfl)).trans hgy153
                          have hgy155 := up_n egy49 hgy154 (ne_o (i := i) (c := 10) (d := 1) rfl)
                          have hgy156 := (f3D (i + 10) (ne_o (i := i) (c := 10) (d := 1) rfl) (ne_o (i := i) (c := 10) (d := 2) rfl) (ne_o (i := i) (c := 10) (d := 3) rfl)).trans hgy155
                          have hgy157 := up_n egy59 hgy156 (ne_o (i := i) (c := 10) (d := 0) rfl)
                          have hgy158 := up_n egy62 hgy157 (ne_o (i := i) (c := 10) (d := 0) rfl)
                          have hgy159 := up_n egy65 hgy158 (ne_o (i := i) (c := 10) (d := 0) rfl)
                          have hgy160 := up_n egy68 hgy159 (ne_o (i := i) (c := 10) (d := 0) rfl)
                          have hgy161 := up_n egy33 ha11 (ne_o (i := i) (c := 11) (d := 0) rfl)
                          have hgy162 := up_n egy36 hgy161 (ne_o (i := i) (c := 11) (d := 0) rfl)
                          have hgy163 := (hfvy40 (i + 11) (ne_o (i := i) (c := 11) (d := 7) rfl)).trans hgy162
                          have hgy164 := (f3A (i + 11) (ne_o (i := i) (c := 11) (d := 7) rfl)).trans hgy163
                          have hgy165 := (f3B (i + 11) (ne_o (i := i) (c := 11) (d := 4) rfl) (ne_o (i := i) (c := 11) (d := 5) rfl) (ne_o (i := i) (c := 11) (d := 6) rfl)).trans hgy164
                          have hgy166 := (f3C (i + 11) (ne_o (i := i) (c := 11) (d := 1) rfl)).trans hgy165
                          have hgy167 := up_n egy49 hgy166 (ne_o (i := i) (c := 11) (d := 1) rfl)
                          have hgy168 := (f3D (i + 11) (ne_o (i := i) (c := 11) (d := 1) rfl) (ne_o (i := i) (c := 11) (d := 2) rfl) (ne_o (i := i) (c := 11) (d := 3) rfl)).trans hgy167
                          have hgy169 := up_n egy59 hgy168 (ne_o (i := i) (c := 11) (d := 0) rfl)
                          have hgy170 := up_n egy62 hgy169 (ne_o (i := i) (c := 11) (d := 0) rfl)
                          have hgy171 := up_n egy65 hgy170 (ne_o (i := i) (c := 11) (d := 0) rfl)
                          have hgy172 := up_n egy68 hgy171 (ne_o (i := i) (c := 11) (d := 0) rfl)
                          have hgy173 := up_n egy33 ha12 (ne_o (i := i) (c := 12) (d := 0) rfl)
                          have hgy174 := up_n egy36 hgy173 (ne_o (i := i) (c := 12) (d := 0) rfl)
                          have hgy175 := (hfvy40 (i + 12) (ne_o (i := i) (c := 12) (d := 7) rfl)).trans hgy174
                          have hgy176 := (f3A (i + 12) (ne_o (i := i) (c := 12) (d := 7) rfl)).trans hgy175
                          have hgy177 := (f3B (i + 12) (ne_o (i := i) (c := 12) (d := 4) rfl) (ne_o (i := i) (c := 12) (d := 5) rfl) (ne_o (i := i) (c := 12) (d := 6) rfl)).trans hgy176
                          have hgy178 := (f3C (i + 12) (ne_o (i := i) (c := 12) (d := 1) rfl)).trans hgy177
                          have hgy179 := up_n egy49 hgy178 (ne_o (i := i) (c := 12) (d := 1) rfl)
                          have hgy180 := (f3D (i + 12) (ne_o (i := i) (c := 12) (d := 1) rfl) (ne_o (i := i) (c := 12) (d := 2) rfl) (ne_o (i := i) (c := 12) (d := 3) rfl)).trans hgy179
                          have hgy181 := up_n egy59 hgy180 (ne_o (i := i) (c := 12) (d := 0) rfl)
                          have hgy182 := up_n egy62 hgy181 (ne_o (i := i) (c := 12) (d := 0) rfl)
                          have hgy183 := up_n egy65 hgy182 (ne_o (i := i) (c := 12) (d := 0) rfl)
                          have hgy184 := up_n egy68 hgy183 (ne_o (i := i) (c := 12) (d := 0) rfl)
                          have hgy185 := up_n egy33 ha13 (ne_o (i := i) (c := 13) (d := 0) rfl)
                          have hgy186 := up_n egy36 hgy185 (ne_o (i := i) (c := 13) (d := 0) rfl)
                          have hgy187 := (hfvy40 (i + 13) (ne_o (i := i) (c := 13) (d := 7) rfl)).trans hgy186
                          have hgy188 := (f3A (i + 13) (ne_o (i := i) (c := 13) (d := 7) rfl)).trans hgy187
                          have hgy189 := (f3B (i + 13) (ne_o (i := i) (c := 13) (d := 4) rfl) (ne_o (i := i) (c := 13) (d := 5) rfl) (ne_o (i := i) (c := 13) (d := 6) rfl)).trans hgy188
                          have hgy190 := (f3C (i + 13) (ne_o (i := i) (c := 13) (d := 1) rfl)).trans hgy189
                          have hgy191 := up_n egy49 hgy190 (ne_o (i := i) (c := 13) (d := 1) rfl)
                          have hgy192 := (f3D (i + 13) (ne_o (i := i) (c := 13) (d := 1) rfl) (ne_o (i := i) (c := 13) (d := 2) rfl) (ne_o (i := i) (c := 13) (d := 3) rfl)).trans hgy191
                          have hgy193 := up_n egy59 hgy192 (ne_o (i := i) (c := 13) (d := 0) rfl)
                          have hgy194 := up_n egy62 hgy193 (ne_o (i := i) (c := 13) (d := 0) rfl)
                          have hgy195 := up_n egy65 hgy194 (ne_o (i := i) (c := 13) (d := 0) rfl)
                          have hgy196 := up_n egy68 hgy195 (ne_o (i := i) (c := 13) (d := 0) rfl)
                          have hgy197 := up_n egy33 ha14 (ne_o (i := i) (c := 14) (d := 0) rfl)
                          have hgy198 := up_n egy36 hgy197 (ne_o (i := i) (c := 14) (d := 0) rfl)
                          have hgy199 := (hfvy40 (i + 14) (ne_o (i := i) (c := 14) (d := 7) rfl)).trans hgy198
                          have hgy200 := (f3A (i + 14) (ne_o (i := i) (c := 14) (d := 7) rfl)).trans hgy199
                          have hgy201 := (f3B (i + 14) (ne_o (i := i) (c := 14) (d := 4) rfl) (ne_o (i := i) (c := 14) (d := 5) rfl) (ne_o (i := i) (c := 14) (d := 6) rfl)).trans hgy200
                          have hgy202 := (f3C (i + 14) (ne_o (i := i) (c := 14) (d := 1) rfl)).trans hgy201
                          have hgy203 := up_n egy49 hgy202 (ne_o (i := i) (c := 14) (d := 1) rfl)
                          have hgy204 := (f3D (i + 14) (ne_o (i := i) (c := 14) (d := 1) rfl) (ne_o (i := i) (c := 14) (d := 2) rfl) (ne_o (i := i) (c := 14) (d := 3) rfl)).trans hgy203
                          have hgy205 := up_n egy59 hgy204 (ne_o (i := i) (c := 14) (d := 0) rfl)
                          have hgy206 := up_n egy62 hgy205 (ne_o (i := i) (c := 14) (d := 0) rfl)
                          have hgy207 := up_n egy65 hgy206 (ne_o (i := i) (c := 14) (d := 0) rfl)
                          have hgy208 := up_n egy68 hgy207 (ne_o (i := i) (c := 14) (d := 0) rfl)
                          have hgy209 := up_n egy33 ha15 (ne_o (i := i) (c := 15) (d := 0) rfl)
                          have hgy210 := up_n egy36 hgy209 (ne_o (i := i) (c := 15) (d := 0) rfl)
                          have hgy211 := (hfvy40 (i + 15) (ne_o (i := i) (c := 15) (d := 7) rfl)).trans hgy210
                          have hgy212 := (f3A (i + 15) (ne_o (i := i) (c := 15) (d := 7) rfl)).trans hgy211
                          have hgy213 := (f3B (i + 15) (ne_o (i := i) (c := 15) (d := 4) rfl) (ne_o (i := i) (c := 15) (d := 5) rfl) (ne_o (i := i) (c := 15) (d := 6) rfl)).trans hgy212
                          have hgy214 := (f3C (i + 15) (ne_o (i := i) (c := 15) (d := 1) rfl)).trans hgy213
                          have hgy215 := up_n egy49 hgy214 (ne_o (i := i) (c := 15) (d := 1) rfl)
                          have hgy216 := (f3D (i + 15) (ne_o (i := i) (c := 15) (d := 1) rfl) (ne_o (i := i) (c := 15) (d := 2) rfl) (ne_o (i := i) (c := 15) (d := 3) rfl)).trans hgy215
                          have hgy217 := up_n egy59 hgy216 (ne_o (i := i) (c := 15) (d := 0) rfl)
                          have hgy218 := up_n egy62 hgy217 (ne_o (i := i) (c := 15) (d := 0) rfl)
                          have hgy219 := up_n egy65 hgy218 (ne_o (i := i) (c := 15) (d := 0) rfl)
                          have hgy220 := up_n egy68 hgy219 (ne_o (i := i) (c := 15) (d := 0) rfl)
                          have hgy221 := up_n egy33 ha24 (ne_o (i := i) (c := 24) (d := 0) rfl)
                          have hgy222 := up_n egy36 hgy221 (ne_o (i := i) (c := 24) (d := 0) rfl)
                          have hgy223 := (hfvy40 (i + 24) (ne_o (i := i) (c := 24) (d := 7) rfl)).trans hgy222
                          have hgy224 := (f3A (i + 24) (ne_o (i := i) (c := 24) (d := 7) rfl)).trans hgy223
                          have hgy225 := (f3B (i + 24) (ne_o (i := i) (c := 24) (d := 4) rfl) (ne_o (i := i) (c := 24) (d := 5) rfl) (ne_o (i := i) (c := 24) (d := 6) rfl)).trans hgy224
                          have hgy226 := (f3C (i + 24) (ne_o (i := i) (c := 24) (d := 1) rfl)).trans hgy225
                          have hgy227 := up_n egy49 hgy226 (ne_o (i := i) (c := 24) (d := 1) rfl)
                          have hgy228 := (f3D (i + 24) (ne_o (i := i) (c := 24) (d := 1) rfl) (ne_o (i := i) (c := 24) (d := 2) rfl) (ne_o (i := i) (c := 24) (d := 3) rfl)).trans hgy227
                          have hgy229 := up_n egy59 hgy228 (ne_o (i := i) (c := 24) (d := 0) rfl)
                          have hgy230 := up_n egy62 hgy229 (ne_o (i := i) (c := 24) (d := 0) rfl)
                          have hgy231 := up_n egy65 hgy230 (ne_o (i := i) (c := 24) (d := 0) rfl)
                          have hgy232 := up_n egy68 hgy231 (ne_o (i := i) (c := 24) (d := 0) rfl)
                          have hgy233 := up_n egy33 ha25 (ne_o (i := i) (c := 25) (d := 0) rfl)
                          have hgy234 := up_n egy36 hgy233 (ne_o (i := i) (c := 25) (d := 0) rfl)
                          have hgy235 := (hfvy40 (i + 25) (ne_o (i := i) (c := 25) (d := 7) rfl)).trans hgy234
                          have hgy236 := (f3A (i + 25) (ne_o (i := i) (c := 25) (d := 7) rfl)).trans hgy235
                          have hgy237 := (f3B (i + 25) (ne_o (i := i) (c := 25) (d := 4) rfl) (ne_o (i := i) (c := 25) (d := 5) rfl) (ne_o (i := i) (c := 25) (d := 6) rfl)).trans hgy236
                          have hgy238 := (f3C (i + 25) (ne_o (i := i) (c := 25) (d := 1) rfl)).trans hgy237
                          have hgy239 := up_n egy49 hgy238 (ne_o (i := i) (c := 25) (d := 1) rfl)
                          have hgy240 := (f3D (i + 25) (ne_o (i := i) (c := 25) (d := 1) rfl) (ne_o (i := i) (c := 25) (d := 2) rfl) (ne_o (i := i) (c := 25) (d := 3) rfl)).trans hgy239
                          have hgy241 := up_n egy59 hgy240 (ne_o (i := i) (c := 25) (d := 0) rfl)
                          have hgy242 := up_n egy62 hgy241 (ne_o (i := i) (c := 25) (d := 0) rfl)
                          have hgy243 := up_n egy65 hgy242 (ne_o (i := i) (c := 25) (d := 0) rfl)
                          have hgy244 := up_n egy68 hgy243 (ne_o (i := i) (c := 25) (d := 0) rfl)
                          have hgy245 := up_n egy33 ha26 (ne_o (i := i) (c := 26) (d := 0) rfl)
                          have hgy246 := up_n egy36 hgy245 (ne_o (i := i) (c := 26) (d := 0) rfl)
                          have hgy247 := (hfvy40 (i + 26) (ne_o (i := i) (c := 26) (d := 7) rfl)).trans hgy246
                          have hgy248 := (f3A (i + 26) (ne_o (i := i) (c := 26) (d := 7) rfl)).trans hgy247
                          have hgy249 := (f3B (i + 26) (ne_o (i := i) (c := 26) (d := 4) rfl) (ne_o (i := i) (c := 26) (d := 5) rfl) (ne_o (i := i) (c := 26) (d := 6) rfl)).trans hgy248
                          have hgy250 := (f3C (i + 26) (ne_o (i := i) (c := 26) (d := 1) rfl)).trans hgy249
                          have hgy251 := up_n egy49 hgy250 (ne_o (i := i) (c := 26) (d := 1) rfl)
                          have hgy252 := (f3D (i + 26) (ne_o (i := i) (c := 26) (d := 1) rfl) (ne_o (i := i) (c := 26) (d := 2) rfl) (ne_o (i := i) (c := 26) (d := 3) rfl)).trans hgy251
                          have hgy253 := up_n egy59 hgy252 (ne_o (i := i) (c := 26) (d := 0) rfl)
                          have hgy254 := up_n egy62 hgy253 (ne_o (i := i) (c := 26) (d := 0) rfl)
                          have hgy255 := up_n egy65 hgy254 (ne_o (i := i) (c := 26) (d := 0) rfl)
                          have hgy256 := up_n egy68 hgy255 (ne_o (i := i) (c := 26) (d := 0) rfl)
                          have hgy257 := up_n egy33 ha27 (ne_o (i := i) (c := 27) (d := 0) rfl)
                          have hgy258 := up_n egy36 hgy257 (ne_o (i := i) (c := 27) (d := 0) rfl)
                          have hgy259 := (hfvy40 (i + 27) (ne_o (i := i) (c := 27) (d := 7) rfl)).trans hgy258
                          have hgy260 := (f3A (i + 27) (ne_o (i := i) (c := 27) (d := 7) rfl)).trans hgy259
                          have hgy261 := (f3B (i + 27) (ne_o (i := i) (c := 27) (d := 4) rfl) (ne_o (i := i) (c := 27) (d := 5) rfl) (ne_o (i := i) (c := 27) (d := 6) rfl)).trans hgy260
                          have hgy262 := (f3C (i + 27) (ne_o (i := i) (c := 27) (d := 1) rfl)).trans hgy261
                          have hgy263 := up_n egy49 hgy262 (ne_o (i := i) (c := 27) (d := 1) rfl)
                          have hgy264 := (f3D (i + 27) (ne_o (i := i) (c := 27) (d := 1) rfl) (ne_o (i := i) (c := 27) (d := 2) rfl) (ne_o (i := i) (c := 27) (d := 3) rfl)).trans hgy263
                          have hgy265 := up_n egy59 hgy264 (ne_o (i := i) (c := 27) (d := 0) rfl)
                          have hgy266 := up_n egy62 hgy265 (ne_o (i := i) (c := 27) (d := 0) rfl)
                          have hgy267 := up_n egy65 hgy266 (ne_o (i := i) (c := 27) (d := 0) rfl)
                          have hgy268 := up_n egy68 hgy267 (ne_o (i := i) (c := 27) (d := 0) rfl)
                          have hgy269 := up_n egy33 ha28 (ne_o (i := i) (c := 28) (d := 0) rfl)
                          have hgy270 := up_n egy36 hgy269 (ne_o (i := i) (c := 28) (d := 0) rfl)
                          have hgy271 := (hfvy40 (i + 28) (ne_o (i := i) (c := 28) (d := 7) rfl)).trans hgy270
                          have hgy272 := (f3A (i + 28) (ne_o (i := i) (c := 28) (d := 7) rfl)).trans hgy271
                          have hgy273 := (f3B (i + 28) (ne_o (i := i) (c := 28) (d := 4) rfl) (ne_o (i := i) (c := 28) (d := 5) rfl) (ne_o (i := i) (c := 28) (d := 6) rfl)).trans hgy272
                          have hgy274 := (f3C (i + 28) (ne_o (i := i) (c := 28) (d := 1) rfl)).trans hgy273
                          have hgy275 := up_n egy49 hgy274 (ne_o (i := i) (c := 28) (d := 1) rfl)
                          have hgy276 := (f3D (i + 28) (ne_o (i := i) (c := 28) (d := 1) rfl) (ne_o (i := i) (c := 28) (d := 2) rfl) (ne_o (i := i) (c := 28) (d := 3) rfl)).trans hgy275
                          have hgy277 := up_n egy59 hgy276 (ne_o (i := i) (c := 28) (d := 0) rfl)
                          have hgy278 := up_n egy62 hgy277 (ne_o (i := i) (c := 28) (d := 0) rfl)
                          have hgy279 := up_n egy65 hgy278 (ne_o (i := i) (c := 28) (d := 0) rfl)
                          have hgy280 := up_n egy68 hgy279 (ne_o (i := i) (c := 28) (d := 0) rfl)
                          have hgy281 := up_n egy33 ha29 (ne_o (i := i) (c := 29) (d := 0) rfl)
                          have hgy282 := up_n egy36 hgy281 (ne_o (i := i) (c := 29) (d := 0) rfl)
                          have hgy283 := (hfvy40 (i + 29) (ne_o (i := i) (c := 29) (d := 7) rfl)).trans hgy282
                          have hgy284 := (f3A (i + 29) (ne_o (i := i) (c := 29) (d := 7) rfl)).trans hgy283
                          have hgy285 := (f3B (i + 29) (ne_o (i := i) (c := 29) (d := 4) rfl) (ne_o (i := i) (c := 29) (d := 5) rfl) (ne_o (i := i) (c := 29) (d := 6) rfl)).trans hgy284
                          have hgy286 := (f3C (i + 29) (ne_o (i := i) (c := 29) (d := 1) rfl)).trans hgy285
                          have hgy287 := up_n egy49 hgy286 (ne_o (i := i) (c := 29) (d := 1) rfl)
                          have hgy288 := (f3D (i + 29) (ne_o (i := i) (c := 29) (d := 1) rfl) (ne_o (i := i) (c := 29) (d := 2) rfl) (ne_o (i := i) (c := 29) (d := 3) rfl)).trans hgy287
                          have hgy289 := up_n egy59 hgy288 (ne_o (i := i) (c := 29) (d := 0) rfl)
                          have hgy290 := up_n egy62 hgy289 (ne_o (i := i) (c := 29) (d := 0) rfl)
                          have hgy291 := up_n egy65 hgy290 (ne_o (i := i) (c := 29) (d := 0) rfl)
                          have hgy292 := up_n egy68 hgy291 (ne_o (i := i) (c := 29) (d := 0) rfl)
                          have hM9 : okMr cs ad gy67 i x (uZ (uZ (uZ (uZ (uZ (uZ F 13 (F 47)) 14 (F 48)) 21 (0)) 17 (0)) 16 (0)) 15 (0)) rd9 := ⟨hgy69, hK9, (RD.put (RD.put (RD.put (RD.put (RD.put (RD.put hRD (by decide)) (by decide)) (by decide)) (by decide)) (by decide)) (by decide)), hT9.weak, hA9, _, _, _, _, _, _, _, _, _, _, _, _, _, _, _, _, _, _, _, _, ⟨hgy87, hgy91, hgy95, hgy102, hgy109, hgy116, hgy124, hgy136, hgy148, hgy160, hgy172, hgy184, hgy196, hgy208, hgy220, hgy232, hgy244, hgy256, hgy268, hgy280, hgy292⟩, ⟨hK9.1, fDo, fBa, fBf, fun k hk => (fTa k hk).1, fun k h1 h2 => (fTa k h2).2 h1⟩, hPt, hns, htp⟩
                          exact z_vret C hr hlk dX10_becomes_253 (by decide) (by decide) ⟨rfl, rfl, rfl, ⟨_, _, hM9, by omega⟩, fun j j1 => by rw [egy68, va_up_ne _ _ (by omega)]; rw [egy65, va_up_ne _ _ (by omega)]; rw [egy62, va_up_ne _ _ (by omega)]; rw [egy59, va_up_ne _ _ (by omega)]; rw [f3D _ (by omega) (by omega) (by omega)]; rw [egy49, va_up_ne _ _ (by omega)]; rw [f3C _ (by omega)]; rw [f3B _ (by omega) (by omega) (by omega)]; rw [f3A _ (by omega)]; rw [hfvy40 _ (by omega)]; rw [egy36, va_up_ne _ _ (by omega)]; rw [egy33, va_up_ne _ _ (by omega)]⟩
                        · refine z_aload_n C 0 dX10_becomes_150 rfl ?_
                          refine z_get (v := .ref (ad (i + 2))) C (by omega) hay1 hgy56 rfl inA_X10 1 (by decide) q_1460 rfl rfl dX10_becomes_151 ?_
                          refine z_iload_n C 1 dX10_becomes_154 rfl ?_
                          refine z_aload_n C 0 dX10_becomes_155 rfl ?_
                          refine z_get (v := .ref (ad (i + 16))) C (by omega) hay1 hgy56 rfl inA_X10 39 (by decide) q_1498 rfl rfl dX10_becomes_156 ?_
                          refine z_iload_n C 1 dX10_becomes_159 rfl ?_
                          have hgy293 := up_n egy33 ha16 (ne_o (i := i) (c := 16) (d := 0) rfl)
                          have hgy294 := up_n egy36 hgy293 (ne_o (i := i) (c := 16) (d := 0) rfl)
                          have hgy295 := (hfvy40 (i + 16) (ne_o (i := i) (c := 16) (d := 7) rfl)).trans hgy294
                          have hgy296 := (f3A (i + 16) (ne_o (i := i) (c := 16) (d := 7) rfl)).trans hgy295
                          have hgy297 := (f3B (i + 16) (ne_o (i := i) (c := 16) (d := 4) rfl) (ne_o (i := i) (c := 16) (d := 5) rfl) (ne_o (i := i) (c := 16) (d := 6) rfl)).trans hgy296
                          have hgy298 := (f3C (i + 16) (ne_o (i := i) (c := 16) (d := 1) rfl)).trans hgy297
                          have hgy299 := up_n egy49 hgy298 (ne_o (i := i) (c := 16) (d := 1) rfl)
                          have hgy300 := (f3D (i + 16) (ne_o (i := i) (c := 16) (d := 1) rfl) (ne_o (i := i) (c := 16) (d := 2) rfl) (ne_o (i := i) (c := 16) (d := 3) rfl)).trans hgy299
                          refine z_iald C (by omega) hay24 hgy300 (nkD) (by omega) (by omega) (by decide) dX10_becomes_160 ?_
                          refine z_iast C (by omega) hay3 f2D_st9 (nkD) (by omega) (by omega) (by decide) dX10_becomes_161 (fun gy301 egy302 => ?_)
                          have hgy303 := up_s egy302
                          refine z_aload_n C 0 dX10_becomes_162 rfl ?_
                          have hgy304 := up_n egy302 hgy56 (ne_o (i := i) (c := 0) (d := 2) rfl)
                          refine z_get (v := .ref (ad (i + 3))) C (by omega) hay1 hgy304 rfl inA_X10 2 (by decide) q_1461 rfl rfl dX10_becomes_163 ?_
                          refine z_iload_n C 1 dX10_becomes_166 rfl ?_
                          refine z_aload_n C 0 dX10_becomes_167 rfl ?_
                          refine z_get (v := .ref (ad (i + 17))) C (by omega) hay1 hgy304 rfl inA_X10 40 (by decide) q_1499 rfl rfl dX10_becomes_168 ?_
                          refine z_iload_n C 1 dX10_becomes_171 rfl ?_
                          have hgy305 := up_n egy33 ha17 (ne_o (i := i) (c := 17) (d := 0) rfl)
                          have hgy306 := up_n egy36 hgy305 (ne_o (i := i) (c := 17) (d := 0) rfl)
                          have hgy307 := (hfvy40 (i + 17) (ne_o (i := i) (c := 17) (d := 7) rfl)).trans hgy306
                          have hgy308 := (f3A (i + 17) (ne_o (i := i) (c := 17) (d := 7) rfl)).trans hgy307
                          have hgy309 := (f3B (i + 17) (ne_o (i := i) (c := 17) (d := 4) rfl) (ne_o (i := i) (c := 17) (d := 5) rfl) (ne_o (i := i) (c := 17) (d := 6) rfl)).trans hgy308
                          have hgy310 := (f3C (i + 17) (ne_o (i := i) (c := 17) (d := 1) rfl)).trans hgy309
                          have hgy311 := up_n egy49 hgy310 (ne_o (i := i) (c := 17) (d := 1) rfl)
                          have hgy312 := (f3D (i + 17) (ne_o (i := i) (c := 17) (d := 1) rfl) (ne_o (i := i) (c := 17) (d := 2) rfl) (ne_o (i := i) (c := 17) (d := 3) rfl)).trans hgy311
                          have hgy313 := up_n egy302 hgy312 (ne_o (i := i) (c := 17) (d := 2) rfl)
                          refine z_iald C (by omega) hay25 hgy313 (nkD) (by omega) (by omega) (by decide) dX10_becomes_172 ?_
                          have hrfy314 := hop1 (nkD) (by omega)
                          have hgy315 := up_n egy302 f2D_op9 (ne_o (i := i) (c := 3) (d := 2) rfl)
                          refine z_iast C (by omega) hay4 hgy315 (nkD) (by omega) (by omega) (by decide) dX10_becomes_173 (fun gy316 egy317 => ?_)
                          have hgy318 := up_s egy317
                          obtain ⟨ry319, hvy320⟩ : ∃ rZ9 : Nat → Int, rZ9 = uZ op9 (nkD) (op1 (nkD)) := ⟨_, rfl⟩
                          rw [← hvy320] at hgy318
                          refine z_aload_n C 0 dX10_becomes_174 rfl ?_
                          refine z_iconst (z := 0) C dX10_becomes_175 rfl ?_
                          refine z_iload_n C 1 dX10_becomes_176 rfl ?_
                          refine z_aload_n C 0 dX10_becomes_177 rfl ?_
                          have hgy321 := up_n egy317 hgy304 (ne_o (i := i) (c := 0) (d := 3) rfl)
                          refine z_get (v := .ref (ad (i + 18))) C (by omega) hay1 hgy321 rfl inA_X10 41 (by decide) q_1500 rfl rfl dX10_becomes_178 ?_
                          refine z_iload_n C 1 dX10_becomes_181 rfl ?_
                          have hgy322 := up_n egy33 ha18 (ne_o (i := i) (c := 18) (d := 0) rfl)
                          have hgy323 := up_n egy36 hgy322 (ne_o (i := i) (c := 18) (d := 0) rfl)
                          have hgy324 := (hfvy40 (i + 18) (ne_o (i := i) (c := 18) (d := 7) rfl)).trans hgy323
                          have hgy325 := (f3A (i + 18) (ne_o (i := i) (c := 18) (d := 7) rfl)).trans hgy324
                          have hgy326 := (f3B (i + 18) (ne_o (i := i) (c := 18) (d := 4) rfl) (ne_o (i := i) (c := 18) (d := 5) rfl) (ne_o (i := i) (c := 18) (d := 6) rfl)).trans hgy325
                          have hgy327 := (f3C (i + 18) (ne_o (i := i) (c := 18) (d := 1) rfl)).trans hgy326
                          have hgy328 := up_n egy49 hgy327 (ne_o (i := i) (c := 18) (d := 1) rfl)
                          have hgy329 := (f3D (i + 18) (ne_o (i := i) (c := 18) (d := 1) rfl) (ne_o (i := i) (c := 18) (d := 2) rfl) (ne_o (i := i) (c := 18) (d := 3) rfl)).trans hgy328
                          have hgy330 := up_n egy302 hgy329 (ne_o (i := i) (c := 18) (d := 2) rfl)
                          have hgy331 := up_n egy317 hgy330 (ne_o (i := i) (c := 18) (d := 3) rfl)
                          refine z_iald C (by omega) hay26 hgy331 (nkD) (by omega) (by omega) (by decide) dX10_becomes_182 ?_
                          have hrfy332 := hmn1 (nkD) (by omega)
                          obtain ⟨ny333, hny333⟩ : ∃ n9 : Nat, sd = (n9 : Int) := ⟨(sd).toNat, by omega⟩
                          rw [hny333]
                          obtain ⟨py334, hpy334⟩ : ∃ p9 : Nat, 0 + 6 + 86 * ny333 = p9 := ⟨_, rfl⟩
                          have hgy335 := up_n egy302 f2D_rd9 (ne_o (i := i) (c := 1) (d := 2) rfl)
                          have hgy336 := up_n egy317 hgy335 (ne_o (i := i) (c := 1) (d := 3) rfl)
                          refine z_cV (As := [.int (zI (0)), .int (zI ((ny333 : Int))), .int (zI (mn1 (nkD)))]) (rest := []) (ci := 12) C (c_X10_setsMany l D A cs tt N ad _ i hN _ hgy321 _ hgy336 0 ny333 py334 hpy334 (by omega) (by omega) (mn1 (nkD))) (by omega) hay1 hgy321 rfl rfl mv_yX10_setsMany q_1717 hd_yX10_setsMany (by decide) (Nat.le_of_ble_eq_true rfl) (by decide) dX10_becomes_183 rfl (kV0 fun gvy337 hvy337 => ?_)
                          obtain ⟨hcvy337, hfvy337⟩ := hvy337
                          obtain ⟨ry338, hvy339⟩ : ∃ rZ9 : Nat → Int, rZ9 = uZ rd9 (py334) (mn1 (nkD)) := ⟨_, rfl⟩
                          rw [← hvy339] at hcvy337
                          refine z_iconst (z := 0) C dX10_becomes_186 rfl ?_
                          refine z_istore_n (lv' := [(2, .int (zI (0))), (0, .ref (ad i)), (1, .int (zI ((ny333 : Int))))]) C dX10_becomes_187 rfl (by decide) rfl ?_
                          have hfry340 : ∀ j, j ≠ py334 → ry338 j = rd9 j := fun j n0 => (congrFun hvy339 _).trans ((uZ_n _ _ n0).trans (rfl))
                          have hwy341 : ry338 (py334) = mn1 (nkD) := (congrFun hvy339 _).trans (uZ_s _ _ _)
                          have hnD : nkD = ny333 := by omega
                          have hmE : ry338 py334 = mn1 ny333 := by rw [← hnD]; omega
                          have hmr := hmn1 ny333 (by omega)
                          have hopE : ∀ k, k < 4 → 0 ≤ ry319 k ∧ ry319 k ≤ 20 := fun k hk => by rw [hvy320]; exact uZ_any fDo (by omega) k hk
                          have E : ∀ (n9 : Nat) (ke : Int) (re9 : Nat → Int) (g1 : Nat → va_E), (85 - ke).toNat = n9 → (g1 (i + 1) = iA cs 29200 re9) → (∀ j, j ≠ i + 1 → g1 j = gvy337 j) → (∀ k : Nat, (k : Int) < ke → re9 (py334 + 2 + k) = ly1 (84 * ny333 + k)) → (∀ j, (j < py334 + 2 ∨ py334 + 86 ≤ j) → re9 j = ry338 j) → (0 ≤ ke ∧ ke ≤ 84) → zV pZ l eZ ({ frames := 2, cells := 0, slots := 0, locals := 120 } : Room) sZ mZ ([.ref (ad i)] : List Value).toArray below meth cZ (MQ below (zPost D A (rV0 N ad fun g' => (∃ F' r' : Nat → Int, okMr cs ad g' i x F' r' ∧ F' 23 = F 23) ∧ ∀ j, j < i ∨ i + 30 ≤ j → g' j = g j)) ([.ref (ad i)] : List Value).toArray sZ ({ frames := 2, cells := 0, slots := 0, locals := 120 } : Room).cells ({ frames := 2, cells := 0, slots := 0, locals := 120 } : Room).slots A) D A 3 (N) ad g1 (0) (0) 188 [(0, .ref (ad i)), (1, .int (zI ((ny333 : Int)))), (2, .int (zI (ke)))] [] := by
                            intro n9
                            induction n9 using Nat.strongRecOn with
                            | ind n9 ih_E =>
                              intro ke re9 g1 hm9 f2E_re9 f3E fE1 fE2 hvkE
                              obtain ⟨nkE, hnkE⟩ : ∃ n9 : Nat, ke = (n9 : Int) := ⟨ke.toNat, by omega⟩
                              obtain ⟨nj, hnj⟩ : ∃ n9 : Nat, py334 + 2 + nkE = n9 := ⟨_, rfl⟩
                              obtain ⟨nl, hnl⟩ : ∃ n9 : Nat, 84 * ny333 + nkE = n9 := ⟨_, rfl⟩
                              refine z_iload_n C 2 dX10_becomes_188 rfl ?_
                              refine z_bipush (z := 84) C dX10_becomes_189 (by decide) ?_
                              refine z_icmp_ge (tgt := 227) C dX10_becomes_191 (by decide) (by omega) (by omega) (fun hby342 => ?_) (fun hby342 => ?_)
                              · refine z_iinc (z := (ny333 : Int) + 1) (lv' := [(1, .int (zI ((ny333 : Int) + 1))), (0, .ref (ad i)), (2, .int (zI (ke)))]) (j := 1) C dX10_becomes_227 rfl rfl (by decide) rfl ?_
                                refine z_goto (tgt := 142) C dX10_becomes_230 (by decide) ?_
                                have hokE : okS re9 py334 2400 12000 := okS.ofT (ly1 := ly1) (q0 := 84 * ny333) (m := mn1 ny333) ((fE2 py334 (by omega)).trans hmE) hmr (fun l hl => hly1 ny333 l (by omega) hl) (fun k hk => fE1 k (by omega))
                                have hfr9 : ∀ j, j < py334 ∨ py334 + 86 ≤ j → re9 j = rd9 j := fun j a => (fE2 j (by omega)).trans (hfry340 j (by omega))
                                have hgy343 := up_n egy317 hgy303 (ne_o (i := i) (c := 2) (d := 3) rfl)
                                have hgy344 := (hfvy337 (i + 2) (ne_o (i := i) (c := 2) (d := 1) rfl)).trans hgy343
                                have hgy345 := (f3E (i + 2) (ne_o (i := i) (c := 2) (d := 1) rfl)).trans hgy344
                                have hgy346 := (hfvy337 (i + 3) (ne_o (i := i) (c := 3) (d := 1) rfl)).trans hgy318
                                have hgy347 := (f3E (i + 3) (ne_o (i := i) (c := 3) (d := 1) rfl)).trans hgy346
                                refine z_lv (lv' := [(0, .ref (ad i)), (1, .int (zI ((ny333 : Int) + 1)))]) [1, 0] rfl ?_
                                exact ih_D _ (by omega) ((ny333 : Int) + 1) (re9) (uZ (st9) (nkD) (st1 (nkD))) (ry319) g1 rfl f2E_re9 hgy345 hgy347 (fun j j1 j2 j3 => by rw [f3E _ (by omega)]; rw [hfvy337 _ (by omega)]; rw [egy317, va_up_ne _ _ (by omega)]; rw [egy302, va_up_ne _ _ (by omega)]; exact f3D j j1 j2 j3) hopE ((hfr9 0 (by omega)).trans fD0) ((hfr9 1 (by omega)).trans fD1) ((hfr9 5 (by omega)).trans fD5) (fun j a => (hfr9 j (by omega)).trans (fDr j a)) (fun s hs => by
                                    by_cases e : s = ny333
                                    · subst e; exact ⟨fun _ => hokE.of (by omega), fun h => absurd h (by omega)⟩
                                    · exact ⟨fun h => ((fDs s hs).1 (by omega)).ext (fun j b1 b2 => hfr9 j (by omega)), fun h => (hfr9 (6 + 86 * s) (by omega)).trans ((fDs s hs).2 (by omega))⟩) (by omega)
                              · refine z_aload_n C 0 dX10_becomes_194 rfl ?_
                                have hgy348 := (hfvy337 (i) (ne_o (i := i) (c := 0) (d := 1) rfl)).trans hgy321
                                have hgy349 := (f3E (i) (ne_o (i := i) (c := 0) (d := 1) rfl)).trans hgy348
                                refine z_get (v := .ref (ad (i + 1))) C (by omega) hay1 hgy349 rfl inA_X10 0 (by decide) q_1459 rfl rfl dX10_becomes_195 ?_
                                refine z_bipush (z := 6) C dX10_becomes_198 (by decide) ?_
                                refine z_bipush (z := 86) C dX10_becomes_200 (by decide) ?_
                                refine z_iload_n C 1 dX10_becomes_202 rfl ?_
                                refine z_imul C dX10_becomes_203 ?_
                                refine z_iadd C dX10_becomes_204 ?_
                                refine z_iconst (z := 2) C dX10_becomes_205 rfl ?_
                                refine z_iadd C dX10_becomes_206 ?_
                                refine z_iload_n C 2 dX10_becomes_207 rfl ?_
                                refine z_iadd C dX10_becomes_208 ?_
                                refine z_aload_n C 0 dX10_becomes_209 rfl ?_
                                refine z_get (v := .ref (ad (i + 23))) C (by omega) hay1 hgy349 rfl inA_X10 46 (by decide) q_1505 rfl rfl dX10_becomes_210 ?_
                                refine z_bipush (z := 84) C dX10_becomes_213 (by decide) ?_
                                refine z_iload_n C 1 dX10_becomes_215 rfl ?_
                                refine z_imul C dX10_becomes_216 ?_
                                refine z_iload_n C 2 dX10_becomes_217 rfl ?_
                                refine z_iadd C dX10_becomes_218 ?_
                                have hgy350 := up_n egy33 ha23 (ne_o (i := i) (c := 23) (d := 0) rfl)
                                have hgy351 := up_n egy36 hgy350 (ne_o (i := i) (c := 23) (d := 0) rfl)
                                have hgy352 := (hfvy40 (i + 23) (ne_o (i := i) (c := 23) (d := 7) rfl)).trans hgy351
                                have hgy353 := (f3A (i + 23) (ne_o (i := i) (c := 23) (d := 7) rfl)).trans hgy352
                                have hgy354 := (f3B (i + 23) (ne_o (i := i) (c := 23) (d := 4) rfl) (ne_o (i := i) (c := 23) (d := 5) rfl) (ne_o (i := i) (c := 23) (d := 6) rfl)).trans hgy353
                                have hgy355 := (f3C (i + 23) (ne_o (i := i) (c := 23) (d := 1) rfl)).trans hgy354
                                have hgy356 := up_n egy49 hgy355 (ne_o (i := i) (c := 23) (d := 1) rfl)
                                have hgy357 := (f3D (i + 23) (ne_o (i := i) (c := 23) (d := 1) rfl) (ne_o (i := i) (c := 23) (d := 2) rfl) (ne_o (i := i) (c := 23) (d := 3) rfl)).trans hgy356
                                have hgy358 := up_n egy302 hgy357 (ne_o (i := i) (c := 23) (d := 2) rfl)
                                have hgy359 := up_n egy317 hgy358 (ne_o (i := i) (c := 23) (d := 3) rfl)
                                have hgy360 := (hfvy337 (i + 23) (ne_o (i := i) (c := 23) (d := 1) rfl)).trans hgy359
                                have hgy361 := (f3E (i + 23) (ne_o (i := i) (c := 23) (d := 1) rfl)).trans hgy360
                                refine z_iald C (by omega) hay31 hgy361 (nl) (by omega) (by omega) (by decide) dX10_becomes_219 ?_
                                refine z_iast C (by omega) hay2 f2E_re9 (nj) (by omega) (by omega) (by decide) dX10_becomes_220 (fun gy362 egy363 => ?_)
                                have hgy364 := up_s egy363
                                obtain ⟨ry365, hvy366⟩ : ∃ rZ9 : Nat → Int, rZ9 = uZ re9 (nj) (ly1 (nl)) := ⟨_, rfl⟩
                                rw [← hvy366] at hgy364
                                refine z_iinc (z := ke + 1) (lv' := [(2, .int (zI (ke + 1))), (0, .ref (ad i)), (1, .int (zI ((ny333 : Int))))]) (j := 2) C dX10_becomes_221 rfl rfl (by decide) rfl ?_
                                refine z_goto (tgt := 188) C dX10_becomes_224 (by decide) ?_
                                refine z_lv (lv' := [(0, .ref (ad i)), (1, .int (zI ((ny333 : Int)))), (2, .int (zI (ke + 1)))]) [1, 2, 0] rfl ?_
                                exact ih_E _ (by omega) (ke + 1) ry365 gy362 rfl hgy364 (fun j j1 => by rw [egy363, va_up_ne _ _ (by omega)]; exact f3E j j1) (fun k a => by rw [hvy366]; by_cases e : k = nkE; (subst e; rw [show py334 + 2 + k = nj by omega, uZ_s, show 84 * ny333 + k = nl by omega]); (rw [uZ_n _ _ (by omega)]; exact fE1 k (by omega))) (fun j a => by rw [hvy366, uZ_n _ _ (by omega)]; exact fE2 j (by omega)) (by omega)
                          refine z_lv (lv' := [(0, .ref (ad i)), (1, .int (zI ((ny333 : Int)))), (2, .int (zI (0)))]) [1, 2, 0] rfl ?_
                          exact E _ (0) ry338 gvy337 rfl hcvy337 (fun j _ => rfl) (fun k a => absurd a (by omega)) (fun j _ => rfl) (by omega)
                    have hgy367 := up_n egy33 ha2 (ne_o (i := i) (c := 2) (d := 0) rfl)
                    have hgy368 := up_n egy36 hgy367 (ne_o (i := i) (c := 2) (d := 0) rfl)
                    have hgy369 := (hfvy40 (i + 2) (ne_o (i := i) (c := 2) (d := 7) rfl)).trans hgy368
                    have hgy370 := (f3A (i + 2) (ne_o (i := i) (c := 2) (d := 7) rfl)).trans hgy369
                    have hgy371 := (f3B (i + 2) (ne_o (i := i) (c := 2) (d := 4) rfl) (ne_o (i := i) (c := 2) (d := 5) rfl) (ne_o (i := i) (c := 2) (d := 6) rfl)).trans hgy370
                    have hgy372 := (f3C (i + 2) (ne_o (i := i) (c := 2) (d := 1) rfl)).trans hgy371
                    have hgy373 := up_n egy49 hgy372 (ne_o (i := i) (c := 2) (d := 1) rfl)
                    have hgy374 := up_n egy33 ha3 (ne_o (i := i) (c := 3) (d := 0) rfl)
                    have hgy375 := up_n egy36 hgy374 (ne_o (i := i) (c := 3) (d := 0) rfl)
                    have hgy376 := (hfvy40 (i + 3) (ne_o (i := i) (c := 3) (d := 7) rfl)).trans hgy375
                    have hgy377 := (f3A (i + 3) (ne_o (i := i) (c := 3) (d := 7) rfl)).trans hgy376
                    have hgy378 := (f3B (i + 3) (ne_o (i := i) (c := 3) (d := 4) rfl) (ne_o (i := i) (c := 3) (d := 5) rfl) (ne_o (i := i) (c := 3) (d := 6) rfl)).trans hgy377
                    have hgy379 := (f3C (i + 3) (ne_o (i := i) (c := 3) (d := 1) rfl)).trans hgy378
                    have hgy380 := up_n egy49 hgy379 (ne_o (i := i) (c := 3) (d := 1) rfl)
                    refine z_lv (lv' := [(0, .ref (ad i)), (1, .int (zI (0)))]) [1, 0] rfl ?_
                    exact D _ (0) ry51 st op gy48 rfl hgy50 hgy373 hgy380 (fun j _ _ _ => rfl) (fun k hk => hop k hk) ((hfry53 0 (by omega)).trans (fCz 0 (by omega))) (by omega) ((hfry53 5 (by omega)).trans (fCz 5 (by omega))) (fun j a => (hfry53 j (by omega)).trans (fCr j (by omega))) (fun s hs => ⟨fun h => absurd h (by omega), fun _ => (hfry53 _ (by omega)).trans (fCz _ (by omega))⟩) (by omega)
                  · refine z_aload_n C 0 dX10_becomes_117 rfl ?_
                    have hgy381 := (f3C (i) (ne_o (i := i) (c := 0) (d := 1) rfl)).trans hgy44
                    refine z_get (v := .ref (ad (i + 1))) C (by omega) hay1 hgy381 rfl inA_X10 0 (by decide) q_1459 rfl rfl dX10_becomes_118 ?_
                    refine z_iload_n C 1 dX10_becomes_121 rfl ?_
                    refine z_iconst (z := 0) C dX10_becomes_122 rfl ?_
                    refine z_iast C (by omega) hay2 f2C_r9 (nkC) (by omega) (by omega) (by decide) dX10_becomes_123 (fun gy382 egy383 => ?_)
                    have hgy384 := up_s egy383
                    obtain ⟨ry385, hvy386⟩ : ∃ rZ9 : Nat → Int, rZ9 = uZ r9 (nkC) (0) := ⟨_, rfl⟩
                    rw [← hvy386] at hgy384
                    refine z_iinc (z := kc + 1) (lv' := [(1, .int (zI (kc + 1))), (0, .ref (ad i))]) (j := 1) C dX10_becomes_124 rfl rfl (by decide) rfl ?_
                    refine z_goto (tgt := 110) C dX10_becomes_127 (by decide) ?_
                    refine z_lv (lv' := [(0, .ref (ad i)), (1, .int (zI (kc + 1)))]) [1, 0] rfl ?_
                    exact ih_C _ (by omega) (kc + 1) ry385 gy382 rfl hgy384 (fun j j1 => by rw [egy383, va_up_ne _ _ (by omega)]; exact f3C j j1) (fun j a => by rw [hvy386]; by_cases e : j = nkC; (rw [e, uZ_s]); (rw [uZ_n _ _ e]; exact fCz j (by omega))) (fun j a => by rw [hvy386, uZ_n _ _ (by omega)]; exact fCr j (by omega)) (by omega)
              have hgy387 := up_n egy33 ha1 (ne_o (i := i) (c := 1) (d := 0) rfl)
              have hgy388 := up_n egy36 hgy387 (ne_o (i := i) (c := 1) (d := 0) rfl)
              have hgy389 := (hfvy40 (i + 1) (ne_o (i := i) (c := 1) (d := 7) rfl)).trans hgy388
              have hgy390 := (f3A (i + 1) (ne_o (i := i) (c := 1) (d := 7) rfl)).trans hgy389
              have hgy391 := (f3B (i + 1) (ne_o (i := i) (c := 1) (d := 4) rfl) (ne_o (i := i) (c := 1) (d := 5) rfl) (ne_o (i := i) (c := 1) (d := 6) rfl)).trans hgy390
              refine z_lv (lv' := [(0, .ref (ad i)), (1, .int (zI (0)))]) [1, 0] rfl ?_
              exact C _ (0) r g1C rfl hgy391 (fun j _ => rfl) (fun j a => absurd a (by omega)) (fun j _ => rfl) (by omega)
            · refine z_aload_n C 0 dX10_becomes_66 rfl ?_
              refine z_get (v := .ref (ad (i + 4))) C (by omega) hay1 hgy44 rfl inA_X10 3 (by decide) q_1462 rfl rfl dX10_becomes_67 ?_
              refine z_iload_n C 1 dX10_becomes_70 rfl ?_
              refine z_aload_n C 0 dX10_becomes_71 rfl ?_
              refine z_get (v := .ref (ad (i + 19))) C (by omega) hay1 hgy44 rfl inA_X10 42 (by decide) q_1501 rfl rfl dX10_becomes_72 ?_
              refine z_iload_n C 1 dX10_becomes_75 rfl ?_
              have hgy392 := up_n egy33 ha19 (ne_o (i := i) (c := 19) (d := 0) rfl)
              have hgy393 := up_n egy36 hgy392 (ne_o (i := i) (c := 19) (d := 0) rfl)
              have hgy394 := (hfvy40 (i + 19) (ne_o (i := i) (c := 19) (d := 7) rfl)).trans hgy393
              have hgy395 := (f3A (i + 19) (ne_o (i := i) (c := 19) (d := 7) rfl)).trans hgy394
              have hgy396 := (f3B (i + 19) (ne_o (i := i) (c := 19) (d := 4) rfl) (ne_o (i := i) (c := 19) (d := 5) rfl) (ne_o (i := i) (c := 19) (d := 6) rfl)).trans hgy395
              refine z_iald C (by omega) hay27 hgy396 (nkB) (by omega) (by omega) (by decide) dX10_becomes_76 ?_
              have htky397 := hai1 nkB (by omega)
              refine z_iast C (by omega) hay5 f2B_a9 (nkB) (by omega) (by omega) (by decide) dX10_becomes_77 (fun gy398 egy399 => ?_)
              have hgy400 := up_s egy399
              obtain ⟨ry401, hvy402⟩ : ∃ rZ9 : Nat → Int, rZ9 = uZ a9 (nkB) (ai1 (nkB)) := ⟨_, rfl⟩
              rw [← hvy402] at hgy400
              refine z_aload_n C 0 dX10_becomes_78 rfl ?_
              have hgy403 := up_n egy399 hgy44 (ne_o (i := i) (c := 0) (d := 4) rfl)
              refine z_get (v := .ref (ad (i + 5))) C (by omega) hay1 hgy403 rfl inA_X10 4 (by decide) q_1463 rfl rfl dX10_becomes_79 ?_
              refine z_iload_n C 1 dX10_becomes_82 rfl ?_
              refine z_aload_n C 0 dX10_becomes_83 rfl ?_
              refine z_get (v := .ref (ad (i + 20))) C (by omega) hay1 hgy403 rfl inA_X10 43 (by decide) q_1502 rfl rfl dX10_becomes_84 ?_
              refine z_iload_n C 1 dX10_becomes_87 rfl ?_
              have hgy404 := up_n egy33 ha20 (ne_o (i := i) (c := 20) (d := 0) rfl)
              have hgy405 := up_n egy36 hgy404 (ne_o (i := i) (c := 20) (d := 0) rfl)
              have hgy406 := (hfvy40 (i + 20) (ne_o (i := i) (c := 20) (d := 7) rfl)).trans hgy405
              have hgy407 := (f3A (i + 20) (ne_o (i := i) (c := 20) (d := 7) rfl)).trans hgy406
              have hgy408 := (f3B (i + 20) (ne_o (i := i) (c := 20) (d := 4) rfl) (ne_o (i := i) (c := 20) (d := 5) rfl) (ne_o (i := i) (c := 20) (d := 6) rfl)).trans hgy407
              have hgy409 := up_n egy399 hgy408 (ne_o (i := i) (c := 20) (d := 4) rfl)
              refine z_iald C (by omega) hay28 hgy409 (nkB) (by omega) (by omega) (by decide) dX10_becomes_88 ?_
              have htky410 := hfa1 nkB (by omega)
              have hgy411 := up_n egy399 f2B_fa9 (ne_o (i := i) (c := 5) (d := 4) rfl)
              refine z_iast C (by omega) hay6 hgy411 (nkB) (by omega) (by omega) (by decide) dX10_becomes_89 (fun gy412 egy413 => ?_)
              have hgy414 := up_s egy413
              obtain ⟨ry415, hvy416⟩ : ∃ rZ9 : Nat → Int, rZ9 = uZ fa9 (nkB) (fa1 (nkB)) := ⟨_, rfl⟩
              rw [← hvy416] at hgy414
              refine z_aload_n C 0 dX10_becomes_90 rfl ?_
              have hgy417 := up_n egy413 hgy403 (ne_o (i := i) (c := 0) (d := 5) rfl)
              refine z_get (v := .ref (ad (i + 6))) C (by omega) hay1 hgy417 rfl inA_X10 5 (by decide) q_1464 rfl rfl dX10_becomes_91 ?_
              refine z_iload_n C 1 dX10_becomes_94 rfl ?_
              refine z_aload_n C 0 dX10_becomes_95 rfl ?_
              refine z_get (v := .ref (ad (i + 21))) C (by omega) hay1 hgy417 rfl inA_X10 44 (by decide) q_1503 rfl rfl dX10_becomes_96 ?_
              refine z_iload_n C 1 dX10_becomes_99 rfl ?_
              have hgy418 := up_n egy33 ha21 (ne_o (i := i) (c := 21) (d := 0) rfl)
              have hgy419 := up_n egy36 hgy418 (ne_o (i := i) (c := 21) (d := 0) rfl)
              have hgy420 := (hfvy40 (i + 21) (ne_o (i := i) (c := 21) (d := 7) rfl)).trans hgy419
              have hgy421 := (f3A (i + 21) (ne_o (i := i) (c := 21) (d := 7) rfl)).trans hgy420
              have hgy422 := (f3B (i + 21) (ne_o (i := i) (c := 21) (d := 4) rfl) (ne_o (i := i) (c := 21) (d := 5) rfl) (ne_o (i := i) (c := 21) (d := 6) rfl)).trans hgy421
              have hgy423 := up_n egy399 hgy422 (ne_o (i := i) (c := 21) (d := 4) rfl)
              have hgy424 := up_n egy413 hgy423 (ne_o (i := i) (c := 21) (d := 5) rfl)
              refine z_iald C (by omega) hay29 hgy424 (nkB) (by omega) (by omega) (by decide) dX10_becomes_100 ?_
              have htky425 := hfa1 nkB (by omega)
              have hgy426 := up_n egy399 f2B_m9 (ne_o (i := i) (c := 6) (d := 4) rfl)
              have hgy427 := up_n egy413 hgy426 (ne_o (i := i) (c := 6) (d := 5) rfl)
              refine z_iast C (by omega) hay7 hgy427 (nkB) (by omega) (by omega) (by decide) dX10_becomes_101 (fun gy428 egy429 => ?_)
              have hgy430 := up_s egy429
              obtain ⟨ry431, hvy432⟩ : ∃ rZ9 : Nat → Int, rZ9 = uZ m9 (nkB) (mu1 (nkB)) := ⟨_, rfl⟩
              rw [← hvy432] at hgy430
              refine z_iinc (z := kb + 1) (lv' := [(1, .int (zI (kb + 1))), (0, .ref (ad i))]) (j := 1) C dX10_becomes_102 rfl rfl (by decide) rfl ?_
              refine z_goto (tgt := 58) C dX10_becomes_105 (by decide) ?_
              have hgy433 := up_n egy413 hgy400 (ne_o (i := i) (c := 4) (d := 5) rfl)
              have hgy434 := up_n egy429 hgy433 (ne_o (i := i) (c := 4) (d := 6) rfl)
              have hgy435 := up_n egy429 hgy414 (ne_o (i := i) (c := 5) (d := 6) rfl)
              refine z_lv (lv' := [(0, .ref (ad i)), (1, .int (zI (kb + 1)))]) [1, 0] rfl ?_
              exact ih_B _ (by omega) (kb + 1) ry401 ry415 ry431 gy428 rfl hgy434 hgy435 hgy430 (fun j j1 j2 j3 => by rw [egy429, va_up_ne _ _ (by omega)]; rw [egy413, va_up_ne _ _ (by omega)]; rw [egy399, va_up_ne _ _ (by omega)]; exact f3B j j1 j2 j3) (fun j hj => by rw [hvy402]; exact uZ_any fBa (by omega) j hj) (fun j hj => by rw [hvy416, hvy432]; by_cases e : j = nkB; (rw [e, uZ_s, uZ_s]; omega); (rw [uZ_n _ _ e, uZ_n _ _ e]; exact fBf j hj)) (by omega)
        have hgy436 := up_n egy33 ha4 (ne_o (i := i) (c := 4) (d := 0) rfl)
        have hgy437 := up_n egy36 hgy436 (ne_o (i := i) (c := 4) (d := 0) rfl)
        have hgy438 := (hfvy40 (i + 4) (ne_o (i := i) (c := 4) (d := 7) rfl)).trans hgy437
        have hgy439 := (f3A (i + 4) (ne_o (i := i) (c := 4) (d := 7) rfl)).trans hgy438
        have hgy440 := up_n egy33 ha5 (ne_o (i := i) (c := 5) (d := 0) rfl)
        have hgy441 := up_n egy36 hgy440 (ne_o (i := i) (c := 5) (d := 0) rfl)
        have hgy442 := (hfvy40 (i + 5) (ne_o (i := i) (c := 5) (d := 7) rfl)).trans hgy441
        have hgy443 := (f3A (i + 5) (ne_o (i := i) (c := 5) (d := 7) rfl)).trans hgy442
        have hgy444 := up_n egy33 ha6 (ne_o (i := i) (c := 6) (d := 0) rfl)
        have hgy445 := up_n egy36 hgy444 (ne_o (i := i) (c := 6) (d := 0) rfl)
        have hgy446 := (hfvy40 (i + 6) (ne_o (i := i) (c := 6) (d := 7) rfl)).trans hgy445
        have hgy447 := (f3A (i + 6) (ne_o (i := i) (c := 6) (d := 7) rfl)).trans hgy446
        refine z_lv (lv' := [(0, .ref (ad i)), (1, .int (zI (0)))]) [1, 0] rfl ?_
        exact B _ (0) ai fa mu g1B rfl hgy439 hgy443 hgy447 (fun j _ _ _ => rfl) hai hfa (by omega)
      · refine z_aload_n C 0 dX10_becomes_28 rfl ?_
        have hgy448 := (hfvy40 (i) (ne_o (i := i) (c := 0) (d := 7) rfl)).trans hgy37
        have hgy449 := (f3A (i) (ne_o (i := i) (c := 0) (d := 7) rfl)).trans hgy448
        refine z_get (v := .ref (ad (i + 22))) C (by omega) hay1 hgy449 rfl inA_X10 45 (by decide) q_1504 rfl rfl dX10_becomes_29 ?_
        refine z_iload_n C 1 dX10_becomes_32 rfl ?_
        have hgy450 := up_n egy33 ha22 (ne_o (i := i) (c := 22) (d := 0) rfl)
        have hgy451 := up_n egy36 hgy450 (ne_o (i := i) (c := 22) (d := 0) rfl)
        have hgy452 := (hfvy40 (i + 22) (ne_o (i := i) (c := 22) (d := 7) rfl)).trans hgy451
        have hgy453 := (f3A (i + 22) (ne_o (i := i) (c := 22) (d := 7) rfl)).trans hgy452
        refine z_iald C (by omega) hay30 hgy453 (nkA) (by omega) (by omega) (by decide) dX10_becomes_33 ?_
        have htky454 := htb1 nkA (by omega)
        refine z_iconst (z := -1) C dX10_becomes_34 rfl ?_
        refine z_icmp_eq (tgt := 50) C dX10_becomes_35 (by decide) (by omega) (by omega) (fun hby455 => ?_) (fun hby455 => ?_)
        · refine z_iinc (z := ka + 1) (lv' := [(1, .int (zI (ka + 1))), (0, .ref (ad i))]) (j := 1) C dX10_becomes_50 rfl rfl (by decide) rfl ?_
          refine z_goto (tgt := 22) C dX10_becomes_53 (by decide) ?_
          refine z_lv (lv' := [(0, .ref (ad i)), (1, .int (zI (ka + 1)))]) [1, 0] rfl ?_
          exact ih_A _ (by omega) (ka + 1) t9 g1 rfl f2A_t9 f3A fTa (by omega)
        · refine z_aload_n C 0 dX10_becomes_38 rfl ?_
          refine z_get (v := .ref (ad (i + 7))) C (by omega) hay1 hgy449 rfl inA_X10 6 (by decide) q_1465 rfl rfl dX10_becomes_39 ?_
          refine z_iload_n C 1 dX10_becomes_42 rfl ?_
          refine z_aload_n C 0 dX10_becomes_43 rfl ?_
          refine z_get (v := .ref (ad (i + 22))) C (by omega) hay1 hgy449 rfl inA_X10 45 (by decide) q_1504 rfl rfl dX10_becomes_44 ?_
          refine z_iload_n C 1 dX10_becomes_47 rfl ?_
          refine z_iald C (by omega) hay30 hgy453 (nkA) (by omega) (by omega) (by decide) dX10_becomes_48 ?_
          have htky456 := htb1 nkA (by omega)
          refine z_iast C (by omega) hay8 f2A_t9 (nkA) (by omega) (by omega) (by decide) dX10_becomes_49 (fun gy457 egy458 => ?_)
          have hgy459 := up_s egy458
          obtain ⟨ry460, hvy461⟩ : ∃ rZ9 : Nat → Int, rZ9 = uZ t9 (nkA) (tb1 (nkA)) := ⟨_, rfl⟩
          rw [← hvy461] at hgy459
          refine z_iinc (z := ka + 1) (lv' := [(1, .int (zI (ka + 1))), (0, .ref (ad i))]) (j := 1) C dX10_becomes_50 rfl rfl (by decide) rfl ?_
          refine z_goto (tgt := 22) C dX10_becomes_53 (by decide) ?_
          refine z_lv (lv' := [(0, .ref (ad i)), (1, .int (zI (ka + 1)))]) [1, 0] rfl ?_
          exact ih_A _ (by omega) (ka + 1) ry460 gy457 rfl hgy459 (fun j j1 => by rw [egy458, va_up_ne _ _ (by omega)]; exact f3A j j1) (fun j hj => by rw [hvy461]; by_cases e : j = nkA; (rw [e, uZ_s]; exact ⟨by omega, fun _ => by omega⟩); (rw [uZ_n _ _ e]; exact fTa j hj)) (by omega)
  refine z_lv (lv' := [(0, .ref (ad i)), (1, .int (zI (0)))]) [1, 0] rfl ?_
  exact A _ (0) rvy40 gvy40 rfl hdvy40 (fun j _ => rfl) (fun j hj => by rw [htvy40 j hj]; exact tabOK ⟨j, hj⟩) (by omega)

