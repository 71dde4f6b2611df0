theorem okMr.upd2 {cs : Nat → ClassId} {ad : Nat → Nat} {g g' : Nat → va_E} {i : Nat} {x x' : Int} {F F' r r' st op ai fa mu tb tp : Nat → Int} (h : okMr cs ad g i x F r st op ai fa mu tb tp) (hi : g' i = mC ad i F') (hK : okF F') (hD : RD F') (hT : okTx cs g' i F') (hr : g' (i + 1) = iA cs 29200 r') (hA : okA r' x') (hG : ∀ j, i + 1 < j → j < i + 30 → j < i + 16 ∨ i + 23 < j → g' j = g j ∨ ∃ (k : Nat) (t : Nat → Int), j = i + k ∧ lsP k t ∧ g' j = iA cs (mLen k) t) : okMr cs ad g' i x' F' r' st op ai fa mu tb tp := by
  obtain ⟨h1, h2, h3, h4, h5, ns, nh, nd, rf, pi, te, ki, li, ok1, ok2, fo, dd, dps, ⟨b1, b2, b3, b4, b5, b6, b7, b8, b9, b10, b11, b12, b13, b14, b15, b24, b25, b26, b27, b28, b29⟩, h6, h7, h8, h9⟩ := h
  have hS : ∀ (k n : Nat) (t : Nat → Int), ((2 ≤ k ∧ k ≤ 7) ∨ k = 13) → g (i + k) = iA cs n t → g' (i + k) = iA cs n t := fun k n t a b => (hG (i + k) (by omega) (by omega) (by omega)).elim (fun e => by rw [e]; exact b) (fun ⟨k2, t, e1, e2, e3⟩ => by
    exfalso
    unfold lsP at e2
    rcases e2 with e2 | ⟨e2, _⟩ | ⟨e2, _⟩ <;> omega)
  have hL : ∀ k, 1 < k → k < 30 → (k < 16 ∨ 23 < k) → g' (i + k) = g (i + k) ∨ ∃ (k2 : Nat) (t : Nat → Int), i + k = i + k2 ∧ lsP k2 t ∧ g' (i + k) = iA cs (mLen k2) t := fun k a b c => hG (i + k) (by omega) (by omega) (by omega)
  have t1 : ∀ k, (k = 9 ∨ k = 10 ∨ k = 11 ∨ k = 14 ∨ k = 15 ∨ (24 ≤ k ∧ k ≤ 29)) → ∀ t : Nat → Int, g (i + k) = iA cs (mLen k) t → ∃ t2 : Nat → Int, g' (i + k) = iA cs (mLen k) t2 := fun k a t b => by
    obtain ⟨t2, e, _⟩ := okMr.arr (P := fun _ => True) k ⟨t, b, trivial⟩ rfl (hL k (by omega) (by omega) (by omega)) (fun _ _ => trivial)
    exact ⟨t2, e⟩
  obtain ⟨u9, v9⟩ := t1 9 (by omega) _ b9
  obtain ⟨u10, v10⟩ := t1 10 (by omega) _ b10
  obtain ⟨u11, v11⟩ := t1 11 (by omega) _ b11
  obtain ⟨u14, v14⟩ := t1 14 (by omega) _ b14
  obtain ⟨u15, v15⟩ := t1 15 (by omega) _ b15
  obtain ⟨u24, v24⟩ := t1 24 (by omega) _ b24
  obtain ⟨u25, v25⟩ := t1 25 (by omega) _ b25
  obtain ⟨u26, v26⟩ := t1 26 (by omega) _ b26
  obtain ⟨u27, v27⟩ := t1 27 (by omega) _ b27
  obtain ⟨u28, v28⟩ := t1 28 (by omega) _ b28
  obtain ⟨u29, v29⟩ := t1 29 (by omega) _ b29
  obtain ⟨u8, v8, w8⟩ := okMr.arr (P := fun t => ∀ k, k < 16 → 0 ≤ t k ∧ t k ≤ 3) 8 ⟨ns, b8, h8⟩ rfl (hL 8 (by omega) (by omega) (by omega)) (fun t e => by
    rcases e with e | ⟨_, e⟩ | ⟨e, _⟩
    · omega
    · exact e
    · omega)
  obtain ⟨u12, v12, w12⟩ := okMr.arr (P := okPt) 12 ⟨pi, b12, h7⟩ rfl (hL 12 (by omega) (by omega) (by omega)) (fun t e => by
    rcases e with e | ⟨e, _⟩ | ⟨_, e⟩
    · omega
    · omega
    · exact e)
  obtain ⟨_, c2, c3, c4, c5, c6⟩ := h6
  exact ⟨hi, hK, hD, hT.weak, hA, u8, u9, u10, u11, u12, u14, u15, u24, u25, u26, u27, u28, u29, ⟨hr, hS 2 _ _ (by omega) b2, hS 3 _ _ (by omega) b3, hS 4 _ _ (by omega) b4, hS 5 _ _ (by omega) b5, hS 6 _ _ (by omega) b6, hS 7 _ _ (by omega) b7, v8, v9, v10, v11, v12, hS 13 _ _ (by omega) b13, v14, v15, v24, v25, v26, v27, v28, v29⟩, ⟨hK.1, c2, c3, c4, c5, c6⟩, w12, w8, h9⟩

/-- what is told, as it lies in the object -/
def dT (s : Int × Int × Int × (Nat → Int) × (Nat → Int) × (Nat → Int) × (Nat → Int) × (Nat → Int) × (Nat → Int) × (Nat → Int) × (Nat → Int) × (Nat → Nat → Int)) (st op ai fa mu tb : Nat → Int) : Prop := (∀ k : Nat, (k : Int) < s.1 → st k = s.2.2.2.2.1 k ∧ op k = s.2.2.2.2.2.1 k) ∧ (∀ k : Nat, (k : Int) < s.2.1 → ai k = s.2.2.2.2.2.2.1 k ∧ fa k = s.2.2.2.2.2.2.2.1 k ∧ mu k = s.2.2.2.2.2.2.2.2.1 k) ∧ ∀ k : Nat, k < 15 → tb k = s.2.2.2.2.2.2.2.2.2.1 k

theorem tabOK : ∀ j : Fin 15, (0 ≤ tabZ j.val ∧ tabZ j.val ≤ 9999) ∧ (10 ≤ j.val → 1 ≤ tabZ j.val) := by decide
theorem lyT_ms {r ly1 : Nat → Int} {p q0 : Nat} : ∀ n : Nat, n ≤ 12 → (∀ l, l < n → lyT ly1 (q0 + 7 * l)) → (∀ m, m < 84 → r (p + 2 + m) = ly1 (q0 + m)) → (∀ l, l < n → ly r (p + 2 + 7 * l)) ∧ ms r p n ≤ 198 * (n : Int) ∧ dp r p n ≤ 999 * (n : Int) := by
  intro n
  induction n with
  | zero => intro _ _ _; exact ⟨fun l hl => absurd hl (by omega), by show (0 : Int) ≤ _; omega, by show (0 : Int) ≤ _; omega⟩
  | succ n ih =>
    intro hn h he
    obtain ⟨a1, a2, a3⟩ := ih (by omega) (fun l hl => h l (by omega)) he
    have h9 := h n (by omega)
    have e0 := he (7 * n) (by omega)
    have e1 := he (7 * n + 1) (by omega)
    have e2 := he (7 * n + 2) (by omega)
    have e3 := he (7 * n + 3) (by omega)
    have e4 := he (7 * n + 4) (by omega)
    have e6 := he (7 * n + 6) (by omega)
    rw [← Nat.add_assoc, ← Nat.add_assoc] at e1 e2 e3 e4 e6
    obtain ⟨b0, b1, b2, b3, b4, b6⟩ := h9
    refine ⟨fun l hl => ?_, ?_, ?_⟩
    · by_cases e : l = n
      · subst e
        unfold ly
        rw [e0, e1, e2, e3, e4, e6]
        omega
      · exact a1 l (by omega)
    · show ms r p n + (r (p + 2 + 7 * n + 1) + r (p + 2 + 7 * n + 2)) ≤ _
      rw [e1, e2]; omega
    · show dp r p n + r (p + 2 + 7 * n + 3) ≤ _
      rw [e3]; omega
theorem okS.ofT {r ly1 : Nat → Int} {p q0 : Nat} {m : Int} (hp : r p = m) (hm : 0 ≤ m ∧ m ≤ 12) (h : ∀ l : Nat, (l : Int) < m → lyT ly1 (q0 + 7 * l)) (he : ∀ k, k < 84 → r (p + 2 + k) = ly1 (q0 + k)) : okS r p 2400 12000 := by
  obtain ⟨n, hn⟩ : ∃ n : Nat, m = (n : Int) := ⟨m.toNat, by omega⟩
  obtain ⟨a1, a2, a3⟩ := lyT_ms (r := r) (p := p) n (by omega) (fun l hl => h l (by omega)) he
  exact okS.mk n (by omega) (by omega) a1 (by omega) (by omega)

set_option maxRecDepth 100000 in
set_option maxHeartbeats 4000000 in
theorem c_X10_becomes (l : Launch) (D : va_G) (A : Nat → Prop) (cs : Nat → ClassId) (tt : Nat) (N : Nat) (ad : Nat → Nat) (g : Nat → va_E) (i : Nat) (hN : i + 30 ≤ N) (x : Int) (hx : 0 ≤ x ∧ x ≤ 512) (F r : Nat → Int) {st op ai fa mu tb tp : Nat → Int} (hM : okMr cs ad g i x F r st op ai fa mu tb tp) (s : Int × Int × Int × (Nat → Int) × (Nat → Int) × (Nat → Int) × (Nat → Int) × (Nat → Int) × (Nat → Int) × (Nat → Int) × (Nat → Int) × (Nat → Nat → Int)) (hX : xTx cs g i F s) : zM l yX10_becomes cX10_becomes 3 none ({ frames := 2, cells := 0, slots := 0, locals := 120 } : Room) D A cs tt N ad g [.ref (ad i)] (rV0 N ad fun g' => (∃ F' r' st' op' ai' fa' mu' tb' : Nat → Int, okMr cs ad g' i x F' r' st' op' ai' fa' mu' tb' tp ∧ (F' 13 = s.1 ∧ F' 14 = s.2.1 ∧ F' 17 = 0 ∧ F' 20 = F 20 ∧ F' 21 = 0 ∧ F' 23 = F 23 ∧ F' 24 = F 24) ∧ F' 12 = F 12 ∧ dT s st' op' ai' fa' mu' tb') ∧ ∀ j, j < i ∨ i + 30 ≤ j → g' j = g j) := by
  obtain ⟨hg, ⟨⟨e13, e14, e25, e27, e29⟩, k15, k16, k17, k18, k19, k20, k23, k21⟩, hRD, hTx, hA, ns, nh, nd, rf, pi, te, ki, li, ok1, ok2, fo, dd, dps, ⟨ha1, ha2, ha3, ha4, ha5, ha6, ha7, ha8, ha9, ha10, ha11, ha12, ha13, ha14, ha15, ha24, ha25, ha26, ha27, ha28, ha29⟩, hEv, hPt, hns, htp⟩ := id hM
  obtain ⟨-, hop, hai, hfa, hT, hT1⟩ := id hEv
  have hay1 : zAt ad (i) (ad i) := rfl
  have hay2 : zAt ad (i + 1) (ad (i + 1)) := rfl
  have hay3 : zAt ad (i + 2) (ad (i + 2)) := rfl
  have hay4 : zAt ad (i + 3) (ad (i + 3)) := rfl
  have hay5 : zAt ad (i + 4) (ad (i + 4)) := rfl
  have hay6 : zAt ad (i + 5) (ad (i + 5)) := rfl
  have hay7 : zAt ad (i + 6) (ad (i + 6)) := rfl
  have hay8 : zAt ad (i + 7) (ad (i + 7)) := rfl
  have hay9 : zAt ad (i + 8) (ad (i + 8)) := rfl
  have hay10 : zAt ad (i + 9) (ad (i + 9)) := rfl
  have hay11 : zAt ad (i + 10) (ad (i + 10)) := rfl
  have hay12 : zAt ad (i + 11) (ad (i + 11)) := rfl
  have hay13 : zAt ad (i + 12) (ad (i + 12)) := rfl
  have hay14 : zAt ad (i + 13) (ad (i + 13)) := rfl
  have hay15 : zAt ad (i + 14) (ad (i + 14)) := rfl
  have hay16 : zAt ad (i + 15) (ad (i + 15)) := rfl
  have hay17 : zAt ad (i + 24) (ad (i + 24)) := rfl
  have hay18 : zAt ad (i + 25) (ad (i + 25)) := rfl
  have hay19 : zAt ad (i + 26) (ad (i + 26)) := rfl
  have hay20 : zAt ad (i + 27) (ad (i + 27)) := rfl
  have hay21 : zAt ad (i + 28) (ad (i + 28)) := rfl
  have hay22 : zAt ad (i + 29) (ad (i + 29)) := rfl
  obtain ⟨⟨hsyy23, htyy23, hnyy23, hpyy23⟩, hlyy23⟩ := okA.at0 hA
  simp only [Nat.zero_add] at hsyy23 hnyy23 hpyy23
  have hmn : ∀ s, s < 4 → 0 ≤ r (6 + 86 * s) ∧ r (6 + 86 * s) ≤ 12 := fun s hs => (hsyy23 s hs).1
  have h5 : 0 ≤ r 5 ∧ r 5 ≤ 6 := hpyy23
  obtain ⟨st1, op1, mn1, ai1, fa1, mu1, tb1, ly1, ⟨ha16, ha17, ha18, ha19, ha20, ha21, ha22, ha23⟩, ⟨⟨t47, t48, t49⟩, hop1, hmn1, hai1, hfa1, htb1, hly1⟩, hrT⟩ := id hX
  have hay24 : zAt ad (i + 16) (ad (i + 16)) := rfl
  have hay25 : zAt ad (i + 17) (ad (i + 17)) := rfl
  have hay26 : zAt ad (i + 18) (ad (i + 18)) := rfl
  have hay27 : zAt ad (i + 19) (ad (i + 19)) := rfl
  have hay28 : zAt ad (i + 20) (ad (i + 20)) := rfl
  have hay29 : zAt ad (i + 21) (ad (i + 21)) := rfl
  have hay30 : zAt ad (i + 22) (ad (i + 22)) := rfl
  have hay31 : zAt ad (i + 23) (ad (i + 23)) := rfl
  have r47 : F 47 = s.1 := hrT.1.1
  have r48 : F 48 = s.2.1 := hrT.1.2.1
  have hTs : okTx cs g i F := hX.ok
  have hRD32 := hRD.1
  refine z_of (by decide) (Nat.le_of_ble_eq_true rfl) ?_
  intro pZ eZ sZ mZ below meth cZ C hr hlk hnm
  refine z_lv (lv' := [(0, .ref (ad i))]) [0] rfl ?_
  refine z_aload_n C 0 dX10_becomes_0 rfl ?_
  refine z_aload_n C 0 dX10_becomes_1 rfl ?_
  refine z_get (v := .int (zI (F 47))) C (lt_A0 hN rfl) hay1 hg rfl inA_X10 47 (by decide) q_1506 rfl (fv (F := F) (f := 47) rfl) dX10_becomes_2 ?_
  refine z_put (fs' := mF ad (i) (uZ F 13 (F 47))) C (lt_A0 hN rfl) hay1 hg tyX10 tyX10_ok nmX10 rfl inA_X10 13 (by decide) q_1472 rfl rfl rfl rfl (Nat.le_of_ble_eq_true rfl) rfl dX10_becomes_5 (fun gy32 egy33 => ?_)
  have hgy34 := up_s egy33
  refine z_aload_n C 0 dX10_becomes_8 rfl ?_
  refine z_aload_n C 0 dX10_becomes_9 rfl ?_
  refine z_get (v := .int (zI (F 48))) C (lt_A0 hN rfl) hay1 hgy34 rfl inA_X10 48 (by decide) q_1507 rfl (fv (F := (uZ F 13 (F 47))) (f := 48) (fn rfl (by decide))) dX10_becomes_10 ?_
  refine z_put (fs' := mF ad (i) (uZ (uZ F 13 (F 47)) 14 (F 48))) C (lt_A0 hN rfl) hay1 hgy34 tyX10 tyX10_ok nmX10 rfl inA_X10 14 (by decide) q_1473 rfl rfl rfl rfl (Nat.le_of_ble_eq_true rfl) rfl dX10_becomes_13 (fun gy35 egy36 => ?_)
  have hgy37 := up_s egy36
  refine z_aload_n C 0 dX10_becomes_16 rfl ?_
  have hgy38 := up_n egy33 ha7 (ne_o (i := i) (c := 7) (d := 0) rfl)
  have hgy39 := up_n egy36 hgy38 (ne_o (i := i) (c := 7) (d := 0) rfl)
  refine z_cV (As := []) (rest := []) (ci := 12) C (c_X10_laysTable l D A cs tt N ad _ i _ _ (by omega) hgy37 hgy39) (lt_A0 hN rfl) hay1 hgy37 rfl rfl mv_yX10_laysTable q_1455 hd_yX10_laysTable (by decide) (Nat.le_of_ble_eq_true rfl) (by decide) dX10_becomes_17 rfl (kV0 fun gvy40 hvy40 => ?_)
  obtain ⟨hfvy40, rvy40, hdvy40, htvy40⟩ := hvy40
  refine z_iconst (z := 0) C dX10_becomes_20 rfl ?_
  refine z_istore_n (lv' := [(1, .int (zI (0))), (0, .ref (ad i))]) C dX10_becomes_21 rfl (by decide) rfl ?_
  have A : ∀ (n9 : Nat) (ka : Int) (t9 : Nat → Int) (g1 : Nat → va_E), (16 - ka).toNat = n9 → (g1 (i + 7) = iA cs 15 t9) → (∀ j, j ≠ i + 7 → g1 j = gvy40 j) → (∀ j, j < 15 → (0 ≤ t9 j ∧ t9 j ≤ 9999) ∧ (10 ≤ j → 1 ≤ t9 j)) → (∀ j : Nat, j < 15 → (t9 j = tabZ j ∧ ((j : Int) < ka → tb1 j = -1)) ∨ ((j : Int) < ka ∧ tb1 j ≠ -1 ∧ t9 j = tb1 j)) → (0 ≤ ka ∧ ka ≤ 15) → zV pZ l eZ ({ frames := 2, cells := 0, slots := 0, locals := 120 } : Room) sZ mZ ([.ref (ad i)] : List Value).toArray below meth cZ (MQ below (zPost D A (rV0 N ad fun g' => (∃ F' r' st' op' ai' fa' mu' tb' : Nat → Int, okMr cs ad g' i x F' r' st' op' ai' fa' mu' tb' tp ∧ (F' 13 = s.1 ∧ F' 14 = s.2.1 ∧ F' 17 = 0 ∧ F' 20 = F 20 ∧ F' 21 = 0 ∧ F' 23 = F 23 ∧ F' 24 = F 24) ∧ F' 12 = F 12 ∧ dT s st' op' ai' fa' mu' tb') ∧ ∀ j, j < i ∨ i + 30 ≤ j → g' j = g j)) ([.ref (ad i)] : List Value).toArray sZ ({ frames := 2, cells := 0, slots := 0, locals := 120 } : Room).cells ({ frames := 2, cells := 0, slots := 0, locals := 120 } : Room).slots A) D A 3 (N) ad g1 (0) (0) 22 [(0, .ref (ad i)), (1, .int (zI (ka)))] [] := by
    intro n9
    induction n9 using Nat.strongRecOn with
    | ind n9 ih_A =>
      intro ka t9 g1 hm9 f2A_t9 f3A fTa fTe hvkA
      obtain ⟨nkA, hnkA⟩ : ∃ n9 : Nat, ka = (n9 : Int) := ⟨ka.toNat, by omega⟩
      refine z_iload_n C 1 dX10_becomes_22 rfl ?_
      refine z_bipush (z := 15) C dX10_becomes_23 (by decide) ?_
      refine z_icmp_ge (tgt := 56) C dX10_becomes_25 (by decide) (by omega) (by omega) (fun hby41 => ?_) (fun hby41 => ?_)
      · refine z_iconst (z := 0) C dX10_becomes_56 rfl ?_
        refine z_istore_n (lv' := [(1, .int (zI (0))), (0, .ref (ad i))]) C dX10_becomes_57 rfl (by decide) rfl ?_
        obtain ⟨g1B, hg1B⟩ : ∃ h : Nat → va_E, h = g1 := ⟨_, rfl⟩
        subst hg1B
        have B : ∀ (n9 : Nat) (kb : Int) (a9 : Nat → Int) (fa9 : Nat → Int) (m9 : Nat → Int) (g1 : Nat → va_E), (25 - kb).toNat = n9 → (g1 (i + 4) = iA cs 24 a9) → (g1 (i + 5) = iA cs 24 fa9) → (g1 (i + 6) = iA cs 24 m9) → (∀ j, j ≠ i + 4 → j ≠ i + 5 → j ≠ i + 6 → g1 j = g1B j) → (∀ k, k < 24 → -300 ≤ a9 k ∧ a9 k ≤ 100) → (∀ k, k < 24 → (0 ≤ fa9 k ∧ fa9 k ≤ 3) ∧ (0 ≤ m9 k ∧ m9 k ≤ 50) ∧ (fa9 k = 1 ∨ fa9 k = 2 → 1 ≤ m9 k)) → (∀ k : Nat, (k : Int) < kb → a9 k = ai1 k ∧ fa9 k = fa1 k ∧ m9 k = mu1 k) → (0 ≤ kb ∧ kb ≤ F 48) → zV pZ l eZ ({ frames := 2, cells := 0, slots := 0, locals := 120 } : Room) sZ mZ ([.ref (ad i)] : List Value).toArray below meth cZ (MQ below (zPost D A (rV0 N ad fun g' => (∃ F' r' st' op' ai' fa' mu' tb' : Nat → Int, okMr cs ad g' i x F' r' st' op' ai' fa' mu' tb' tp ∧ (F' 13 = s.1 ∧ F' 14 = s.2.1 ∧ F' 17 = 0 ∧ F' 20 = F 20 ∧ F' 21 = 0 ∧ F' 23 = F 23 ∧ F' 24 = F 24) ∧ F' 12 = F 12 ∧ dT s st' op' ai' fa' mu' tb') ∧ ∀ j, j < i ∨ i + 30 ≤ j → g' j = g j)) ([.ref (ad i)] : List Value).toArray sZ ({ frames := 2, cells := 0, slots := 0, locals := 120 } : Room).cells ({ frames := 2, cells := 0, slots := 0, locals := 120 } : Room).slots A) D A 3 (N) ad g1 (0) (0) 58 [(0, .ref (ad i)), (1, .int (zI (kb)))] [] := by
          intro n9
          induction n9 using Nat.strongRecOn with
          | ind n9 ih_B =>
            intro kb a9 fa9 m9 g1 hm9 f2B_a9 f2B_fa9 f2B_m9 f3B fBa fBf fBe hvkB
            obtain ⟨nkB, hnkB⟩ : ∃ n9 : Nat, kb = (n9 : Int) := ⟨kb.toNat, by omega⟩
            refine z_iload_n C 1 dX10_becomes_58 rfl ?_
            refine z_aload_n C 0 dX10_becomes_59 rfl ?_
            have hgy42 := (hfvy40 (i) (ne_o (i := i) (c := 0) (d := 7) rfl)).trans hgy37
            have hgy43 := (f3A (i) (ne_o (i := i) (c := 0) (d := 7) rfl)).trans hgy42
            have hgy44 := (f3B (i) (ne_o (i := i) (c := 0) (d := 4) rfl) (ne_o (i := i) (c := 0) (d := 5) rfl) (ne_o (i := i) (c := 0) (d := 6) rfl)).trans hgy43
            refine z_get (v := .int (zI (F 48))) C (lt_A0 hN rfl) hay1 hgy44 rfl inA_X10 14 (by decide) q_1473 rfl (fv (F := (uZ (uZ F 13 (F 47)) 14 (F 48))) (f := 14) (uZ_s _ _ _)) dX10_becomes_60 ?_
            refine z_icmp_ge (tgt := 108) C dX10_becomes_63 (by decide) (by omega) (by omega) (fun hby45 => ?_) (fun hby45 => ?_)
            · refine z_iconst (z := 0) C dX10_becomes_108 rfl ?_
              refine z_istore_n (lv' := [(1, .int (zI (0))), (0, .ref (ad i))]) C dX10_becomes_109 rfl (by decide) rfl ?_
              obtain ⟨g1C, hg1C⟩ : ∃ h : Nat → va_E, h = g1 := ⟨_, rfl⟩
              subst hg1C
              have C : ∀ (n9 : Nat) (kc : Int) (r9 : Nat → Int) (g1 : Nat → va_E), (351 - kc).toNat = n9 → (g1 (i + 1) = iA cs 29200 r9) → (∀ j, j ≠ i + 1 → g1 j = g1C j) → (∀ j : Nat, (j : Int) < kc → r9 j = 0) → (∀ j : Nat, kc ≤ (j : Int) → r9 j = r j) → (0 ≤ kc ∧ kc ≤ 350) → zV pZ l eZ ({ frames := 2, cells := 0, slots := 0, locals := 120 } : Room) sZ mZ ([.ref (ad i)] : List Value).toArray below meth cZ (MQ below (zPost D A (rV0 N ad fun g' => (∃ F' r' st' op' ai' fa' mu' tb' : Nat → Int, okMr cs ad g' i x F' r' st' op' ai' fa' mu' tb' tp ∧ (F' 13 = s.1 ∧ F' 14 = s.2.1 ∧ F' 17 = 0 ∧ F' 20 = F 20 ∧ F' 21 = 0 ∧ F' 23 = F 23 ∧ F' 24 = F 24) ∧ F' 12 = F 12 ∧ dT s st' op' ai' fa' mu' tb') ∧ ∀ j, j < i ∨ i + 30 ≤ j → g' j = g j)) ([.ref (ad i)] : List Value).toArray sZ ({ frames := 2, cells := 0, slots := 0, locals := 120 } : Room).cells ({ frames := 2, cells := 0, slots := 0, locals := 120 } : Room).slots A) D A 3 (N) ad g1 (0) (0) 110 [(0, .ref (ad i)), (1, .int (zI (kc)))] [] := by
                intro n9
                induction n9 using Nat.strongRecOn with
                | ind n9 ih_C =>
                  intro kc r9 g1 hm9 f2C_r9 f3C fCz fCr hvkC
                  obtain ⟨nkC, hnkC⟩ : ∃ n9 : Nat, kc = (n9 : Int) := ⟨kc.toNat, by omega⟩
                  refine z_iload_n C 1 dX10_becomes_110 rfl ?_
                  refine z_sipush (z := 350) C dX10_becomes_111 (by decide) ?_
                  refine z_icmp_ge (tgt := 130) C dX10_becomes_114 (by decide) (by omega) (by omega) (fun hby46 => ?_) (fun hby46 => ?_)
                  · refine z_aload_n C 0 dX10_becomes_130 rfl ?_
                    have hgy47 := (f3C (i) (ne_o (i := i) (c := 0) (d := 1) rfl)).trans hgy44
                    refine z_get (v := .ref (ad (i + 1))) C (lt_A0 hN rfl) hay1 hgy47 rfl inA_X10 0 (by decide) q_1459 rfl rfl dX10_becomes_131 ?_
                    refine z_iconst (z := 1) C dX10_becomes_134 rfl ?_
                    refine z_aload_n C 0 dX10_becomes_135 rfl ?_
                    refine z_get (v := .int (zI (F 49))) C (lt_A0 hN rfl) hay1 hgy47 rfl inA_X10 49 (by decide) q_1508 rfl (fv (F := (uZ (uZ F 13 (F 47)) 14 (F 48))) (f := 49) (fn (fn rfl (by decide)) (by decide))) dX10_becomes_136 ?_
                    refine z_iast C (lt_A (c := 1) hN rfl) hay2 f2C_r9 (1) (by omega) (by omega) (by decide) dX10_becomes_139 (fun gy48 egy49 => ?_)
                    have hgy50 := up_s egy49
                    obtain ⟨ry51, hvy52⟩ : ∃ rZ9 : Nat → Int, rZ9 = uZ r9 (1) (F 49) := ⟨_, rfl⟩
                    rw [← hvy52] at hgy50
                    refine z_iconst (z := 0) C dX10_becomes_140 rfl ?_
                    refine z_istore_n (lv' := [(1, .int (zI (0))), (0, .ref (ad i))]) C dX10_becomes_141 rfl (by decide) rfl ?_
                    have hfry53 : ∀ j, j ≠ 1 → ry51 j = r9 j := fun j n0 => (congrFun hvy52 _).trans ((uZ_n _ _ n0).trans (rfl))
                    have hwy54 : ry51 (1) = F 49 := (congrFun hvy52 _).trans (uZ_s _ _ _)
                    have D : ∀ (n9 : Nat) (sd : Int) (rd9 : Nat → Int) (st9 : Nat → Int) (op9 : Nat → Int) (g1 : Nat → va_E), (5 - sd).toNat = n9 → (g1 (i + 1) = iA cs 29200 rd9) → (g1 (i + 2) = iA cs 4 st9) → (g1 (i + 3) = iA cs 4 op9) → (∀ j, j ≠ i + 1 → j ≠ i + 2 → j ≠ i + 3 → g1 j = gy48 j) → (∀ k, k < 4 → 0 ≤ op9 k ∧ op9 k ≤ 20) → (∀ k : Nat, (k : Int) < sd → st9 k = st1 k ∧ op9 k = op1 k) → (rd9 0 = 0) → (rd9 1 = F 49) → (rd9 5 = 0) → (∀ j, 350 ≤ j → rd9 j = r j) → (∀ s : Nat, s < 4 → ((s : Int) < sd → okS rd9 (6 + 86 * s) 2400 12000) ∧ (sd ≤ (s : Int) → rd9 (6 + 86 * s) = 0)) → (0 ≤ sd ∧ sd ≤ F 47) → zV pZ l eZ ({ frames := 2, cells := 0, slots := 0, locals := 120 } : Room) sZ mZ ([.ref (ad i)] : List Value).toArray below meth cZ (MQ below (zPost D A (rV0 N ad fun g' => (∃ F' r' st' op' ai' fa' mu' tb' : Nat → Int, okMr cs ad g' i x F' r' st' op' ai' fa' mu' tb' tp ∧ (F' 13 = s.1 ∧ F' 14 = s.2.1 ∧ F' 17 = 0 ∧ F' 20 = F 20 ∧ F' 21 = 0 ∧ F' 23 = F 23 ∧ F' 24 = F 24) ∧ F' 12 = F 12 ∧ dT s st' op' ai' fa' mu' tb') ∧ ∀ j, j < i ∨ i + 30 ≤ j → g' j = g j)) ([.ref (ad i)] : List Value).toArray sZ ({ frames := 2, cells := 0, slots := 0, locals := 120 } : Room).cells ({ frames := 2, cells := 0, slots := 0, locals := 120 } : Room).slots A) D A 3 (N) ad g1 (0) (0) 142 [(0, .ref (ad i)), (1, .int (zI (sd)))] [] := by
                      intro n9
                      induction n9 using Nat.strongRecOn with
                      | ind n9 ih_D =>
                        intro sd rd9 st9 op9 g1 hm9 f2D_rd9 f2D_st9 f2D_op9 f3D fDo fDe fD0 fD1 fD5 fDr fDs hvkD
                        obtain ⟨nkD, hnkD⟩ : ∃ n9 : Nat, sd = (n9 : Int) := ⟨sd.toNat, by omega⟩
                        refine z_iload_n C 1 dX10_becomes_142 rfl ?_
                        refine z_aload_n C 0 dX10_becomes_143 rfl ?_
                        have hgy55 := up_n egy49 hgy47 (ne_o (i := i) (c := 0) (d := 1) rfl)
                        have hgy56 := (f3D (i) (ne_o (i := i) (c := 0) (d := 1) rfl) (ne_o (i := i) (c := 0) (d := 2) rfl) (ne_o (i := i) (c := 0) (d := 3) rfl)).trans hgy55
                        refine z_get (v := .int (zI (F 47))) C (lt_A0 hN rfl) hay1 hgy56 rfl inA_X10 13 (by decide) q_1472 rfl (fv (F := (uZ (uZ F 13 (F 47)) 14 (F 48))) (f := 13) (fn (uZ_s _ _ _) (by decide))) dX10_becomes_144 ?_
                        refine z_icmp_ge (tgt := 233) C dX10_becomes_147 (by decide) (by omega) (by omega) (fun hby57 => ?_) (fun hby57 => ?_)
                        · refine z_aload_n C 0 dX10_becomes_233 rfl ?_
                          refine z_aload_n C 0 dX10_becomes_234 rfl ?_
                          refine z_aload_n C 0 dX10_becomes_235 rfl ?_
                          refine z_aload_n C 0 dX10_becomes_236 rfl ?_
                          refine z_iconst (z := 0) C dX10_becomes_237 rfl ?_
                          refine z_dup_x1 C dX10_becomes_238 rfl rfl ?_
                          refine z_put (fs' := mF ad (i) (uZ (uZ (uZ F 13 (F 47)) 14 (F 48)) 21 (0))) C (lt_A0 hN rfl) hay1 hgy56 tyX10 tyX10_ok nmX10 rfl inA_X10 21 (by decide) q_1480 rfl rfl rfl rfl (Nat.le_of_ble_eq_true rfl) rfl dX10_becomes_239 (fun gy58 egy59 => ?_)
                          have hgy60 := up_s egy59
                          refine z_dup_x1 C dX10_becomes_242 rfl rfl ?_
                          refine z_put (fs' := mF ad (i) (uZ (uZ (uZ (uZ F 13 (F 47)) 14 (F 48)) 21 (0)) 17 (0))) C (lt_A0 hN rfl) hay1 hgy60 tyX10 tyX10_ok nmX10 rfl inA_X10 17 (by decide) q_1476 rfl rfl rfl rfl (Nat.le_of_ble_eq_true rfl) rfl dX10_becomes_243 (fun gy61 egy62 => ?_)
                          have hgy63 := up_s egy62
                          refine z_dup_x1 C dX10_becomes_246 rfl rfl ?_
                          refine z_put (fs' := mF ad (i) (uZ (uZ (uZ (uZ (uZ F 13 (F 47)) 14 (F 48)) 21 (0)) 17 (0)) 16 (0))) C (lt_A0 hN rfl) hay1 hgy63 tyX10 tyX10_ok nmX10 rfl inA_X10 16 (by decide) q_1475 rfl rfl rfl rfl (Nat.le_of_ble_eq_true rfl) rfl dX10_becomes_247 (fun gy64 egy65 => ?_)
                          have hgy66 := up_s egy65
                          refine z_put (fs' := mF ad (i) (uZ (uZ (uZ (uZ (uZ (uZ F 13 (F 47)) 14 (F 48)) 21 (0)) 17 (0)) 16 (0)) 15 (0))) C (lt_A0 hN rfl) hay1 hgy66 tyX10 tyX10_ok nmX10 rfl inA_X10 15 (by decide) q_1474 rfl rfl rfl rfl (Nat.le_of_ble_eq_true rfl) rfl dX10_becomes_250 (fun gy67 egy68 => ?_)
                          have hgy69 := up_s egy68
                          have hey70 : (uZ (uZ (uZ (uZ (uZ (uZ F 13 (F 47)) 14 (F 48)) 21 (0)) 17 (0)) 16 (0)) 15 (0)) 13 = F 47 := (fn (fn (fn (fn (fn (uZ_s _ _ _) (by decide)) (by decide)) (by decide)) (by decide)) (by decide))
                          have hey71 : (uZ (uZ (uZ (uZ (uZ (uZ F 13 (F 47)) 14 (F 48)) 21 (0)) 17 (0)) 16 (0)) 15 (0)) 14 = F 48 := (fn (fn (fn (fn (uZ_s _ _ _) (by decide)) (by decide)) (by decide)) (by decide))
                          have hey72 : (uZ (uZ (uZ (uZ (uZ (uZ F 13 (F 47)) 14 (F 48)) 21 (0)) 17 (0)) 16 (0)) 15 (0)) 15 = 0 := (uZ_s _ _ _)
                          have hey73 : (uZ (uZ (uZ (uZ (uZ (uZ F 13 (F 47)) 14 (F 48)) 21 (0)) 17 (0)) 16 (0)) 15 (0)) 16 = 0 := (fn (uZ_s _ _ _) (by decide))
                          have hey74 : (uZ (uZ (uZ (uZ (uZ (uZ F 13 (F 47)) 14 (F 48)) 21 (0)) 17 (0)) 16 (0)) 15 (0)) 17 = 0 := (fn (fn (uZ_s _ _ _) (by decide)) (by decide))
                          have hey75 : (uZ (uZ (uZ (uZ (uZ (uZ F 13 (F 47)) 14 (F 48)) 21 (0)) 17 (0)) 16 (0)) 15 (0)) 18 = F 18 := (fn (fn (fn (fn (fn (fn rfl (by decide)) (by decide)) (by decide)) (by decide)) (by decide)) (by decide))
                          have hey76 : (uZ (uZ (uZ (uZ (uZ (uZ F 13 (F 47)) 14 (F 48)) 21 (0)) 17 (0)) 16 (0)) 15 (0)) 19 = F 19 := (fn (fn (fn (fn (fn (fn rfl (by decide)) (by decide)) (by decide)) (by decide)) (by decide)) (by decide))
                          have hey77 : (uZ (uZ (uZ (uZ (uZ (uZ F 13 (F 47)) 14 (F 48)) 21 (0)) 17 (0)) 16 (0)) 15 (0)) 20 = F 20 := (fn (fn (fn (fn (fn (fn rfl (by decide)) (by decide)) (by decide)) (by decide)) (by decide)) (by decide))
                          have hey78 : (uZ (uZ (uZ (uZ (uZ (uZ F 13 (F 47)) 14 (F 48)) 21 (0)) 17 (0)) 16 (0)) 15 (0)) 21 = 0 := (fn (fn (fn (uZ_s _ _ _) (by decide)) (by decide)) (by decide))
                          have hey79 : (uZ (uZ (uZ (uZ (uZ (uZ F 13 (F 47)) 14 (F 48)) 21 (0)) 17 (0)) 16 (0)) 15 (0)) 23 = F 23 := (fn (fn (fn (fn (fn (fn rfl (by decide)) (by decide)) (by decide)) (by decide)) (by decide)) (by decide))
                          have hey80 : (uZ (uZ (uZ (uZ (uZ (uZ F 13 (F 47)) 14 (F 48)) 21 (0)) 17 (0)) 16 (0)) 15 (0)) 25 = F 25 := (fn (fn (fn (fn (fn (fn rfl (by decide)) (by decide)) (by decide)) (by decide)) (by decide)) (by decide))
                          have hey81 : (uZ (uZ (uZ (uZ (uZ (uZ F 13 (F 47)) 14 (F 48)) 21 (0)) 17 (0)) 16 (0)) 15 (0)) 27 = F 27 := (fn (fn (fn (fn (fn (fn rfl (by decide)) (by decide)) (by decide)) (by decide)) (by decide)) (by decide))
                          have hey82 : (uZ (uZ (uZ (uZ (uZ (uZ F 13 (F 47)) 14 (F 48)) 21 (0)) 17 (0)) 16 (0)) 15 (0)) 28 = F 28 := (fn (fn (fn (fn (fn (fn rfl (by decide)) (by decide)) (by decide)) (by decide)) (by decide)) (by decide))
                          have hey83 : (uZ (uZ (uZ (uZ (uZ (uZ F 13 (F 47)) 14 (F 48)) 21 (0)) 17 (0)) 16 (0)) 15 (0)) 29 = F 29 := (fn (fn (fn (fn (fn (fn rfl (by decide)) (by decide)) (by decide)) (by decide)) (by decide)) (by decide))
                          have hey84 : (uZ (uZ (uZ (uZ (uZ (uZ F 13 (F 47)) 14 (F 48)) 21 (0)) 17 (0)) 16 (0)) 15 (0)) 21 = 0 := (fn (fn (fn (uZ_s _ _ _) (by decide)) (by decide)) (by decide))
                          have hey85 : (uZ (uZ (uZ (uZ (uZ (uZ F 13 (F 47)) 14 (F 48)) 21 (0)) 17 (0)) 16 (0)) 15 (0)) 24 = F 24 := (fn (fn (fn (fn (fn (fn rfl (by decide)) (by decide)) (by decide)) (by decide)) (by decide)) (by decide))
                          have hey86 : (uZ (uZ (uZ (uZ (uZ (uZ F 13 (F 47)) 14 (F 48)) 21 (0)) 17 (0)) 16 (0)) 15 (0)) 12 = F 12 := (fn (fn (fn (fn (fn (fn rfl (by decide)) (by decide)) (by decide)) (by decide)) (by decide)) (by decide))
                          have hK9 : okF (uZ (uZ (uZ (uZ (uZ (uZ F 13 (F 47)) 14 (F 48)) 21 (0)) 17 (0)) 16 (0)) 15 (0)) := by unfold okF; omega
                          have hx47 : (uZ (uZ (uZ (uZ (uZ (uZ F 13 (F 47)) 14 (F 48)) 21 (0)) 17 (0)) 16 (0)) 15 (0)) 47 = F 47 := (fn (fn (fn (fn (fn (fn rfl (by decide)) (by decide)) (by decide)) (by decide)) (by decide)) (by decide))
                          have hx48 : (uZ (uZ (uZ (uZ (uZ (uZ F 13 (F 47)) 14 (F 48)) 21 (0)) 17 (0)) 16 (0)) 15 (0)) 48 = F 48 := (fn (fn (fn (fn (fn (fn rfl (by decide)) (by decide)) (by decide)) (by decide)) (by decide)) (by decide))
                          have hx49 : (uZ (uZ (uZ (uZ (uZ (uZ F 13 (F 47)) 14 (F 48)) 21 (0)) 17 (0)) 16 (0)) 15 (0)) 49 = F 49 := (fn (fn (fn (fn (fn (fn rfl (by decide)) (by decide)) (by decide)) (by decide)) (by decide)) (by decide))
                          have hx32 : (uZ (uZ (uZ (uZ (uZ (uZ F 13 (F 47)) 14 (F 48)) 21 (0)) 17 (0)) 16 (0)) 15 (0)) 32 = F 32 := (fn (fn (fn (fn (fn (fn rfl (by decide)) (by decide)) (by decide)) (by decide)) (by decide)) (by decide))
                          have hT9 : okTx cs gy67 i (uZ (uZ (uZ (uZ (uZ (uZ F 13 (F 47)) 14 (F 48)) 21 (0)) 17 (0)) 16 (0)) 15 (0)) := hTs.mv (fun j a b => by rw [egy68, va_up_ne _ _ (by omega)]; rw [egy65, va_up_ne _ _ (by omega)]; rw [egy62, va_up_ne _ _ (by omega)]; rw [egy59, va_up_ne _ _ (by omega)]; rw [f3D _ (by omega) (by omega) (by omega)]; rw [egy49, va_up_ne _ _ (by omega)]; rw [f3C _ (by omega)]; rw [f3B _ (by omega) (by omega) (by omega)]; rw [f3A _ (by omega)]; rw [hfvy40 _ (by omega)]; rw [egy36, va_up_ne _ _ (by omega)]; rw [egy33, va_up_ne _ _ (by omega)]) ⟨by omega, by omega, by omega, by omega⟩
                          have hW9 : okW rd9 0 x := ⟨fun s hs => by rw [fD0]; exact (by by_cases e : (s : Int) < sd; exact (((fDs s hs).1 e).of (by omega)).mono (by unfold mB; omega) (by unfold eB; omega); exact (okS.zero ((fDs s hs).2 (by omega)) (by unfold mB; omega) (by unfold eB; omega)).of (by omega)), by rw [fD0]; omega, by rw [fD0]; show 0 ≤ rd9 1 ∧ rd9 1 ≤ _; rw [fD1]; omega, by show 0 ≤ rd9 5 ∧ rd9 5 ≤ 6; rw [fD5]; omega⟩
                          have hA9 : okA rd9 x := okA.first hA (Int.le_refl _) (fun j a => fDr j a) hW9 (by rw [fD0]; omega)
                          have hgy87 := up_n egy59 f2D_rd9 (ne_o (i := i) (c := 1) (d := 0) rfl)
                          have hgy88 := up_n egy62 hgy87 (ne_o (i := i) (c := 1) (d := 0) rfl)
                          have hgy89 := up_n egy65 hgy88 (ne_o (i := i) (c := 1) (d := 0) rfl)
                          have hgy90 := up_n egy68 hgy89 (ne_o (i := i) (c := 1) (d := 0) rfl)
                          have hgy91 := up_n egy59 f2D_st9 (ne_o (i := i) (c := 2) (d := 0) rfl)
                          have hgy92 := up_n egy62 hgy91 (ne_o (i := i) (c := 2) (d := 0) rfl)
                          have hgy93 := up_n egy65 hgy92 (ne_o (i := i) (c := 2) (d := 0) rfl)
                          have hgy94 := up_n egy68 hgy93 (ne_o (i := i) (c := 2) (d := 0) rfl)
                          have hgy95 := up_n egy59 f2D_op9 (ne_o (i := i) (c := 3) (d := 0) rfl)
                          have hgy96 := up_n egy62 hgy95 (ne_o (i := i) (c := 3) (d := 0) rfl)
                          have hgy97 := up_n egy65 hgy96 (ne_o (i := i) (c := 3) (d := 0) rfl)
                          have hgy98 := up_n egy68 hgy97 (ne_o (i := i) (c := 3) (d := 0) rfl)
                          have hgy99 := (f3C (i + 4) (ne_o (i := i) (c := 4) (d := 1) rfl)).trans f2B_a9
                          have hgy100 := up_n egy49 hgy99 (ne_o (i := i) (c := 4) (d := 1) rfl)
                          have hgy101 := (f3D (i + 4) (ne_o (i := i) (c := 4) (d := 1) rfl) (ne_o (i := i) (c := 4) (d := 2) rfl) (ne_o (i := i) (c := 4) (d := 3) rfl)).trans hgy100
                          have hgy102 := up_n egy59 hgy101 (ne_o (i := i) (c := 4) (d := 0) rfl)
                          have hgy103 := up_n egy62 hgy102 (ne_o (i := i) (c := 4) (d := 0) rfl)
                          have hgy104 := up_n egy65 hgy103 (ne_o (i := i) (c := 4) (d := 0) rfl)
                          have hgy105 := up_n egy68 hgy104 (ne_o (i := i) (c := 4) (d := 0) rfl)
                          have hgy106 := (f3C (i + 5) (ne_o (i := i) (c := 5) (d := 1) rfl)).trans f2B_fa9
                          have hgy107 := up_n egy49 hgy106 (ne_o (i := i) (c := 5) (d := 1) rfl)
                          have hgy108 := (f3D (i + 5) (ne_o (i := i) (c := 5) (d := 1) rfl) (ne_o (i := i) (c := 5) (d := 2) rfl) (ne_o (i := i) (c := 5) (d := 3) rfl)).trans hgy107
                          have hgy109 := up_n egy59 hgy108 (ne_o (i := i) (c := 5) (d := 0) rfl)
                          have hgy110 := up_n egy62 hgy109 (ne_o (i := i) (c := 5) (d := 0) rfl)
                          have hgy111 := up_n egy65 hgy110 (ne_o (i := i) (c := 5) (d := 0) rfl)
                          have hgy112 := up_n egy68 hgy111 (ne_o (i := i) (c := 5) (d := 0) rfl)
                          have hgy113 := (f3C (i + 6) (ne_o (i := i) (c := 6) (d := 1) rfl)).trans f2B_m9
                          have hgy114 := up_n egy49 hgy113 (ne_o (i := i) (c := 6) (d := 1) rfl)
                          have hgy115 := (f3D (i + 6) (ne_o (i := i) (c := 6) (d := 1) rfl) (ne_o (i := i) (c := 6) (d := 2) rfl) (ne_o (i := i) (c := 6) (d := 3) rfl)).trans hgy114
                          have hgy116 := up_n egy59 hgy115 (ne_o (i := i) (c := 6) (d := 0) rfl)
                          have hgy117 := up_n egy62 hgy116 (ne_o (i := i) (c := 6) (d := 0) rfl)
                          have hgy118 := up_n egy65 hgy117 (ne_o (i := i) (c := 6) (d := 0) rfl)
                          have hgy119 := up_n egy68 hgy118 (ne_o (i := i) (c := 6) (d := 0) rfl)
                          have hgy120 := (f3B (i + 7) (ne_o (i := i) (c := 7) (d := 4) rfl) (ne_o (i := i) (c := 7) (d := 5) rfl) (ne_o (i := i) (c := 7) (d := 6) rfl)).trans f2A_t9
                          have hgy121 := (f3C (i + 7) (ne_o (i := i) (c := 7) (d := 1) rfl)).trans hgy120
                          have hgy122 := up_n egy49 hgy121 (ne_o (i := i) (c := 7) (d := 1) rfl)
                          have hgy123 := (f3D (i + 7) (ne_o (i := i) (c := 7) (d := 1) rfl) (ne_o (i := i) (c := 7) (d := 2) rfl) (ne_o (i := i) (c := 7) (d := 3) rfl)).trans hgy122
                          have hgy124 := up_n egy59 hgy123 (ne_o (i := i) (c := 7) (d := 0) rfl)
                          have hgy125 := up_n egy62 hgy124 (ne_o (i := i) (c := 7) (d := 0) rfl)
                          have hgy126 := up_n egy65 hgy125 (ne_o (i := i) (c := 7) (d := 0) rfl)
                          have hgy127 := up_n egy68 hgy126 (ne_o (i := i) (c := 7) (d := 0) rfl)
                          have hgy128 := up_n egy33 ha8 (ne_o (i := i) (c := 8) (d := 0) rfl)
                          have hgy129 := up_n egy36 hgy128 (ne_o (i := i) (c := 8) (d := 0) rfl)
                          have hgy130 := (hfvy40 (i + 8) (ne_o (i := i) (c := 8) (d := 7) rfl)).trans hgy129
                          have hgy131 := (f3A (i + 8) (ne_o (i := i) (c := 8) (d := 7) rfl)).trans hgy130
                          have hgy132 := (f3B (i + 8) (ne_o (i := i) (c := 8) (d := 4) rfl) (ne_o (i := i) (c := 8) (d := 5) rfl) (ne_o (i := i) (c := 8) (d := 6) rfl)).trans hgy131
                          have hgy133 := (f3C (i + 8) (ne_o (i := i) (c := 8) (d := 1) rfl)).trans hgy132
                          have hgy134 := up_n egy49 hgy133 (ne_o (i := i) (c := 8) (d := 1) rfl)
                          have hgy135 := (f3D (i + 8) (ne_o (i := i) (c := 8) (d := 1) rfl) (ne_o (i := i) (c := 8) (d := 2) rfl) (ne_o (i := i) (c := 8) (d := 3) rfl)).trans hgy134
                          have hgy136 := up_n egy59 hgy135 (ne_o (i := i) (c := 8) (d := 0) rfl)
                          have hgy137 := up_n egy62 hgy136 (ne_o (i := i) (c := 8) (d := 0) rfl)
                          have hgy138 := up_n egy65 hgy137 (ne_o (i := i) (c := 8) (d := 0) rfl)
                          have hgy139 := up_n egy68 hgy138 (ne_o (i := i) (c := 8) (d := 0) rfl)
                          have hgy140 := up_n egy33 ha9 (ne_o (i := i) (c := 9) (d := 0) rfl)
                          have hgy141 := up_n egy36 hgy140 (ne_o (i := i) (c := 9) (d := 0) rfl)
                          have hgy142 := (hfvy40 (i + 9) (ne_o (i := i) (c := 9) (d := 7) rfl)).trans hgy141
                          have hgy143 := (f3A (i + 9) (ne_o (i := i) (c := 9) (d := 7) rfl)).trans hgy142
                          have hgy144 := (f3B (i + 9) (ne_o (i := i) (c := 9) (d := 4) rfl) (ne_o (i := i) (c := 9) (d := 5) rfl) (ne_o (i := i) (c := 9) (d := 6) rfl)).trans hgy143
                          have hgy145 := (f3C (i + 9) (ne_o (i := i) (c := 9) (d := 1) rfl)).trans hgy144
                          have hgy146 := up_n egy49 hgy145 (ne_o (i := i) (c := 9) (d := 1) rfl)
                          have hgy147 := (f3D (i + 9) (ne_o (i := i) (c := 9) (d := 1) rfl) (ne_o (i := i) (c := 9) (d := 2) rfl) (ne_o (i := i) (c := 9) (d := 3) rfl)).trans hgy146
                          have hgy148 := up_n egy59 hgy147 (ne_o (i := i) (c := 9) (d := 0) rfl)
                          have hgy149 := up_n egy62 hgy148 (ne_o (i := i) (c := 9) (d := 0) rfl)
                          have hgy150 := up_n egy65 hgy149 (ne_o (i := i) (c := 9) (d := 0) rfl)
                          have hgy151 := up_n egy68 hgy150 (ne_o (i := i) (c := 9) (d := 0) rfl)
                          have hgy152 := up_n egy33 ha10 (ne_o (i := i) (c := 10) (d := 0) rfl)
                          have hgy153 := up_n egy36 hgy152 (ne_o (i := i) (c := 10) (d := 0) rfl)
                          have hgy154 := (hfvy40 (i + 10) (ne_o (i := i) (c := 10) (d := 7) rfl)).trans hgy153
                          have hgy155 := (f3A (i + 10) (ne_o (i := i) (c := 10) (d := 7) rfl)).trans hgy154
                          have hgy156 := (f3B (i + 10) (ne_o (i := i) (c := 10) (d := 4) rfl) (ne_o (i := i) (c := 10) (d := 5) rfl) (ne_o (i := i) (c := 10) (d := 6) rfl)).trans hgy155
                          have hgy157 := (f3C (i + 10) (ne_o (i := i) (c := 10) (d := 1) rfl)).trans hgy156
                          have hgy158 := up_n egy49 hgy157 (ne_o (i := i) (c := 10) (d := 1) rfl)
                          have hgy159 := (f3D (i + 10) (ne_o (i := i) (c := 10) (d := 1) rfl) (ne_o (i := i) (c := 10) (d := 2) rfl) (ne_o (i := i) (c := 10) (d := 3) rfl)).trans hgy158
                          have hgy160 := up_n egy59 hgy159 (ne_o (i := i) (c := 10) (d := 0) rfl)
                          have hgy161 := up_n egy62 hgy160 (ne_o (i := i) (c := 10) (d := 0) rfl)
                          have hgy162 := up_n egy65 hgy161 (ne_o (i := i) (c := 10) (d := 0) rfl)
                          have hgy163 := up_n egy68 hgy162 (ne_o (i := i) (c := 10) (d := 0) rfl)
                          have hgy164 := up_n egy33 ha11 (ne_o (i := i) (c := 11) (d := 0) rfl)
                          have hgy165 := up_n egy36 hgy164 (ne_o (i := i) (c := 11) (d := 0) rfl)
                          have hgy166 := (hfvy40 (i + 11) (ne_o (i := i) (c := 11) (d := 7) rfl)).trans hgy165
                          have hgy167 := (f3A (i + 11) (ne_o (i := i) (c := 11) (d := 7) rfl)).trans hgy166
                          have hgy168 := (f3B (i + 11) (ne_o (i := i) (c := 11) (d := 4) rfl) (ne_o (i := i) (c := 11) (d := 5) rfl) (ne_o (i := i) (c := 11) (d := 6) rfl)).trans hgy167
                          have hgy169 := (f3C (i + 11) (ne_o (i := i) (c := 11) (d := 1) rfl)).trans hgy168
                          have hgy170 := up_n egy49 hgy169 (ne_o (i := i) (c := 11) (d := 1) rfl)
                          have hgy171 := (f3D (i + 11) (ne_o (i := i) (c := 11) (d := 1) rfl) (ne_o (i := i) (c := 11) (d := 2) rfl) (ne_o (i := i) (c := 11) (d := 3) rfl)).trans hgy170
                          have hgy172 := up_n egy59 hgy171 (ne_o (i := i) (c := 11) (d := 0) rfl)
                          have hgy173 := up_n egy62 hgy172 (ne_o (i := i) (c := 11) (d := 0) rfl)
                          have hgy174 := up_n egy65 hgy173 (ne_o (i := i) (c := 11) (d := 0) rfl)
                          have hgy175 := up_n egy68 hgy174 (ne_o (i := i) (c := 11) (d := 0) rfl)
                          have hgy176 := up_n egy33 ha12 (ne_o (i := i) (c := 12) (d := 0) rfl)
                          have hgy177 := up_n egy36 hgy176 (ne_o (i := i) (c := 12) (d := 0) rfl)
                          have hgy178 := (hfvy40 (i + 12) (ne_o (i := i) (c := 12) (d := 7) rfl)).trans hgy177
                          have hgy179 := (f3A (i + 12) (ne_o (i := i) (c := 12) (d := 7) rfl)).trans hgy178
                          have hgy180 := (f3B (i + 12) (ne_o (i := i) (c := 12) (d := 4) rfl) (ne_o (i := i) (c := 12) (d := 5) rfl) (ne_o (i := i) (c := 12) (d := 6) rfl)).trans hgy179
                          have hgy181 := (f3C (i + 12) (ne_o (i := i) (c := 12) (d := 1) rfl)).trans hgy180
                          have hgy182 := up_n egy49 hgy181 (ne_o (i := i) (c := 12) (d := 1) rfl)
                          have hgy183 := (f3D (i + 12) (ne_o (i := i) (c := 12) (d := 1) rfl) (ne_o (i := i) (c := 12) (d := 2) rfl) (ne_o (i := i) (c := 12) (d := 3) rfl)).trans hgy182
                          have hgy184 := up_n egy59 hgy183 (ne_o (i := i) (c := 12) (d := 0) rfl)
                          have hgy185 := up_n egy62 hgy184 (ne_o (i := i) (c := 12) (d := 0) rfl)
                          have hgy186 := up_n egy65 hgy185 (ne_o (i := i) (c := 12) (d := 0) rfl)
                          have hgy187 := up_n egy68 hgy186 (ne_o (i := i) (c := 12) (d := 0) rfl)
                          have hgy188 := up_n egy33 ha13 (ne_o (i := i) (c := 13) (d := 0) rfl)
                          have hgy189 := up_n egy36 hgy188 (ne_o (i := i) (c := 13) (d := 0) rfl)
                          have hgy190 := (hfvy40 (i + 13) (ne_o (i := i) (c := 13) (d := 7) rfl)).trans hgy189
                          have hgy191 := (f3A (i + 13) (ne_o (i := i) (c := 13) (d := 7) rfl)).trans hgy190
                          have hgy192 := (f3B (i + 13) (ne_o (i := i) (c := 13) (d := 4) rfl) (ne_o (i := i) (c := 13) (d := 5) rfl) (ne_o (i := i) (c := 13) (d := 6) rfl)).trans hgy191
                          have hgy193 := (f3C (i + 13) (ne_o (i := i) (c := 13) (d := 1) rfl)).trans hgy192
                          have hgy194 := up_n egy49 hgy193 (ne_o (i := i) (c := 13) (d := 1) rfl)
                          have hgy195 := (f3D (i + 13) (ne_o (i := i) (c := 13) (d := 1) rfl) (ne_o (i := i) (c := 13) (d := 2) rfl) (ne_o (i := i) (c := 13) (d := 3) rfl)).trans hgy194
                          have hgy196 := up_n egy59 hgy195 (ne_o (i := i) (c := 13) (d := 0) rfl)
                          have hgy197 := up_n egy62 hgy196 (ne_o (i := i) (c := 13) (d := 0) rfl)
                          have hgy198 := up_n egy65 hgy197 (ne_o (i := i) (c := 13) (d := 0) rfl)
                          have hgy199 := up_n egy68 hgy198 (ne_o (i := i) (c := 13) (d := 0) rfl)
                          have hgy200 := up_n egy33 ha14 (ne_o (i := i) (c := 14) (d := 0) rfl)
                          have hgy201 := up_n egy36 hgy200 (ne_o (i := i) (c := 14) (d := 0) rfl)
                          have hgy202 := (hfvy40 (i + 14) (ne_o (i := i) (c := 14) (d := 7) rfl)).trans hgy201
                          have hgy203 := (f3A (i + 14) (ne_o (i := i) (c := 14) (d := 7) rfl)).trans hgy202
                          have hgy204 := (f3B (i + 14) (ne_o (i := i) (c := 14) (d := 4) rfl) (ne_o (i := i) (c := 14) (d := 5) rfl) (ne_o (i := i) (c := 14) (d := 6) rfl)).trans hgy203
                          have hgy205 := (f3C (i + 14) (ne_o (i := i) (c := 14) (d := 1) rfl)).trans hgy204
                          have hgy206 := up_n egy49 hgy205 (ne_o (i := i) (c := 14) (d := 1) rfl)
                          have hgy207 := (f3D (i + 14) (ne_o (i := i) (c := 14) (d := 1) rfl) (ne_o (i := i) (c := 14) (d := 2) rfl) (ne_o (i := i) (c := 14) (d := 3) rfl)).trans hgy206
                          have hgy208 := up_n egy59 hgy207 (ne_o (i := i) (c := 14) (d := 0) rfl)
                          have hgy209 := up_n egy62 hgy208 (ne_o (i := i) (c := 14) (d := 0) rfl)
                          have hgy210 := up_n egy65 hgy209 (ne_o (i := i) (c := 14) (d := 0) rfl)
                          have hgy211 := up_n egy68 hgy210 (ne_o (i := i) (c := 14) (d := 0) rfl)
                          have hgy212 := up_n egy33 ha15 (ne_o (i := i) (c := 15) (d := 0) rfl)
                          have hgy213 := up_n egy36 hgy212 (ne_o (i := i) (c := 15) (d := 0) rfl)
                          have hgy214 := (hfvy40 (i + 15) (ne_o (i := i) (c := 15) (d := 7) rfl)).trans hgy213
                          have hgy215 := (f3A (i + 15) (ne_o (i := i) (c := 15) (d := 7) rfl)).trans hgy214
                          have hgy216 := (f3B (i + 15) (ne_o (i := i) (c := 15) (d := 4) rfl) (ne_o (i := i) (c := 15) (d := 5) rfl) (ne_o (i := i) (c := 15) (d := 6) rfl)).trans hgy215
                          have hgy217 := (f3C (i + 15) (ne_o (i := i) (c := 15) (d := 1) rfl)).trans hgy216
                          have hgy218 := up_n egy49 hgy217 (ne_o (i := i) (c := 15) (d := 1) rfl)
                          have hgy219 := (f3D (i + 15) (ne_o (i := i) (c := 15) (d := 1) rfl) (ne_o (i := i) (c := 15) (d := 2) rfl) (ne_o (i := i) (c := 15) (d := 3) rfl)).trans hgy218
                          have hgy220 := up_n egy59 hgy219 (ne_o (i := i) (c := 15) (d := 0) rfl)
                          have hgy221 := up_n egy62 hgy220 (ne_o (i := i) (c := 15) (d := 0) rfl)
                          have hgy222 := up_n egy65 hgy221 (ne_o (i := i) (c := 15) (d := 0) rfl)
                          have hgy223 := up_n egy68 hgy222 (ne_o (i := i) (c := 15) (d := 0) rfl)
                          have hgy224 := up_n egy33 ha24 (ne_o (i := i) (c := 24) (d := 0) rfl)
                          have hgy225 := up_n egy36 hgy224 (ne_o (i := i) (c := 24) (d := 0) rfl)
                          have hgy226 := (hfvy40 (i + 24) (ne_o (i := i) (c := 24) (d := 7) rfl)).trans hgy225
                          have hgy227 := (f3A (i + 24) (ne_o (i := i) (c := 24) (d := 7) rfl)).trans hgy226
                          have hgy228 := (f3B (i + 24) (ne_o (i := i) (c := 24) (d := 4) rfl) (ne_o (i := i) (c := 24) (d := 5) rfl) (ne_o (i := i) (c := 24) (d := 6) rfl)).trans hgy227
                          have hgy229 := (f3C (i + 24) (ne_o (i := i) (c := 24) (d := 1) rfl)).trans hgy228
                          have hgy230 := up_n egy49 hgy229 (ne_o (i := i) (c := 24) (d := 1) rfl)
                          have hgy231 := (f3D (i + 24) (ne_o (i := i) (c := 24) (d := 1) rfl) (ne_o (i := i) (c := 24) (d := 2) rfl) (ne_o (i := i) (c := 24) (d := 3) rfl)).trans hgy230
                          have hgy232 := up_n egy59 hgy231 (ne_o (i := i) (c := 24) (d := 0) rfl)
                          have hgy233 := up_n egy62 hgy232 (ne_o (i := i) (c := 24) (d := 0) rfl)
                          have hgy234 := up_n egy65 hgy233 (ne_o (i := i) (c := 24) (d := 0) rfl)
                          have hgy235 := up_n egy68 hgy234 (ne_o (i := i) (c := 24) (d := 0) rfl)
                          have hgy236 := up_n egy33 ha25 (ne_o (i := i) (c := 25) (d := 0) rfl)
                          have hgy237 := up_n egy36 hgy236 (ne_o (i := i) (c := 25) (d := 0) rfl)
                          have hgy238 := (hfvy40 (i + 25) (ne_o (i := i) (c := 25) (d := 7) rfl)).trans hgy237
                          have hgy239 := (f3A (i + 25) (ne_o (i := i) (c := 25) (d := 7) rfl)).trans hgy238
                          have hgy240 := (f3B (i + 25) (ne_o (i := i) (c := 25) (d := 4) rfl) (ne_o (i := i) (c := 25) (d := 5) rfl) (ne_o (i := i) (c := 25) (d := 6) rfl)).trans hgy239
                          have hgy241 := (f3C (i + 25) (ne_o (i := i) (c := 25) (d := 1) rfl)).trans hgy240
                          have hgy242 := up_n egy49 hgy241 (ne_o (i := i) (c := 25) (d := 1) rfl)
                          have hgy243 := (f3D (i + 25) (ne_o (i := i) (c := 25) (d := 1) rfl) (ne_o (i := i) (c := 25) (d := 2) rfl) (ne_o (i := i) (c := 25) (d := 3) rfl)).trans hgy242
                          have hgy244 := up_n egy59 hgy243 (ne_o (i := i) (c := 25) (d := 0) rfl)
                          have hgy245 := up_n egy62 hgy244 (ne_o (i := i) (c := 25) (d := 0) rfl)
                          have hgy246 := up_n egy65 hgy245 (ne_o (i := i) (c := 25) (d := 0) rfl)
                          have hgy247 := up_n egy68 hgy246 (ne_o (i := i) (c := 25) (d := 0) rfl)
                          have hgy248 := up_n egy33 ha26 (ne_o (i := i) (c := 26) (d := 0) rfl)
                          have hgy249 := up_n egy36 hgy248 (ne_o (i := i) (c := 26) (d := 0) rfl)
                          have hgy250 := (hfvy40 (i + 26) (ne_o (i := i) (c := 26) (d := 7) rfl)).trans hgy249
                          have hgy251 := (f3A (i + 26) (ne_o (i := i) (c := 26) (d := 7) rfl)).trans hgy250
                          have hgy252 := (f3B (i + 26) (ne_o (i := i) (c := 26) (d := 4) rfl) (ne_o (i := i) (c := 26) (d := 5) rfl) (ne_o (i := i) (c := 26) (d := 6) rfl)).trans hgy251
                          have hgy253 := (f3C (i + 26) (ne_o (i := i) (c := 26) (d := 1) rfl)).trans hgy252
                          have hgy254 := up_n egy49 hgy253 (ne_o (i := i) (c := 26) (d := 1) rfl)
                          have hgy255 := (f3D (i + 26) (ne_o (i := i) (c := 26) (d := 1) rfl) (ne_o (i := i) (c := 26) (d := 2) rfl) (ne_o (i := i) (c := 26) (d := 3) rfl)).trans hgy254
                          have hgy256 := up_n egy59 hgy255 (ne_o (i := i) (c := 26) (d := 0) rfl)
                          have hgy257 := up_n egy62 hgy256 (ne_o (i := i) (c := 26) (d := 0) rfl)
                          have hgy258 := up_n egy65 hgy257 (ne_o (i := i) (c := 26) (d := 0) rfl)
                          have hgy259 := up_n egy68 hgy258 (ne_o (i := i) (c := 26) (d := 0) rfl)
                          have hgy260 := up_n egy33 ha27 (ne_o (i := i) (c := 27) (d := 0) rfl)
                          have hgy261 := up_n egy36 hgy260 (ne_o (i := i) (c := 27) (d := 0) rfl)
                          have hgy262 := (hfvy40 (i + 27) (ne_o (i := i) (c := 27) (d := 7) rfl)).trans hgy261
                          have hgy263 := (f3A (i + 27) (ne_o (i := i) (c := 27) (d := 7) rfl)).trans hgy262
                          have hgy264 := (f3B (i + 27) (ne_o (i := i) (c := 27) (d := 4) rfl) (ne_o (i := i) (c := 27) (d := 5) rfl) (ne_o (i := i) (c := 27) (d := 6) rfl)).trans hgy263
                          have hgy265 := (f3C (i + 27) (ne_o (i := i) (c := 27) (d := 1) rfl)).trans hgy264
                          have hgy266 := up_n egy49 hgy265 (ne_o (i := i) (c := 27) (d := 1) rfl)
                          have hgy267 := (f3D (i + 27) (ne_o (i := i) (c := 27) (d := 1) rfl) (ne_o (i := i) (c := 27) (d := 2) rfl) (ne_o (i := i) (c := 27) (d := 3) rfl)).trans hgy266
                          have hgy268 := up_n egy59 hgy267 (ne_o (i := i) (c := 27) (d := 0) rfl)
                          have hgy269 := up_n egy62 hgy268 (ne_o (i := i) (c := 27) (d := 0) rfl)
                          have hgy270 := up_n egy65 hgy269 (ne_o (i := i) (c := 27) (d := 0) rfl)
                          have hgy271 := up_n egy68 hgy270 (ne_o (i := i) (c := 27) (d := 0) rfl)
                          have hgy272 := up_n egy33 ha28 (ne_o (i := i) (c := 28) (d := 0) rfl)
                          have hgy273 := up_n egy36 hgy272 (ne_o (i := i) (c := 28) (d := 0) rfl)
                          have hgy274 := (hfvy40 (i + 28) (ne_o (i := i) (c := 28) (d := 7) rfl)).trans hgy273
                          have hgy275 := (f3A (i + 28) (ne_o (i := i) (c := 28) (d := 7) rfl)).trans hgy274
                          have hgy276 := (f3B (i + 28) (ne_o (i := i) (c := 28) (d := 4) rfl) (ne_o (i := i) (c := 28) (d := 5) rfl) (ne_o (i := i) (c := 28) (d := 6) rfl)).trans hgy275
                          have hgy277 := (f3C (i + 28) (ne_o (i := i) (c := 28) (d := 1) rfl)).trans hgy276
                          have hgy278 := up_n egy49 hgy277 (ne_o (i := i) (c := 28) (d := 1) rfl)
                          have hgy279 := (f3D (i + 28) (ne_o (i := i) (c := 28) (d := 1) rfl) (ne_o (i := i) (c := 28) (d := 2) rfl) (ne_o (i := i) (c := 28) (d := 3) rfl)).trans hgy278
                          have hgy280 := up_n egy59 hgy279 (ne_o (i := i) (c := 28) (d := 0) rfl)
                          have hgy281 := up_n egy62 hgy280 (ne_o (i := i) (c := 28) (d := 0) rfl)
                          have hgy282 := up_n egy65 hgy281 (ne_o (i := i) (c := 28) (d := 0) rfl)
                          have hgy283 := up_n egy68 hgy282 (ne_o (i := i) (c := 28) (d := 0) rfl)
                          have hgy284 := up_n egy33 ha29 (ne_o (i := i) (c := 29) (d := 0) rfl)
                          have hgy285 := up_n egy36 hgy284 (ne_o (i := i) (c := 29) (d := 0) rfl)
                          have hgy286 := (hfvy40 (i + 29) (ne_o (i := i) (c := 29) (d := 7) rfl)).trans hgy285
                          have hgy287 := (f3A (i + 29) (ne_o (i := i) (c := 29) (d := 7) rfl)).trans hgy286
                          have hgy288 := (f3B (i + 29) (ne_o (i := i) (c := 29) (d := 4) rfl) (ne_o (i := i) (c := 29) (d := 5) rfl) (ne_o (i := i) (c := 29) (d := 6) rfl)).trans hgy287
                          have hgy289 := (f3C (i + 29) (ne_o (i := i) (c := 29) (d := 1) rfl)).trans hgy288
                          have hgy290 := up_n egy49 hgy289 (ne_o (i := i) (c := 29) (d := 1) rfl)
                          have hgy291 := (f3D (i + 29) (ne_o (i := i) (c := 29) (d := 1) rfl) (ne_o (i := i) (c := 29) (d := 2) rfl) (ne_o (i := i) (c := 29) (d := 3) rfl)).trans hgy290
                          have hgy292 := up_n egy59 hgy291 (ne_o (i := i) (c := 29) (d := 0) rfl)
                          have hgy293 := up_n egy62 hgy292 (ne_o (i := i) (c := 29) (d := 0) rfl)
                          have hgy294 := up_n egy65 hgy293 (ne_o (i := i) (c := 29) (d := 0) rfl)
                          have hgy295 := up_n egy68 hgy294 (ne_o (i := i) (c := 29) (d := 0) rfl)
                          have hM9 : okMr cs ad gy67 i x (uZ (uZ (uZ (uZ (uZ (uZ F 13 (F 47)) 14 (F 48)) 21 (0)) 17 (0)) 16 (0)) 15 (0)) rd9 (st9) (op9) (a9) (fa9) (m9) (t9) tp := ⟨hgy69, hK9, (RD.put (RD.put (RD.put (RD.put (RD.put (RD.put hRD (by decide)) (by decide)) (by decide)) (by decide)) (by decide)) (by decide)), hT9.weak, hA9, _, _, _, _, _, _, _, _, _, _, _, _, _, ⟨hgy90, hgy94, hgy98, hgy105, hgy112, hgy119, hgy127, hgy139, hgy151, hgy163, hgy175, hgy187, hgy199, hgy211, hgy223, hgy235, hgy247, hgy259, hgy271, hgy283, hgy295⟩, ⟨hK9.1, fDo, fBa, fBf, fun k hk => (fTa k hk).1, fun k h1 h2 => (fTa k h2).2 h1⟩, hPt, hns, htp⟩
                          have hD9 : dT s (st9) (op9) (a9) (fa9) (m9) (t9) := ⟨fun k hk => by have h9 := hrT.2.1 k hk; have h8 := fDe k (by omega); omega, fun k hk => by have h9 := hrT.2.2.1 k hk; have h8 := fBe k (by omega); omega, fun k hk => by have h9 := hrT.2.2.2.1 k hk; have h8 := fTe k hk; omega⟩
                          exact z_vret C hr hlk dX10_becomes_253 (by decide) (by decide) ⟨rfl, rfl, rfl, ⟨_, _, _, _, _, _, _, _, hM9, by omega, by omega, hD9⟩, fun j j1 => by rw [egy68, va_up_ne _ _ (by omega)]; rw [egy65, va_up_ne _ _ (by omega)]; rw [egy62, va_up_ne _ _ (by omega)]; rw [egy59, va_up_ne _ _ (by omega)]; rw [f3D _ (by omega) (by omega) (by omega)]; rw [egy49, va_up_ne _ _ (by omega)]; rw [f3C _ (by omega)]; rw [f3B _ (by omega) (by omega) (by omega)]; rw [f3A _ (by omega)]; rw [hfvy40 _ (by omega)]; rw [egy36, va_up_ne _ _ (by omega)]; rw [egy33, va_up_ne _ _ (by omega)]⟩
                        · refine z_aload_n C 0 dX10_becomes_150 rfl ?_
                          refine z_get (v := .ref (ad (i + 2))) C (lt_A0 hN rfl) hay1 hgy56 rfl inA_X10 1 (by decide) q_1460 rfl rfl dX10_becomes_151 ?_
                          refine z_iload_n C 1 dX10_becomes_154 rfl ?_
                          refine z_aload_n C 0 dX10_becomes_155 rfl ?_
                          refine z_get (v := .ref (ad (i + 16))) C (lt_A0 hN rfl) hay1 hgy56 rfl inA_X10 39 (by decide) q_1498 rfl rfl dX10_becomes_156 ?_
                          refine z_iload_n C 1 dX10_becomes_159 rfl ?_
                          have hgy296 := up_n egy33 ha16 (ne_o (i := i) (c := 16) (d := 0) rfl)
                          have hgy297 := up_n egy36 hgy296 (ne_o (i := i) (c := 16) (d := 0) rfl)
                          have hgy298 := (hfvy40 (i + 16) (ne_o (i := i) (c := 16) (d := 7) rfl)).trans hgy297
                          have hgy299 := (f3A (i + 16) (ne_o (i := i) (c := 16) (d := 7) rfl)).trans hgy298
                          have hgy300 := (f3B (i + 16) (ne_o (i := i) (c := 16) (d := 4) rfl) (ne_o (i := i) (c := 16) (d := 5) rfl) (ne_o (i := i) (c := 16) (d := 6) rfl)).trans hgy299
                          have hgy301 := (f3C (i + 16) (ne_o (i := i) (c := 16) (d := 1) rfl)).trans hgy300
                          have hgy302 := up_n egy49 hgy301 (ne_o (i := i) (c := 16) (d := 1) rfl)
                          have hgy303 := (f3D (i + 16) (ne_o (i := i) (c := 16) (d := 1) rfl) (ne_o (i := i) (c := 16) (d := 2) rfl) (ne_o (i := i) (c := 16) (d := 3) rfl)).trans hgy302
                          refine z_iald C (lt_A (c := 16) hN rfl) hay24 hgy303 (nkD) (by omega) (by omega) (by decide) dX10_becomes_160 ?_
                          refine z_iast C (lt_A (c := 2) hN rfl) hay3 f2D_st9 (nkD) (by omega) (by omega) (by decide) dX10_becomes_161 (fun gy304 egy305 => ?_)
                          have hgy306 := up_s egy305
                          refine z_aload_n C 0 dX10_becomes_162 rfl ?_
                          have hgy307 := up_n egy305 hgy56 (ne_o (i := i) (c := 0) (d := 2) rfl)
                          refine z_get (v := .ref (ad (i + 3))) C (lt_A0 hN rfl) hay1 hgy307 rfl inA_X10 2 (by decide) q_1461 rfl rfl dX10_becomes_163 ?_
                          refine z_iload_n C 1 dX10_becomes_166 rfl ?_
                          refine z_aload_n C 0 dX10_becomes_167 rfl ?_
                          refine z_get (v := .ref (ad (i + 17))) C (lt_A0 hN rfl) hay1 hgy307 rfl inA_X10 40 (by decide) q_1499 rfl rfl dX10_becomes_168 ?_
                          refine z_iload_n C 1 dX10_becomes_171 rfl ?_
                          have hgy308 := up_n egy33 ha17 (ne_o (i := i) (c := 17) (d := 0) rfl)
                          have hgy309 := up_n egy36 hgy308 (ne_o (i := i) (c := 17) (d := 0) rfl)
                          have hgy310 := (hfvy40 (i + 17) (ne_o (i := i) (c := 17) (d := 7) rfl)).trans hgy309
                          have hgy311 := (f3A (i + 17) (ne_o (i := i) (c := 17) (d := 7) rfl)).trans hgy310
                          have hgy312 := (f3B (i + 17) (ne_o (i := i) (c := 17) (d := 4) rfl) (ne_o (i := i) (c := 17) (d := 5) rfl) (ne_o (i := i) (c := 17) (d := 6) rfl)).trans hgy311
                          have hgy313 := (f3C (i + 17) (ne_o (i := i) (c := 17) (d := 1) rfl)).trans hgy312
                          have hgy314 := up_n egy49 hgy313 (ne_o (i := i) (c := 17) (d := 1) rfl)
                          have hgy315 := (f3D (i + 17) (ne_o (i := i) (c := 17) (d := 1) rfl) (ne_o (i := i) (c := 17) (d := 2) rfl) (ne_o (i := i) (c := 17) (d := 3) rfl)).trans hgy314
                          have hgy316 := up_n egy305 hgy315 (ne_o (i := i) (c := 17) (d := 2) rfl)
                          refine z_iald C (lt_A (c := 17) hN rfl) hay25 hgy316 (nkD) (by omega) (by omega) (by decide) dX10_becomes_172 ?_
                          have hrfy317 := hop1 (nkD) (by omega)
                          have hgy318 := up_n egy305 f2D_op9 (ne_o (i := i) (c := 3) (d := 2) rfl)
                          refine z_iast C (lt_A (c := 3) hN rfl) hay4 hgy318 (nkD) (by omega) (by omega) (by decide) dX10_becomes_173 (fun gy319 egy320 => ?_)
                          have hgy321 := up_s egy320
                          obtain ⟨ry322, hvy323⟩ : ∃ rZ9 : Nat → Int, rZ9 = uZ op9 (nkD) (op1 (nkD)) := ⟨_, rfl⟩
                          rw [← hvy323] at hgy321
                          refine z_aload_n C 0 dX10_becomes_174 rfl ?_
                          refine z_iconst (z := 0) C dX10_becomes_175 rfl ?_
                          refine z_iload_n C 1 dX10_becomes_176 rfl ?_
                          refine z_aload_n C 0 dX10_becomes_177 rfl ?_
                          have hgy324 := up_n egy320 hgy307 (ne_o (i := i) (c := 0) (d := 3) rfl)
                          refine z_get (v := .ref (ad (i + 18))) C (lt_A0 hN rfl) hay1 hgy324 rfl inA_X10 41 (by decide) q_1500 rfl rfl dX10_becomes_178 ?_
                          refine z_iload_n C 1 dX10_becomes_181 rfl ?_
                          have hgy325 := up_n egy33 ha18 (ne_o (i := i) (c := 18) (d := 0) rfl)
                          have hgy326 := up_n egy36 hgy325 (ne_o (i := i) (c := 18) (d := 0) rfl)
                          have hgy327 := (hfvy40 (i + 18) (ne_o (i := i) (c := 18) (d := 7) rfl)).trans hgy326
                          have hgy328 := (f3A (i + 18) (ne_o (i := i) (c := 18) (d := 7) rfl)).trans hgy327
                          have hgy329 := (f3B (i + 18) (ne_o (i := i) (c := 18) (d := 4) rfl) (ne_o (i := i) (c := 18) (d := 5) rfl) (ne_o (i := i) (c := 18) (d := 6) rfl)).trans hgy328
                          have hgy330 := (f3C (i + 18) (ne_o (i := i) (c := 18) (d := 1) rfl)).trans hgy329
                          have hgy331 := up_n egy49 hgy330 (ne_o (i := i) (c := 18) (d := 1) rfl)
                          have hgy332 := (f3D (i + 18) (ne_o (i := i) (c := 18) (d := 1) rfl) (ne_o (i := i) (c := 18) (d := 2) rfl) (ne_o (i := i) (c := 18) (d := 3) rfl)).trans hgy331
                          have hgy333 := up_n egy305 hgy332 (ne_o (i := i) (c := 18) (d := 2) rfl)
                          have hgy334 := up_n egy320 hgy333 (ne_o (i := i) (c := 18) (d := 3) rfl)
                          refine z_iald C (lt_A (c := 18) hN rfl) hay26 hgy334 (nkD) (by omega) (by omega) (by decide) dX10_becomes_182 ?_
                          have hrfy335 := hmn1 (nkD) (by omega)
                          obtain ⟨ny336, hny336⟩ : ∃ n9 : Nat, sd = (n9 : Int) := ⟨(sd).toNat, by omega⟩
                          rw [hny336]
                          obtain ⟨py337, hpy337⟩ : ∃ p9 : Nat, 0 + 6 + 86 * ny336 = p9 := ⟨_, rfl⟩
                          have hgy338 := up_n egy305 f2D_rd9 (ne_o (i := i) (c := 1) (d := 2) rfl)
                          have hgy339 := up_n egy320 hgy338 (ne_o (i := i) (c := 1) (d := 3) rfl)
                          refine z_cV (As := [.int (zI (0)), .int (zI ((ny336 : Int))), .int (zI (mn1 (nkD)))]) (rest := []) (ci := 12) C (c_X10_setsMany l D A cs tt N ad _ i hN _ hgy324 _ hgy339 0 ny336 py337 hpy337 (by omega) (by omega) (mn1 (nkD))) (lt_A0 hN rfl) hay1 hgy324 rfl rfl mv_yX10_setsMany q_1721 hd_yX10_setsMany (by decide) (Nat.le_of_ble_eq_true rfl) (by decide) dX10_becomes_183 rfl (kV0 fun gvy340 hvy340 => ?_)
                          obtain ⟨hcvy340, hfvy340⟩ := hvy340
                          obtain ⟨ry341, hvy342⟩ : ∃ rZ9 : Nat → Int, rZ9 = uZ rd9 (py337) (mn1 (nkD)) := ⟨_, rfl⟩
                          rw [← hvy342] at hcvy340
                          refine z_iconst (z := 0) C dX10_becomes_186 rfl ?_
                          refine z_istore_n (lv' := [(2, .int (zI (0))), (0, .ref (ad i)), (1, .int (zI ((ny336 : Int))))]) C dX10_becomes_187 rfl (by decide) rfl ?_
                          have hfry343 : ∀ j, j ≠ py337 → ry341 j = rd9 j := fun j n0 => (congrFun hvy342 _).trans ((uZ_n _ _ n0).trans (rfl))
                          have hwy344 : ry341 (py337) = mn1 (nkD) := (congrFun hvy342 _).trans (uZ_s _ _ _)
                          have hnD : nkD = ny336 := by omega
                          have hmE : ry341 py337 = mn1 ny336 := by rw [← hnD]; omega
                          have hmr := hmn1 ny336 (by omega)
                          have hopE : ∀ k, k < 4 → 0 ≤ ry322 k ∧ ry322 k ≤ 20 := fun k hk => by rw [hvy323]; exact uZ_any fDo (by omega) k hk
                          have hdE : ∀ k : Nat, (k : Int) < (ny336 : Int) + 1 → (uZ (st9) (nkD) (st1 (nkD))) k = st1 k ∧ ry322 k = op1 k := fun k hk => by rw [hvy323]; by_cases e : k = nkD; (rw [e, uZ_s, uZ_s]; exact ⟨rfl, rfl⟩); (rw [uZ_n _ _ e, uZ_n _ _ e]; exact fDe k (by omega))
                          have E : ∀ (n9 : Nat) (ke : Int) (re9 : Nat → Int) (g1 : Nat → va_E), (85 - ke).toNat = n9 → (g1 (i + 1) = iA cs 29200 re9) → (∀ j, j ≠ i + 1 → g1 j = gvy340 j) → (∀ k : Nat, (k : Int) < ke → re9 (py337 + 2 + k) = ly1 (84 * ny336 + k)) → (∀ j, (j < py337 + 2 ∨ py337 + 86 ≤ j) → re9 j = ry341 j) → (0 ≤ ke ∧ ke ≤ 84) → zV pZ l eZ ({ frames := 2, cells := 0, slots := 0, locals := 120 } : Room) sZ mZ ([.ref (ad i)] : List Value).toArray below meth cZ (MQ below (zPost D A (rV0 N ad fun g' => (∃ F' r' st' op' ai' fa' mu' tb' : Nat → Int, okMr cs ad g' i x F' r' st' op' ai' fa' mu' tb' tp ∧ (F' 13 = s.1 ∧ F' 14 = s.2.1 ∧ F' 17 = 0 ∧ F' 20 = F 20 ∧ F' 21 = 0 ∧ F' 23 = F 23 ∧ F' 24 = F 24) ∧ F' 12 = F 12 ∧ dT s st' op' ai' fa' mu' tb') ∧ ∀ j, j < i ∨ i + 30 ≤ j → g' j = g j)) ([.ref (ad i)] : List Value).toArray sZ ({ frames := 2, cells := 0, slots := 0, locals := 120 } : Room).cells ({ frames := 2, cells := 0, slots := 0, locals := 120 } : Room).slots A) D A 3 (N) ad g1 (0) (0) 188 [(0, .ref (ad i)), (1, .int (zI ((ny336 : Int)))), (2, .int (zI (ke)))] [] := by
                            intro n9
                            induction n9 using Nat.strongRecOn with
                            | ind n9 ih_E =>
                              intro ke re9 g1 hm9 f2E_re9 f3E fE1 fE2 hvkE
                              obtain ⟨nkE, hnkE⟩ : ∃ n9 : Nat, ke = (n9 : Int) := ⟨ke.toNat, by omega⟩
                              obtain ⟨nj, hnj⟩ : ∃ n9 : Nat, py337 + 2 + nkE = n9 := ⟨_, rfl⟩
                              obtain ⟨nl, hnl⟩ : ∃ n9 : Nat, 84 * ny336 + nkE = n9 := ⟨_, rfl⟩
                              refine z_iload_n C 2 dX10_becomes_188 rfl ?_
                              refine z_bipush (z := 84) C dX10_becomes_189 (by decide) ?_
                              refine z_icmp_ge (tgt := 227) C dX10_becomes_191 (by decide) (by omega) (by omega) (fun hby345 => ?_) (fun hby345 => ?_)
                              · refine z_iinc (z := (ny336 : Int) + 1) (lv' := [(1, .int (zI ((ny336 : Int) + 1))), (0, .ref (ad i)), (2, .int (zI (ke)))]) (j := 1) C dX10_becomes_227 rfl rfl (by decide) rfl ?_
                                refine z_goto (tgt := 142) C dX10_becomes_230 (by decide) ?_
                                have hokE : okS re9 py337 2400 12000 := okS.ofT (ly1 := ly1) (q0 := 84 * ny336) (m := mn1 ny336) ((fE2 py337 (by omega)).trans hmE) hmr (fun l hl => hly1 ny336 l (by omega) hl) (fun k hk => fE1 k (by omega))
                                have hfr9 : ∀ j, j < py337 ∨ py337 + 86 ≤ j → re9 j = rd9 j := fun j a => (fE2 j (by omega)).trans (hfry343 j (by omega))
                                have hgy346 := up_n egy320 hgy306 (ne_o (i := i) (c := 2) (d := 3) rfl)
                                have hgy347 := (hfvy340 (i + 2) (ne_o (i := i) (c := 2) (d := 1) rfl)).trans hgy346
                                have hgy348 := (f3E (i + 2) (ne_o (i := i) (c := 2) (d := 1) rfl)).trans hgy347
                                have hgy349 := (hfvy340 (i + 3) (ne_o (i := i) (c := 3) (d := 1) rfl)).trans hgy321
                                have hgy350 := (f3E (i + 3) (ne_o (i := i) (c := 3) (d := 1) rfl)).trans hgy349
                                refine z_lv (lv' := [(0, .ref (ad i)), (1, .int (zI ((ny336 : Int) + 1)))]) [1, 0] rfl ?_
                                exact ih_D _ (by omega) ((ny336 : Int) + 1) (re9) (uZ (st9) (nkD) (st1 (nkD))) (ry322) g1 rfl f2E_re9 hgy348 hgy350 (fun j j1 j2 j3 => by rw [f3E _ (by omega)]; rw [hfvy340 _ (by omega)]; rw [egy320, va_up_ne _ _ (by omega)]; rw [egy305, va_up_ne _ _ (by omega)]; exact f3D j j1 j2 j3) hopE hdE ((hfr9 0 (by omega)).trans fD0) ((hfr9 1 (by omega)).trans fD1) ((hfr9 5 (by omega)).trans fD5) (fun j a => (hfr9 j (by omega)).trans (fDr j a)) (fun s hs => by
                                    by_cases e : s = ny336
                                    · subst e; exact ⟨fun _ => hokE.of (by omega), fun h => absurd h (by omega)⟩
                                    · exact ⟨fun h => ((fDs s hs).1 (by omega)).ext (fun j b1 b2 => hfr9 j (by omega)), fun h => (hfr9 (6 + 86 * s) (by omega)).trans ((fDs s hs).2 (by omega))⟩) (by omega)
                              · refine z_aload_n C 0 dX10_becomes_194 rfl ?_
                                have hgy351 := (hfvy340 (i) (ne_o (i := i) (c := 0) (d := 1) rfl)).trans hgy324
                                have hgy352 := (f3E (i) (ne_o (i := i) (c := 0) (d := 1) rfl)).trans hgy351
                                refine z_get (v := .ref (ad (i + 1))) C (lt_A0 hN rfl) hay1 hgy352 rfl inA_X10 0 (by decide) q_1459 rfl rfl dX10_becomes_195 ?_
                                refine z_bipush (z := 6) C dX10_becomes_198 (by decide) ?_
                                refine z_bipush (z := 86) C dX10_becomes_200 (by decide) ?_
                                refine z_iload_n C 1 dX10_becomes_202 rfl ?_
                                refine z_imul C dX10_becomes_203 ?_
                                refine z_iadd C dX10_becomes_204 ?_
                                refine z_iconst (z := 2) C dX10_becomes_205 rfl ?_
                                refine z_iadd C dX10_becomes_206 ?_
                                refine z_iload_n C 2 dX10_becomes_207 rfl ?_
                                refine z_iadd C dX10_becomes_208 ?_
                                refine z_aload_n C 0 dX10_becomes_209 rfl ?_
                                refine z_get (v := .ref (ad (i + 23))) C (lt_A0 hN rfl) hay1 hgy352 rfl inA_X10 46 (by decide) q_1505 rfl rfl dX10_becomes_210 ?_
                                refine z_bipush (z := 84) C dX10_becomes_213 (by decide) ?_
                                refine z_iload_n C 1 dX10_becomes_215 rfl ?_
                                refine z_imul C dX10_becomes_216 ?_
                                refine z_iload_n C 2 dX10_becomes_217 rfl ?_
                                refine z_iadd C dX10_becomes_218 ?_
                                have hgy353 := up_n egy33 ha23 (ne_o (i := i) (c := 23) (d := 0) rfl)
                                have hgy354 := up_n egy36 hgy353 (ne_o (i := i) (c := 23) (d := 0) rfl)
                                have hgy355 := (hfvy40 (i + 23) (ne_o (i := i) (c := 23) (d := 7) rfl)).trans hgy354
                                have hgy356 := (f3A (i + 23) (ne_o (i := i) (c := 23) (d := 7) rfl)).trans hgy355
                                have hgy357 := (f3B (i + 23) (ne_o (i := i) (c := 23) (d := 4) rfl) (ne_o (i := i) (c := 23) (d := 5) rfl) (ne_o (i := i) (c := 23) (d := 6) rfl)).trans hgy356
                                have hgy358 := (f3C (i + 23) (ne_o (i := i) (c := 23) (d := 1) rfl)).trans hgy357
                                have hgy359 := up_n egy49 hgy358 (ne_o (i := i) (c := 23) (d := 1) rfl)
                                have hgy360 := (f3D (i + 23) (ne_o (i := i) (c := 23) (d := 1) rfl) (ne_o (i := i) (c := 23) (d := 2) rfl) (ne_o (i := i) (c := 23) (d := 3) rfl)).trans hgy359
                                have hgy361 := up_n egy305 hgy360 (ne_o (i := i) (c := 23) (d := 2) rfl)
                                have hgy362 := up_n egy320 hgy361 (ne_o (i := i) (c := 23) (d := 3) rfl)
                                have hgy363 := (hfvy340 (i + 23) (ne_o (i := i) (c := 23) (d := 1) rfl)).trans hgy362
                                have hgy364 := (f3E (i + 23) (ne_o (i := i) (c := 23) (d := 1) rfl)).trans hgy363
                                refine z_iald C (lt_A (c := 23) hN rfl) hay31 hgy364 (nl) (by omega) (by omega) (by decide) dX10_becomes_219 ?_
                                refine z_iast C (lt_A (c := 1) hN rfl) hay2 f2E_re9 (nj) (by omega) (by omega) (by decide) dX10_becomes_220 (fun gy365 egy366 => ?_)
                                have hgy367 := up_s egy366
                                obtain ⟨ry368, hvy369⟩ : ∃ rZ9 : Nat → Int, rZ9 = uZ re9 (nj) (ly1 (nl)) := ⟨_, rfl⟩
                                rw [← hvy369] at hgy367
                                refine z_iinc (z := ke + 1) (lv' := [(2, .int (zI (ke + 1))), (0, .ref (ad i)), (1, .int (zI ((ny336 : Int))))]) (j := 2) C dX10_becomes_221 rfl rfl (by decide) rfl ?_
                                refine z_goto (tgt := 188) C dX10_becomes_224 (by decide) ?_
                                refine z_lv (lv' := [(0, .ref (ad i)), (1, .int (zI ((ny336 : Int)))), (2, .int (zI (ke + 1)))]) [1, 2, 0] rfl ?_
                                exact ih_E _ (by omega) (ke + 1) ry368 gy365 rfl hgy367 (fun j j1 => by rw [egy366, va_up_ne _ _ (by omega)]; exact f3E j j1) (fun k a => by rw [hvy369]; by_cases e : k = nkE; (subst e; rw [show py337 + 2 + k = nj by omega, uZ_s, show 84 * ny336 + k = nl by omega]); (rw [uZ_n _ _ (by omega)]; exact fE1 k (by omega))) (fun j a => by rw [hvy369, uZ_n _ _ (by omega)]; exact fE2 j (by omega)) (by omega)
                          refine z_lv (lv' := [(0, .ref (ad i)), (1, .int (zI ((ny336 : Int)))), (2, .int (zI (0)))]) [1, 2, 0] rfl ?_
                          exact E _ (0) ry341 gvy340 rfl hcvy340 (fun j _ => rfl) (fun k a => absurd a (by omega)) (fun j _ => rfl) (by omega)
                    have hgy370 := up_n egy33 ha2 (ne_o (i := i) (c := 2) (d := 0) rfl)
                    have hgy371 := up_n egy36 hgy370 (ne_o (i := i) (c := 2) (d := 0) rfl)
                    have hgy372 := (hfvy40 (i + 2) (ne_o (i := i) (c := 2) (d := 7) rfl)).trans hgy371
                    have hgy373 := (f3A (i + 2) (ne_o (i := i) (c := 2) (d := 7) rfl)).trans hgy372
                    have hgy374 := (f3B (i + 2) (ne_o (i := i) (c := 2) (d := 4) rfl) (ne_o (i := i) (c := 2) (d := 5) rfl) (ne_o (i := i) (c := 2) (d := 6) rfl)).trans hgy373
                    have hgy375 := (f3C (i + 2) (ne_o (i := i) (c := 2) (d := 1) rfl)).trans hgy374
                    have hgy376 := up_n egy49 hgy375 (ne_o (i := i) (c := 2) (d := 1) rfl)
                    have hgy377 := up_n egy33 ha3 (ne_o (i := i) (c := 3) (d := 0) rfl)
                    have hgy378 := up_n egy36 hgy377 (ne_o (i := i) (c := 3) (d := 0) rfl)
                    have hgy379 := (hfvy40 (i + 3) (ne_o (i := i) (c := 3) (d := 7) rfl)).trans hgy378
                    have hgy380 := (f3A (i + 3) (ne_o (i := i) (c := 3) (d := 7) rfl)).trans hgy379
                    have hgy381 := (f3B (i + 3) (ne_o (i := i) (c := 3) (d := 4) rfl) (ne_o (i := i) (c := 3) (d := 5) rfl) (ne_o (i := i) (c := 3) (d := 6) rfl)).trans hgy380
                    have hgy382 := (f3C (i + 3) (ne_o (i := i) (c := 3) (d := 1) rfl)).trans hgy381
                    have hgy383 := up_n egy49 hgy382 (ne_o (i := i) (c := 3) (d := 1) rfl)
                    refine z_lv (lv' := [(0, .ref (ad i)), (1, .int (zI (0)))]) [1, 0] rfl ?_
                    exact D _ (0) ry51 st op gy48 rfl hgy50 hgy376 hgy383 (fun j _ _ _ => rfl) (fun k hk => hop k hk) (fun k a => absurd a (by omega)) ((hfry53 0 (by omega)).trans (fCz 0 (by omega))) (by omega) ((hfry53 5 (by omega)).trans (fCz 5 (by omega))) (fun j a => (hfry53 j (by omega)).trans (fCr j (by omega))) (fun s hs => ⟨fun h => absurd h (by omega), fun _ => (hfry53 _ (by omega)).trans (fCz _ (by omega))⟩) (by omega)
                  · refine z_aload_n C 0 dX10_becomes_117 rfl ?_
                    have hgy384 := (f3C (i) (ne_o (i := i) (c := 0) (d := 1) rfl)).trans hgy44
                    refine z_get (v := .ref (ad (i + 1))) C (lt_A0 hN rfl) hay1 hgy384 rfl inA_X10 0 (by decide) q_1459 rfl rfl dX10_becomes_118 ?_
                    refine z_iload_n C 1 dX10_becomes_121 rfl ?_
                    refine z_iconst (z := 0) C dX10_becomes_122 rfl ?_
                    refine z_iast C (lt_A (c := 1) hN rfl) hay2 f2C_r9 (nkC) (by omega) (by omega) (by decide) dX10_becomes_123 (fun gy385 egy386 => ?_)
                    have hgy387 := up_s egy386
                    obtain ⟨ry388, hvy389⟩ : ∃ rZ9 : Nat → Int, rZ9 = uZ r9 (nkC) (0) := ⟨_, rfl⟩
                    rw [← hvy389] at hgy387
                    refine z_iinc (z := kc + 1) (lv' := [(1, .int (zI (kc + 1))), (0, .ref (ad i))]) (j := 1) C dX10_becomes_124 rfl rfl (by decide) rfl ?_
                    refine z_goto (tgt := 110) C dX10_becomes_127 (by decide) ?_
                    refine z_lv (lv' := [(0, .ref (ad i)), (1, .int (zI (kc + 1)))]) [1, 0] rfl ?_
                    exact ih_C _ (by omega) (kc + 1) ry388 gy385 rfl hgy387 (fun j j1 => by rw [egy386, va_up_ne _ _ (by omega)]; exact f3C j j1) (fun j a => by rw [hvy389]; by_cases e : j = nkC; (rw [e, uZ_s]); (rw [uZ_n _ _ e]; exact fCz j (by omega))) (fun j a => by rw [hvy389, uZ_n _ _ (by omega)]; exact fCr j (by omega)) (by omega)
              have hgy390 := up_n egy33 ha1 (ne_o (i := i) (c := 1) (d := 0) rfl)
              have hgy391 := up_n egy36 hgy390 (ne_o (i := i) (c := 1) (d := 0) rfl)
              have hgy392 := (hfvy40 (i + 1) (ne_o (i := i) (c := 1) (d := 7) rfl)).trans hgy391
              have hgy393 := (f3A (i + 1) (ne_o (i := i) (c := 1) (d := 7) rfl)).trans hgy392
              have hgy394 := (f3B (i + 1) (ne_o (i := i) (c := 1) (d := 4) rfl) (ne_o (i := i) (c := 1) (d := 5) rfl) (ne_o (i := i) (c := 1) (d := 6) rfl)).trans hgy393
              refine z_lv (lv' := [(0, .ref (ad i)), (1, .int (zI (0)))]) [1, 0] rfl ?_
              exact C _ (0) r g1C rfl hgy394 (fun j _ => rfl) (fun j a => absurd a (by omega)) (fun j _ => rfl) (by omega)
            · refine z_aload_n C 0 dX10_becomes_66 rfl ?_
              refine z_get (v := .ref (ad (i + 4))) C (lt_A0 hN rfl) hay1 hgy44 rfl inA_X10 3 (by decide) q_1462 rfl rfl dX10_becomes_67 ?_
              refine z_iload_n C 1 dX10_becomes_70 rfl ?_
              refine z_aload_n C 0 dX10_becomes_71 rfl ?_
              refine z_get (v := .ref (ad (i + 19))) C (lt_A0 hN rfl) hay1 hgy44 rfl inA_X10 42 (by decide) q_1501 rfl rfl dX10_becomes_72 ?_
              refine z_iload_n C 1 dX10_becomes_75 rfl ?_
              have hgy395 := up_n egy33 ha19 (ne_o (i := i) (c := 19) (d := 0) rfl)
              have hgy396 := up_n egy36 hgy395 (ne_o (i := i) (c := 19) (d := 0) rfl)
              have hgy397 := (hfvy40 (i + 19) (ne_o (i := i) (c := 19) (d := 7) rfl)).trans hgy396
              have hgy398 := (f3A (i + 19) (ne_o (i := i) (c := 19) (d := 7) rfl)).trans hgy397
              have hgy399 := (f3B (i + 19) (ne_o (i := i) (c := 19) (d := 4) rfl) (ne_o (i := i) (c := 19) (d := 5) rfl) (ne_o (i := i) (c := 19) (d := 6) rfl)).trans hgy398
              refine z_iald C (lt_A (c := 19) hN rfl) hay27 hgy399 (nkB) (by omega) (by omega) (by decide) dX10_becomes_76 ?_
              have htky400 := hai1 nkB (by omega)
              refine z_iast C (lt_A (c := 4) hN rfl) hay5 f2B_a9 (nkB) (by omega) (by omega) (by decide) dX10_becomes_77 (fun gy401 egy402 => ?_)
              have hgy403 := up_s egy402
              obtain ⟨ry404, hvy405⟩ : ∃ rZ9 : Nat → Int, rZ9 = uZ a9 (nkB) (ai1 (nkB)) := ⟨_, rfl⟩
              rw [← hvy405] at hgy403
              refine z_aload_n C 0 dX10_becomes_78 rfl ?_
              have hgy406 := up_n egy402 hgy44 (ne_o (i := i) (c := 0) (d := 4) rfl)
              refine z_get (v := .ref (ad (i + 5))) C (lt_A0 hN rfl) hay1 hgy406 rfl inA_X10 4 (by decide) q_1463 rfl rfl dX10_becomes_79 ?_
              refine z_iload_n C 1 dX10_becomes_82 rfl ?_
              refine z_aload_n C 0 dX10_becomes_83 rfl ?_
              refine z_get (v := .ref (ad (i + 20))) C (lt_A0 hN rfl) hay1 hgy406 rfl inA_X10 43 (by decide) q_1502 rfl rfl dX10_becomes_84 ?_
              refine z_iload_n C 1 dX10_becomes_87 rfl ?_
              have hgy407 := up_n egy33 ha20 (ne_o (i := i) (c := 20) (d := 0) rfl)
              have hgy408 := up_n egy36 hgy407 (ne_o (i := i) (c := 20) (d := 0) rfl)
              have hgy409 := (hfvy40 (i + 20) (ne_o (i := i) (c := 20) (d := 7) rfl)).trans hgy408
              have hgy410 := (f3A (i + 20) (ne_o (i := i) (c := 20) (d := 7) rfl)).trans hgy409
              have hgy411 := (f3B (i + 20) (ne_o (i := i) (c := 20) (d := 4) rfl) (ne_o (i := i) (c := 20) (d := 5) rfl) (ne_o (i := i) (c := 20) (d := 6) rfl)).trans hgy410
              have hgy412 := up_n egy402 hgy411 (ne_o (i := i) (c := 20) (d := 4) rfl)
              refine z_iald C (lt_A (c := 20) hN rfl) hay28 hgy412 (nkB) (by omega) (by omega) (by decide) dX10_becomes_88 ?_
              have htky413 := hfa1 nkB (by omega)
              have hgy414 := up_n egy402 f2B_fa9 (ne_o (i := i) (c := 5) (d := 4) rfl)
              refine z_iast C (lt_A (c := 5) hN rfl) hay6 hgy414 (nkB) (by omega) (by omega) (by decide) dX10_becomes_89 (fun gy415 egy416 => ?_)
              have hgy417 := up_s egy416
              obtain ⟨ry418, hvy419⟩ : ∃ rZ9 : Nat → Int, rZ9 = uZ fa9 (nkB) (fa1 (nkB)) := ⟨_, rfl⟩
              rw [← hvy419] at hgy417
              refine z_aload_n C 0 dX10_becomes_90 rfl ?_
              have hgy420 := up_n egy416 hgy406 (ne_o (i := i) (c := 0) (d := 5) rfl)
              refine z_get (v := .ref (ad (i + 6))) C (lt_A0 hN rfl) hay1 hgy420 rfl inA_X10 5 (by decide) q_1464 rfl rfl dX10_becomes_91 ?_
              refine z_iload_n C 1 dX10_becomes_94 rfl ?_
              refine z_aload_n C 0 dX10_becomes_95 rfl ?_
              refine z_get (v := .ref (ad (i + 21))) C (lt_A0 hN rfl) hay1 hgy420 rfl inA_X10 44 (by decide) q_1503 rfl rfl dX10_becomes_96 ?_
              refine z_iload_n C 1 dX10_becomes_99 rfl ?_
              have hgy421 := up_n egy33 ha21 (ne_o (i := i) (c := 21) (d := 0) rfl)
              have hgy422 := up_n egy36 hgy421 (ne_o (i := i) (c := 21) (d := 0) rfl)
              have hgy423 := (hfvy40 (i + 21) (ne_o (i := i) (c := 21) (d := 7) rfl)).trans hgy422
              have hgy424 := (f3A (i + 21) (ne_o (i := i) (c := 21) (d := 7) rfl)).trans hgy423
              have hgy425 := (f3B (i + 21) (ne_o (i := i) (c := 21) (d := 4) rfl) (ne_o (i := i) (c := 21) (d := 5) rfl) (ne_o (i := i) (c := 21) (d := 6) rfl)).trans hgy424
              have hgy426 := up_n egy402 hgy425 (ne_o (i := i) (c := 21) (d := 4) rfl)
              have hgy427 := up_n egy416 hgy426 (ne_o (i := i) (c := 21) (d := 5) rfl)
              refine z_iald C (lt_A (c := 21) hN rfl) hay29 hgy427 (nkB) (by omega) (by omega) (by decide) dX10_becomes_100 ?_
              have htky428 := hfa1 nkB (by omega)
              have hgy429 := up_n egy402 f2B_m9 (ne_o (i := i) (c := 6) (d := 4) rfl)
              have hgy430 := up_n egy416 hgy429 (ne_o (i := i) (c := 6) (d := 5) rfl)
              refine z_iast C (lt_A (c := 6) hN rfl) hay7 hgy430 (nkB) (by omega) (by omega) (by decide) dX10_becomes_101 (fun gy431 egy432 => ?_)
              have hgy433 := up_s egy432
              obtain ⟨ry434, hvy435⟩ : ∃ rZ9 : Nat → Int, rZ9 = uZ m9 (nkB) (mu1 (nkB)) := ⟨_, rfl⟩
              rw [← hvy435] at hgy433
              refine z_iinc (z := kb + 1) (lv' := [(1, .int (zI (kb + 1))), (0, .ref (ad i))]) (j := 1) C dX10_becomes_102 rfl rfl (by decide) rfl ?_
              refine z_goto (tgt := 58) C dX10_becomes_105 (by decide) ?_
              have hgy436 := up_n egy416 hgy403 (ne_o (i := i) (c := 4) (d := 5) rfl)
              have hgy437 := up_n egy432 hgy436 (ne_o (i := i) (c := 4) (d := 6) rfl)
              have hgy438 := up_n egy432 hgy417 (ne_o (i := i) (c := 5) (d := 6) rfl)
              refine z_lv (lv' := [(0, .ref (ad i)), (1, .int (zI (kb + 1)))]) [1, 0] rfl ?_
              exact ih_B _ (by omega) (kb + 1) ry404 ry418 ry434 gy431 rfl hgy437 hgy438 hgy433 (fun j j1 j2 j3 => by rw [egy432, va_up_ne _ _ (by omega)]; rw [egy416, va_up_ne _ _ (by omega)]; rw [egy402, va_up_ne _ _ (by omega)]; exact f3B j j1 j2 j3) (fun j hj => by rw [hvy405]; exact uZ_any fBa (by omega) j hj) (fun j hj => by rw [hvy419, hvy435]; by_cases e : j = nkB; (rw [e, uZ_s, uZ_s]; omega); (rw [uZ_n _ _ e, uZ_n _ _ e]; exact fBf j hj)) (fun j hj => by rw [hvy405, hvy419, hvy435]; by_cases e : j = nkB; (rw [e, uZ_s, uZ_s, uZ_s]; exact ⟨rfl, rfl, rfl⟩); (rw [uZ_n _ _ e, uZ_n _ _ e, uZ_n _ _ e]; exact fBe j (by omega))) (by omega)
        have hgy439 := up_n egy33 ha4 (ne_o (i := i) (c := 4) (d := 0) rfl)
        have hgy440 := up_n egy36 hgy439 (ne_o (i := i) (c := 4) (d := 0) rfl)
        have hgy441 := (hfvy40 (i + 4) (ne_o (i := i) (c := 4) (d := 7) rfl)).trans hgy440
        have hgy442 := (f3A (i + 4) (ne_o (i := i) (c := 4) (d := 7) rfl)).trans hgy441
        have hgy443 := up_n egy33 ha5 (ne_o (i := i) (c := 5) (d := 0) rfl)
        have hgy444 := up_n egy36 hgy443 (ne_o (i := i) (c := 5) (d := 0) rfl)
        have hgy445 := (hfvy40 (i + 5) (ne_o (i := i) (c := 5) (d := 7) rfl)).trans hgy444
        have hgy446 := (f3A (i + 5) (ne_o (i := i) (c := 5) (d := 7) rfl)).trans hgy445
        have hgy447 := up_n egy33 ha6 (ne_o (i := i) (c := 6) (d := 0) rfl)
        have hgy448 := up_n egy36 hgy447 (ne_o (i := i) (c := 6) (d := 0) rfl)
        have hgy449 := (hfvy40 (i + 6) (ne_o (i := i) (c := 6) (d := 7) rfl)).trans hgy448
        have hgy450 := (f3A (i + 6) (ne_o (i := i) (c := 6) (d := 7) rfl)).trans hgy449
        refine z_lv (lv' := [(0, .ref (ad i)), (1, .int (zI (0)))]) [1, 0] rfl ?_
        exact B _ (0) ai fa mu g1B rfl hgy442 hgy446 hgy450 (fun j _ _ _ => rfl) hai hfa (fun k a => absurd a (by omega)) (by omega)
      · refine z_aload_n C 0 dX10_becomes_28 rfl ?_
        have hgy451 := (hfvy40 (i) (ne_o (i := i) (c := 0) (d := 7) rfl)).trans hgy37
        have hgy452 := (f3A (i) (ne_o (i := i) (c := 0) (d := 7) rfl)).trans hgy451
        refine z_get (v := .ref (ad (i + 22))) C (lt_A0 hN rfl) hay1 hgy452 rfl inA_X10 45 (by decide) q_1504 rfl rfl dX10_becomes_29 ?_
        refine z_iload_n C 1 dX10_becomes_32 rfl ?_
        have hgy453 := up_n egy33 ha22 (ne_o (i := i) (c := 22) (d := 0) rfl)
        have hgy454 := up_n egy36 hgy453 (ne_o (i := i) (c := 22) (d := 0) rfl)
        have hgy455 := (hfvy40 (i + 22) (ne_o (i := i) (c := 22) (d := 7) rfl)).trans hgy454
        have hgy456 := (f3A (i + 22) (ne_o (i := i) (c := 22) (d := 7) rfl)).trans hgy455
        refine z_iald C (lt_A (c := 22) hN rfl) hay30 hgy456 (nkA) (by omega) (by omega) (by decide) dX10_becomes_33 ?_
        have htky457 := htb1 nkA (by omega)
        refine z_iconst (z := -1) C dX10_becomes_34 rfl ?_
        refine z_icmp_eq (tgt := 50) C dX10_becomes_35 (by decide) (by omega) (by omega) (fun hby458 => ?_) (fun hby458 => ?_)
        · refine z_iinc (z := ka + 1) (lv' := [(1, .int (zI (ka + 1))), (0, .ref (ad i))]) (j := 1) C dX10_becomes_50 rfl rfl (by decide) rfl ?_
          refine z_goto (tgt := 22) C dX10_becomes_53 (by decide) ?_
          refine z_lv (lv' := [(0, .ref (ad i)), (1, .int (zI (ka + 1)))]) [1, 0] rfl ?_
          exact ih_A _ (by omega) (ka + 1) t9 g1 rfl f2A_t9 f3A fTa (fun j hj => by by_cases e : j = nkA; (have h9 := fTe j hj; rw [e] at h9 ⊢; omega); (have h9 := fTe j hj; omega)) (by omega)
        · refine z_aload_n C 0 dX10_becomes_38 rfl ?_
          refine z_get (v := .ref (ad (i + 7))) C (lt_A0 hN rfl) hay1 hgy452 rfl inA_X10 6 (by decide) q_1465 rfl rfl dX10_becomes_39 ?_
          refine z_iload_n C 1 dX10_becomes_42 rfl ?_
          refine z_aload_n C 0 dX10_becomes_43 rfl ?_
          refine z_get (v := .ref (ad (i + 22))) C (lt_A0 hN rfl) hay1 hgy452 rfl inA_X10 45 (by decide) q_1504 rfl rfl dX10_becomes_44 ?_
          refine z_iload_n C 1 dX10_becomes_47 rfl ?_
          refine z_iald C (lt_A (c := 22) hN rfl) hay30 hgy456 (nkA) (by omega) (by omega) (by decide) dX10_becomes_48 ?_
          have htky459 := htb1 nkA (by omega)
          refine z_iast C (lt_A (c := 7) hN rfl) hay8 f2A_t9 (nkA) (by omega) (by omega) (by decide) dX10_becomes_49 (fun gy460 egy461 => ?_)
          have hgy462 := up_s egy461
          obtain ⟨ry463, hvy464⟩ : ∃ rZ9 : Nat → Int, rZ9 = uZ t9 (nkA) (tb1 (nkA)) := ⟨_, rfl⟩
          rw [← hvy464] at hgy462
          refine z_iinc (z := ka + 1) (lv' := [(1, .int (zI (ka + 1))), (0, .ref (ad i))]) (j := 1) C dX10_becomes_50 rfl rfl (by decide) rfl ?_
          refine z_goto (tgt := 22) C dX10_becomes_53 (by decide) ?_
          refine z_lv (lv' := [(0, .ref (ad i)), (1, .int (zI (ka + 1)))]) [1, 0] rfl ?_
          exact ih_A _ (by omega) (ka + 1) ry463 gy460 rfl hgy462 (fun j j1 => by rw [egy461, va_up_ne _ _ (by omega)]; exact f3A j j1) (fun j hj => by rw [hvy464]; by_cases e : j = nkA; (rw [e, uZ_s]; exact ⟨by omega, fun _ => by omega⟩); (rw [uZ_n _ _ e]; exact fTa j hj)) (fun j hj => by rw [hvy464]; by_cases e : j = nkA; (rw [e, uZ_s]; omega); (rw [uZ_n _ _ e]; have h9 := fTe j hj; omega)) (by omega)
  refine z_lv (lv' := [(0, .ref (ad i)), (1, .int (zI (0)))]) [1, 0] rfl ?_
  exact A _ (0) rvy40 gvy40 rfl hdvy40 (fun j _ => rfl) (fun j hj => by rw [htvy40 j hj]; exact tabOK ⟨j, hj⟩) (fun j hj => Or.inl ⟨htvy40 j hj, fun h9 => absurd h9 (by omega)⟩) (by omega)

