section
-- 99r.refbec.lean.txt
theorem okMr.upd2 {cs : Nat → ClassId} {ad : Nat → Nat} {g g' : Nat → va_E} {i : Nat} {x x' : Int} {F F' r r' st op ai fa mu tb tp : Nat → Int} (h : okMr cs ad g i x F r st op ai fa mu tb tp) (hi : g' i = mC ad i F') (hK : okF F') (hD : RD F') (hT : okTx cs g' i F') (hr : g' (i + 1) = iA cs 29200 r') (hA : okA r' x') (hG : ∀ j, i + 1 < j → j < i + 30 → j < i + 16 ∨ i + 23 < j → g' j = g j ∨ ∃ (k : Nat) (t : Nat → Int), j = i + k ∧ lsP k t ∧ g' j = iA cs (mLen k) t) : okMr cs ad g' i x' F' r' st op ai fa mu tb tp := by
  obtain ⟨h1, h2, h3, h4, h5, ns, nh, nd, rf, pi, te, ki, li, ok1, ok2, fo, dd, dps, ⟨b1, b2, b3, b4, b5, b6, b7, b8, b9, b10, b11, b12, b13, b14, b15, b24, b25, b26, b27, b28, b29⟩, h6, h7, h8, h9⟩ := h
  have hS : ∀ (k n : Nat) (t : Nat → Int), ((2 ≤ k ∧ k ≤ 7) ∨ k = 13) → g (i + k) = iA cs n t → g' (i + k) = iA cs n t := fun k n t a b => (hG (i + k) (by omega) (by omega) (by omega)).elim (fun e => by rw [e]; exact b) (fun ⟨k2, t, e1, e2, e3⟩ => by
    exfalso
    unfold lsP at e2
    rcases e2 with e2 | ⟨e2, _⟩ | ⟨e2, _⟩ <;> omega)
  have hL : ∀ k, 1 < k → k < 30 → (k < 16 ∨ 23 < k) → g' (i + k) = g (i + k) ∨ ∃ (k2 : Nat) (t : Nat → Int), i + k = i + k2 ∧ lsP k2 t ∧ g' (i + k) = iA cs (mLen k2) t := fun k a b c => hG (i + k) (by omega) (by omega) (by omega)
  have t1 : ∀ k, (k = 9 ∨ k = 10 ∨ k = 11 ∨ k = 14 ∨ k = 15 ∨ (24 ≤ k ∧ k ≤ 29)) → ∀ t : Nat → Int, g (i + k) = iA cs (mLen k) t → ∃ t2 : Nat → Int, g' (i + k) = iA cs (mLen k) t2 := fun k a t b => by
    obtain ⟨t2, e, _⟩ := okMr.arr (P := fun _ => True) k ⟨t, b, trivial⟩ rfl (hL k (by omega) (by omega) (by omega)) (fun _ _ => trivial)
    exact ⟨t2, e⟩
  obtain ⟨u9, v9⟩ := t1 9 (by omega) _ b9
  obtain ⟨u10, v10⟩ := t1 10 (by omega) _ b10
  obtain ⟨u11, v11⟩ := t1 11 (by omega) _ b11
  obtain ⟨u14, v14⟩ := t1 14 (by omega) _ b14
  obtain ⟨u15, v15⟩ := t1 15 (by omega) _ b15
  obtain ⟨u24, v24⟩ := t1 24 (by omega) _ b24
  obtain ⟨u25, v25⟩ := t1 25 (by omega) _ b25
  obtain ⟨u26, v26⟩ := t1 26 (by omega) _ b26
  obtain ⟨u27, v27⟩ := t1 27 (by omega) _ b27
  obtain ⟨u28, v28⟩ := t1 28 (by omega) _ b28
  obtain ⟨u29, v29⟩ := t1 29 (by omega) _ b29
  obtain ⟨u8, v8, w8⟩ := okMr.arr (P := fun t => ∀ k, k < 16 → 0 ≤ t k ∧ t k ≤ 3) 8 ⟨ns, b8, h8⟩ rfl (hL 8 (by omega) (by omega) (by omega)) (fun t e => by
    rcases e with e | ⟨_, e⟩ | ⟨e, _⟩
    · omega
    · exact e
    · omega)
  obtain ⟨u12, v12, w12⟩ := okMr.arr (P := okPt) 12 ⟨pi, b12, h7⟩ rfl (hL 12 (by omega) (by omega) (by omega)) (fun t e => by
    rcases e with e | ⟨e, _⟩ | ⟨_, e⟩
    · omega
    · omega
    · exact e)
  obtain ⟨_, c2, c3, c4, c5, c6⟩ := h6
  exact ⟨hi, hK, hD, hT.weak, hA, u8, u9, u10, u11, u12, u14, u15, u24, u25, u26, u27, u28, u29, ⟨hr, hS 2 _ _ (by omega) b2, hS 3 _ _ (by omega) b3, hS 4 _ _ (by omega) b4, hS 5 _ _ (by omega) b5, hS 6 _ _ (by omega) b6, hS 7 _ _ (by omega) b7, v8, v9, v10, v11, v12, hS 13 _ _ (by omega) b13, v14, v15, v24, v25, v26, v27, v28, v29⟩, ⟨hK.1, c2, c3, c4, c5, c6⟩, w12, w8, h9⟩

/-- what is told, as it lies in the object -/
def dT (s : Int × Int × Int × (Nat → Int) × (Nat → Int) × (Nat → Int) × (Nat → Int) × (Nat → Int) × (Nat → Int) × (Nat → Int) × (Nat → Int) × (Nat → Nat → Int)) (st op ai fa mu tb : Nat → Int) : Prop := (∀ k : Nat, (k : Int) < s.1 → st k = s.2.2.2.2.1 k ∧ op k = s.2.2.2.2.2.1 k) ∧ (∀ k : Nat, (k : Int) < s.2.1 → ai k = s.2.2.2.2.2.2.1 k ∧ fa k = s.2.2.2.2.2.2.2.1 k ∧ mu k = s.2.2.2.2.2.2.2.2.1 k) ∧ ∀ k : Nat, k < 15 → tb k = s.2.2.2.2.2.2.2.2.2.1 k

theorem tabOK : ∀ j : Fin 15, (0 ≤ tabZ j.val ∧ tabZ j.val ≤ 9999) ∧ (10 ≤ j.val → 1 ≤ tabZ j.val) := by decide
theorem lyT_ms {r ly1 : Nat → Int} {p q0 : Nat} : ∀ n : Nat, n ≤ 12 → (∀ l, l < n → lyT ly1 (q0 + 7 * l)) → (∀ m, m < 84 → r (p + 2 + m) = ly1 (q0 + m)) → (∀ l, l < n → ly r (p + 2 + 7 * l)) ∧ ms r p n ≤ 198 * (n : Int) ∧ dp r p n ≤ 999 * (n : Int) := by
  intro n
  induction n with
  | zero => intro _ _ _; exact ⟨fun l hl => absurd hl (by omega), by show (0 : Int) ≤ _; omega, by show (0 : Int) ≤ _; omega⟩
  | succ n ih =>
    intro hn h he
    obtain ⟨a1, a2, a3⟩ := ih (by omega) (fun l hl => h l (by omega)) he
    have h9 := h n (by omega)
    have e0 := he (7 * n) (by omega)
    have e1 := he (7 * n + 1) (by omega)
    have e2 := he (7 * n + 2) (by omega)
    have e3 := he (7 * n + 3) (by omega)
    have e4 := he (7 * n + 4) (by omega)
    have e6 := he (7 * n + 6) (by omega)
    rw [← Nat.add_assoc, ← Nat.add_assoc] at e1 e2 e3 e4 e6
    obtain ⟨b0, b1, b2, b3, b4, b6⟩ := h9
    refine ⟨fun l hl => ?_, ?_, ?_⟩
    · by_cases e : l = n
      · subst e
        unfold ly
        rw [e0, e1, e2, e3, e4, e6]
        omega
      · exact a1 l (by omega)
    · show ms r p n + (r (p + 2 + 7 * n + 1) + r (p + 2 + 7 * n + 2)) ≤ _
      rw [e1, e2]; omega
    · show dp r p n + r (p + 2 + 7 * n + 3) ≤ _
      rw [e3]; omega
theorem okS.ofT {r ly1 : Nat → Int} {p q0 : Nat} {m : Int} (hp : r p = m) (hm : 0 ≤ m ∧ m ≤ 12) (h : ∀ l : Nat, (l : Int) < m → lyT ly1 (q0 + 7 * l)) (he : ∀ k, k < 84 → r (p + 2 + k) = ly1 (q0 + k)) : okS r p 2400 12000 := by
  obtain ⟨n, hn⟩ : ∃ n : Nat, m = (n : Int) := ⟨m.toNat, by omega⟩
  obtain ⟨a1, a2, a3⟩ := lyT_ms (r := r) (p := p) n (by omega) (fun l hl => h l (by omega)) he
  exact okS.mk n (by omega) (by omega) a1 (by omega) (by omega)

/-- the first row says what is told -/
def rwT (s : Int × Int × Int × (Nat → Int) × (Nat → Int) × (Nat → Int) × (Nat → Int) × (Nat → Int) × (Nat → Int) × (Nat → Int) × (Nat → Int) × (Nat → Nat → Int)) (r : Nat → Int) : Prop := (r 0 = 0 ∧ r 1 = s.2.2.1 ∧ r 2 = 0 ∧ r 3 = 0 ∧ r 4 = 0 ∧ r 5 = 0) ∧ ∀ j : Nat, j < 4 → r (6 + 86 * j) = s.2.2.2.1 j ∧ r (6 + 86 * j + 1) = 0 ∧ ∀ l : Nat, (l : Int) < s.2.2.2.1 j → ∀ f : Nat, f < 7 → r (6 + 86 * j + 2 + 7 * l + f) = s.2.2.2.2.2.2.2.2.2.2.2 j (12 * f + l)

set_option maxRecDepth 100000 in
set_option maxHeartbeats 4000000 in
theorem c_X10_becomes (l : Launch) (D : va_G) (A : Nat → Prop) (cs : Nat → ClassId) (tt : Nat) (N : Nat) (ad : Nat → Nat) (g : Nat → va_E) (i : Nat) (hN : i + 30 ≤ N) (x : Int) (hx : 0 ≤ x ∧ x ≤ 512) (F r : Nat → Int) {st op ai fa mu tb tp : Nat → Int} (hM : okMr cs ad g i x F r st op ai fa mu tb tp) (s : Int × Int × Int × (Nat → Int) × (Nat → Int) × (Nat → Int) × (Nat → Int) × (Nat → Int) × (Nat → Int) × (Nat → Int) × (Nat → Int) × (Nat → Nat → Int)) (hX : xTx cs g i F s) : zM l yX10_becomes cX10_becomes 3 none ({ frames := 2, cells := 0, slots := 0, locals := 120 } : Room) D A cs tt N ad g [.ref (ad i)] (rV0 N ad fun g' => (∃ F' r' st' op' ai' fa' mu' tb' : Nat → Int, okMr cs ad g' i x F' r' st' op' ai' fa' mu' tb' tp ∧ (F' 13 = s.1 ∧ F' 14 = s.2.1 ∧ F' 15 = 0 ∧ F' 16 = 0 ∧ F' 17 = 0 ∧ F' 18 = F 18 ∧ F' 19 = F 19 ∧ F' 20 = F 20 ∧ F' 21 = 0 ∧ F' 23 = F 23 ∧ F' 24 = F 24) ∧ (F' 25 = F 25 ∧ F' 26 = F 26 ∧ F' 27 = F 27 ∧ F' 29 = F 29) ∧ F' 12 = F 12 ∧ dT s st' op' ai' fa' mu' tb' ∧ rwT s r' ∧ ∀ j, 350 ≤ j → r' j = r j) ∧ ∀ j, j < i ∨ i + 30 ≤ j ∨ (i + 8 ≤ j ∧ j ≤ i + 12) → g' j = g j) := by
  obtain ⟨hg, ⟨⟨e13, e14, e25, e27, e29⟩, k15, k16, k17, k18, k19, k20, k23, k21⟩, hRD, hTx, hA, ns, nh, nd, rf, pi, te, ki, li, ok1, ok2, fo, dd, dps, ⟨ha1, ha2, ha3, ha4, ha5, ha6, ha7, ha8, ha9, ha10, ha11, ha12, ha13, ha14, ha15, ha24, ha25, ha26, ha27, ha28, ha29⟩, hEv, hPt, hns, htp⟩ := id hM
  obtain ⟨-, hop, hai, hfa, hT, hT1⟩ := id hEv
  have hay1 : zAt ad (i) (ad i) := rfl
  have hay2 : zAt ad (i + 1) (ad (i + 1)) := rfl
  have hay3 : zAt ad (i + 2) (ad (i + 2)) := rfl
  have hay4 : zAt ad (i + 3) (ad (i + 3)) := rfl
  have hay5 : zAt ad (i + 4) (ad (i + 4)) := rfl
  have hay6 : zAt ad (i + 5) (ad (i + 5)) := rfl
  have hay7 : zAt ad (i + 6) (ad (i + 6)) := rfl
  have hay8 : zAt ad (i + 7) (ad (i + 7)) := rfl
  have hay9 : zAt ad (i + 8) (ad (i + 8)) := rfl
  have hay10 : zAt ad (i + 9) (ad (i + 9)) := rfl
  have hay11 : zAt ad (i + 10) (ad (i + 10)) := rfl
  have hay12 : zAt ad (i + 11) (ad (i + 11)) := rfl
  have hay13 : zAt ad (i + 12) (ad (i + 12)) := rfl
  have hay14 : zAt ad (i + 13) (ad (i + 13)) := rfl
  have hay15 : zAt ad (i + 14) (ad (i + 14)) := rfl
  have hay16 : zAt ad (i + 15) (ad (i + 15)) := rfl
  have hay17 : zAt ad (i + 24) (ad (i + 24)) := rfl
  have hay18 : zAt ad (i + 25) (ad (i + 25)) := rfl
  have hay19 : zAt ad (i + 26) (ad (i + 26)) := rfl
  have hay20 : zAt ad (i + 27) (ad (i + 27)) := rfl
  have hay21 : zAt ad (i + 28) (ad (i + 28)) := rfl
  have hay22 : zAt ad (i + 29) (ad (i + 29)) := rfl
  obtain ⟨⟨hsyy23, htyy23, hnyy23, hpyy23⟩, hlyy23⟩ := okA.at0 hA
  simp only [Nat.zero_add] at hsyy23 hnyy23 hpyy23
  have hmn : ∀ s, s < 4 → 0 ≤ r (6 + 86 * s) ∧ r (6 + 86 * s) ≤ 12 := fun s hs => (hsyy23 s hs).1
  have h5 : 0 ≤ r 5 ∧ r 5 ≤ 6 := hpyy23
  obtain ⟨st1, op1, mn1, ai1, fa1, mu1, tb1, ly1, ⟨ha16, ha17, ha18, ha19, ha20, ha21, ha22, ha23⟩, ⟨⟨t47, t48, t49⟩, hop1, hmn1, hai1, hfa1, htb1, hly1⟩, hrT⟩ := id hX
  have hay24 : zAt ad (i + 16) (ad (i + 16)) := rfl
  have hay25 : zAt ad (i + 17) (ad (i + 17)) := rfl
  have hay26 : zAt ad (i + 18) (ad (i + 18)) := rfl
  have hay27 : zAt ad (i + 19) (ad (i + 19)) := rfl
  have hay28 : zAt ad (i + 20) (ad (i + 20)) := rfl
  have hay29 : zAt ad (i + 21) (ad (i + 21)) := rfl
  have hay30 : zAt ad (i + 22) (ad (i + 22)) := rfl
  have hay31 : zAt ad (i + 23) (ad (i + 23)) := rfl
  have r47 : F 47 = s.1 := hrT.1.1
  have r48 : F 48 = s.2.1 := hrT.1.2.1
  have hTs : okTx cs g i F := hX.ok
  have hRD32 := hRD.1
  refine z_of (by decide) (Nat.le_of_ble_eq_true rfl) ?_
  intro pZ eZ sZ mZ below meth cZ C hr hlk hnm
  refine z_lv (lv' := [(0, .ref (ad i))]) [0] rfl ?_
  refine z_aload_n C 0 dX10_becomes_0 rfl ?_
  refine z_aload_n C 0 dX10_becomes_1 rfl ?_
  refine z_get (v := .int (zI (F 47))) C (lt_A0 hN rfl) hay1 hg rfl inA_X10 47 (by decide) q_1506 rfl (fv (F := F) (f := 47) rfl) dX10_becomes_2 ?_
  refine z_put (fs' := mF ad (i) (uZ F 13 (F 47))) C (lt_A0 hN rfl) hay1 hg tyX10 tyX10_ok nmX10 rfl inA_X10 13 (by decide) q_1472 rfl rfl rfl rfl (Nat.le_of_ble_eq_true rfl) rfl dX10_becomes_5 (fun gy32 egy33 => ?_)
  have hgy34 := up_s egy33
  refine z_aload_n C 0 dX10_becomes_8 rfl ?_
  refine z_aload_n C 0 dX10_becomes_9 rfl ?_
  refine z_get (v := .int (zI (F 48))) C (lt_A0 hN rfl) hay1 hgy34 rfl inA_X10 48 (by decide) q_1507 rfl (fv (F := (uZ F 13 (F 47))) (f := 48) (fn rfl (by decide))) dX10_becomes_10 ?_
  refine z_put (fs' := mF ad (i) (uZ (uZ F 13 (F 47)) 14 (F 48))) C (lt_A0 hN rfl) hay1 hgy34 tyX10 tyX10_ok nmX10 rfl inA_X10 14 (by decide) q_1473 rfl rfl rfl rfl (Nat.le_of_ble_eq_true rfl) rfl dX10_becomes_13 (fun gy35 egy36 => ?_)
  have hgy37 := up_s egy36
  refine z_aload_n C 0 dX10_becomes_16 rfl ?_
  have hgy38 := up_n egy33 ha7 (ne_o (i := i) (c := 7) (d := 0) rfl)
  have hgy39 := up_n egy36 hgy38 (ne_o (i := i) (c := 7) (d := 0) rfl)
  refine z_cV (As := []) (rest := []) (ci := 12) C (c_X10_laysTable l D A cs tt N ad _ i _ _ (by omega) hgy37 hgy39) (lt_A0 hN rfl) hay1 hgy37 rfl rfl mv_yX10_laysTable q_1455 hd_yX10_laysTable (by decide) (Nat.le_of_ble_eq_true rfl) (by decide) dX10_becomes_17 rfl (kV0 fun gvy40 hvy40 => ?_)
  obtain ⟨hfvy40, rvy40, hdvy40, htvy40⟩ := hvy40
  refine z_iconst (z := 0) C dX10_becomes_20 rfl ?_
  refine z_istore_n (lv' := [(1, .int (zI (0))), (0, .ref (ad i))]) C dX10_becomes_21 rfl (by decide) rfl ?_
  have A : ∀ (n9 : Nat) (ka : Int) (t9 : Nat → Int) (g1 : Nat → va_E), (16 - ka).toNat = n9 → (g1 (i + 7) = iA cs 15 t9) → (∀ j, j ≠ i + 7 → g1 j = gvy40 j) → (∀ j, j < 15 → (0 ≤ t9 j ∧ t9 j ≤ 9999) ∧ (10 ≤ j → 1 ≤ t9 j)) → (∀ j : Nat, j < 15 → (t9 j = tabZ j ∧ ((j : Int) < ka → tb1 j = -1)) ∨ ((j : Int) < ka ∧ tb1 j ≠ -1 ∧ t9 j = tb1 j)) → (0 ≤ ka ∧ ka ≤ 15) → zV pZ l eZ ({ frames := 2, cells := 0, slots := 0, locals := 120 } : Room) sZ mZ ([.ref (ad i)] : List Value).toArray below meth cZ (MQ below (zPost D A (rV0 N ad fun g' => (∃ F' r' st' op' ai' fa' mu' tb' : Nat → Int, okMr cs ad g' i x F' r' st' op' ai' fa' mu' tb' tp ∧ (F' 13 = s.1 ∧ F' 14 = s.2.1 ∧ F' 15 = 0 ∧ F' 16 = 0 ∧ F' 17 = 0 ∧ F' 18 = F 18 ∧ F' 19 = F 19 ∧ F' 20 = F 20 ∧ F' 21 = 0 ∧ F' 23 = F 23 ∧ F' 24 = F 24) ∧ (F' 25 = F 25 ∧ F' 26 = F 26 ∧ F' 27 = F 27 ∧ F' 29 = F 29) ∧ F' 12 = F 12 ∧ dT s st' op' ai' fa' mu' tb' ∧ rwT s r' ∧ ∀ j, 350 ≤ j → r' j = r j) ∧ ∀ j, j < i ∨ i + 30 ≤ j ∨ (i + 8 ≤ j ∧ j ≤ i + 12) → g' j = g j)) ([.ref (ad i)] : List Value).toArray sZ ({ frames := 2, cells := 0, slots := 0, locals := 120 } : Room).cells ({ frames := 2, cells := 0, slots := 0, locals := 120 } : Room).slots A) D A 3 (N) ad g1 (0) (0) 22 [(0, .ref (ad i)), (1, .int (zI (ka)))] [] := by
    intro n9
    induction n9 using Nat.strongRecOn with
    | ind n9 ih_A =>
      intro ka t9 g1 hm9 f2A_t9 f3A fTa fTe hvkA
      obtain ⟨nkA, hnkA⟩ : ∃ n9 : Nat, ka = (n9 : Int) := ⟨ka.toNat, by omega⟩
      refine z_iload_n C 1 dX10_becomes_22 rfl ?_
      refine z_bipush (z := 15) C dX10_becomes_23 (by decide) ?_
      refine z_icmp_ge (tgt := 56) C dX10_becomes_25 (by decide) (by omega) (by omega) (fun hby41 => ?_) (fun hby41 => ?_)
      · refine z_iconst (z := 0) C dX10_becomes_56 rfl ?_
        refine z_istore_n (lv' := [(1, .int (zI (0))), (0, .ref (ad i))]) C dX10_becomes_57 rfl (by decide) rfl ?_
        obtain ⟨g1B, hg1B⟩ : ∃ h : Nat → va_E, h = g1 := ⟨_, rfl⟩
        subst hg1B
        have B : ∀ (n9 : Nat) (kb : Int) (a9 : Nat → Int) (fa9 : Nat → Int) (m9 : Nat → Int) (g1 : Nat → va_E), (25 - kb).toNat = n9 → (g1 (i + 4) = iA cs 24 a9) → (g1 (i + 5) = iA cs 24 fa9) → (g1 (i + 6) = iA cs 24 m9) → (∀ j, j ≠ i + 4 → j ≠ i + 5 → j ≠ i + 6 → g1 j = g1B j) → (∀ k, k < 24 → -300 ≤ a9 k ∧ a9 k ≤ 100) → (∀ k, k < 24 → (0 ≤ fa9 k ∧ fa9 k ≤ 3) ∧ (0 ≤ m9 k ∧ m9 k ≤ 50) ∧ (fa9 k = 1 ∨ fa9 k = 2 → 1 ≤ m9 k)) → (∀ k : Nat, (k : Int) < kb → a9 k = ai1 k ∧ fa9 k = fa1 k ∧ m9 k = mu1 k) → (0 ≤ kb ∧ kb ≤ F 48) → zV pZ l eZ ({ frames := 2, cells := 0, slots := 0, locals := 120 } : Room) sZ mZ ([.ref (ad i)] : List Value).toArray below meth cZ (MQ below (zPost D A (rV0 N ad fun g' => (∃ F' r' st' op' ai' fa' mu' tb' : Nat → Int, okMr cs ad g' i x F' r' st' op' ai' fa' mu' tb' tp ∧ (F' 13 = s.1 ∧ F' 14 = s.2.1 ∧ F' 15 = 0 ∧ F' 16 = 0 ∧ F' 17 = 0 ∧ F' 18 = F 18 ∧ F' 19 = F 19 ∧ F' 20 = F 20 ∧ F' 21 = 0 ∧ F' 23 = F 23 ∧ F' 24 = F 24) ∧ (F' 25 = F 25 ∧ F' 26 = F 26 ∧ F' 27 = F 27 ∧ F' 29 = F 29) ∧ F' 12 = F 12 ∧ dT s st' op' ai' fa' mu' tb' ∧ rwT s r' ∧ ∀ j, 350 ≤ j → r' j = r j) ∧ ∀ j, j < i ∨ i + 30 ≤ j ∨ (i + 8 ≤ j ∧ j ≤ i + 12) → g' j = g j)) ([.ref (ad i)] : List Value).toArray sZ ({ frames := 2, cells := 0, slots := 0, locals := 120 } : Room).cells ({ frames := 2, cells := 0, slots := 0, locals := 120 } : Room).slots A) D A 3 (N) ad g1 (0) (0) 58 [(0, .ref (ad i)), (1, .int (zI (kb)))] [] := by
          intro n9
          induction n9 using Nat.strongRecOn with
          | ind n9 ih_B =>
            intro kb a9 fa9 m9 g1 hm9 f2B_a9 f2B_fa9 f2B_m9 f3B fBa fBf fBe hvkB
            obtain ⟨nkB, hnkB⟩ : ∃ n9 : Nat, kb = (n9 : Int) := ⟨kb.toNat, by omega⟩
            refine z_iload_n C 1 dX10_becomes_58 rfl ?_
            refine z_aload_n C 0 dX10_becomes_59 rfl ?_
            have hgy42 := (hfvy40 (i) (ne_o (i := i) (c := 0) (d := 7) rfl)).trans hgy37
            have hgy43 := (f3A (i) (ne_o (i := i) (c := 0) (d := 7) rfl)).trans hgy42
            have hgy44 := (f3B (i) (ne_o (i := i) (c := 0) (d := 4) rfl) (ne_o (i := i) (c := 0) (d := 5) rfl) (ne_o (i := i) (c := 0) (d := 6) rfl)).trans hgy43
            refine z_get (v := .int (zI (F 48))) C (lt_A0 hN rfl) hay1 hgy44 rfl inA_X10 14 (by decide) q_1473 rfl (fv (F := (uZ (uZ F 13 (F 47)) 14 (F 48))) (f := 14) (uZ_s _ _ _)) dX10_becomes_60 ?_
            refine z_icmp_ge (tgt := 108) C dX10_becomes_63 (by decide) (by omega) (by omega) (fun hby45 => ?_) (fun hby45 => ?_)
            · refine z_iconst (z := 0) C dX10_becomes_108 rfl ?_
              refine z_istore_n (lv' := [(1, .int (zI (0))), (0, .ref (ad i))]) C dX10_becomes_109 rfl (by decide) rfl ?_
              obtain ⟨g1C, hg1C⟩ : ∃ h : Nat → va_E, h = g1 := ⟨_, rfl⟩
              subst hg1C
              have C : ∀ (n9 : Nat) (kc : Int) (r9 : Nat → Int) (g1 : Nat → va_E), (351 - kc).toNat = n9 → (g1 (i + 1) = iA cs 29200 r9) → (∀ j, j ≠ i + 1 → g1 j = g1C j) → (∀ j : Nat, (j : Int) < kc → r9 j = 0) → (∀ j : Nat, kc ≤ (j : Int) → r9 j = r j) → (0 ≤ kc ∧ kc ≤ 350) → zV pZ l eZ ({ frames := 2, cells := 0, slots := 0, locals := 120 } : Room) sZ mZ ([.ref (ad i)] : List Value).toArray below meth cZ (MQ below (zPost D A (rV0 N ad fun g' => (∃ F' r' st' op' ai' fa' mu' tb' : Nat → Int, okMr cs ad g' i x F' r' st' op' ai' fa' mu' tb' tp ∧ (F' 13 = s.1 ∧ F' 14 = s.2.1 ∧ F' 15 = 0 ∧ F' 16 = 0 ∧ F' 17 = 0 ∧ F' 18 = F 18 ∧ F' 19 = F 19 ∧ F' 20 = F 20 ∧ F' 21 = 0 ∧ F' 23 = F 23 ∧ F' 24 = F 24) ∧ (F' 25 = F 25 ∧ F' 26 = F 26 ∧ F' 27 = F 27 ∧ F' 29 = F 29) ∧ F' 12 = F 12 ∧ dT s st' op' ai' fa' mu' tb' ∧ rwT s r' ∧ ∀ j, 350 ≤ j → r' j = r j) ∧ ∀ j, j < i ∨ i + 30 ≤ j ∨ (i + 8 ≤ j ∧ j ≤ i + 12) → g' j = g j)) ([.ref (ad i)] : List Value).toArray sZ ({ frames := 2, cells := 0, slots := 0, locals := 120 } : Room).cells ({ frames := 2, cells := 0, slots := 0, locals := 120 } : Room).slots A) D A 3 (N) ad g1 (0) (0) 110 [(0, .ref (ad i)), (1, .int (zI (kc)))] [] := by
                intro n9
                induction n9 using Nat.strongRecOn with
                | ind n9 ih_C =>
                  intro kc r9 g1 hm9 f2C_r9 f3C fCz fCr hvkC
                  obtain ⟨nkC, hnkC⟩ : ∃ n9 : Nat, kc = (n9 : Int) := ⟨kc.toNat, by omega⟩
                  refine z_iload_n C 1 dX10_becomes_110 rfl ?_
                  refine z_sipush (z := 350) C dX10_becomes_111 (by decide) ?_
                  refine z_icmp_ge (tgt := 130) C dX10_becomes_114 (by decide) (by omega) (by omega) (fun hby46 => ?_) (fun hby46 => ?_)
                  · refine z_aload_n C 0 dX10_becomes_130 rfl ?_
                    have hgy47 := (f3C (i) (ne_o (i := i) (c := 0) (d := 1) rfl)).trans hgy44
                    refine z_get (v := .ref (ad (i + 1))) C (lt_A0 hN rfl) hay1 hgy47 rfl inA_X10 0 (by decide) q_1459 rfl rfl dX10_becomes_131 ?_
                    refine z_iconst (z := 1) C dX10_becomes_134 rfl ?_
                    refine z_aload_n C 0 dX10_becomes_135 rfl ?_
                    refine z_get (v := .int (zI (F 49))) C (lt_A0 hN rfl) hay1 hgy47 rfl inA_X10 49 (by decide) q_1508 rfl (fv (F := (uZ (uZ F 13 (F 47)) 14 (F 48))) (f := 49) (fn (fn rfl (by decide)) (by decide))) dX10_becomes_136 ?_
                    refine z_iast C (lt_A (c := 1) hN rfl) hay2 f2C_r9 (1) (by omega) (by omega) (by decide) dX10_becomes_139 (fun gy48 egy49 => ?_)
                    have hgy50 := up_s egy49
                    obtain ⟨ry51, hvy52⟩ : ∃ rZ9 : Nat → Int, rZ9 = uZ r9 (1) (F 49) := ⟨_, rfl⟩
                    rw [← hvy52] at hgy50
                    refine z_iconst (z := 0) C dX10_becomes_140 rfl ?_
                    refine z_istore_n (lv' := [(1, .int (zI (0))), (0, .ref (ad i))]) C dX10_becomes_141 rfl (by decide) rfl ?_
                    have hfry53 : ∀ j, j ≠ 1 → ry51 j = r9 j := fun j n0 => (congrFun hvy52 _).trans ((uZ_n _ _ n0).trans (rfl))
                    have hwy54 : ry51 (1) = F 49 := (congrFun hvy52 _).trans (uZ_s _ _ _)
                    have D : ∀ (n9 : Nat) (sd : Int) (rd9 : Nat → Int) (st9 : Nat → Int) (op9 : Nat → Int) (g1 : Nat → va_E), (5 - sd).toNat = n9 → (g1 (i + 1) = iA cs 29200 rd9) → (g1 (i + 2) = iA cs 4 st9) → (g1 (i + 3) = iA cs 4 op9) → (∀ j, j ≠ i + 1 → j ≠ i + 2 → j ≠ i + 3 → g1 j = gy48 j) → (∀ k, k < 4 → 0 ≤ op9 k ∧ op9 k ≤ 20) → (∀ k : Nat, (k : Int) < sd → st9 k = st1 k ∧ op9 k = op1 k) → (rd9 0 = 0) → (rd9 1 = F 49) → (rd9 5 = 0) → (∀ j, 350 ≤ j → rd9 j = r j) → (∀ s : Nat, s < 4 → ((s : Int) < sd → okS rd9 (6 + 86 * s) 2400 12000) ∧ (sd ≤ (s : Int) → rd9 (6 + 86 * s) = 0)) → (rd9 2 = 0 ∧ rd9 3 = 0 ∧ rd9 4 = 0) → (∀ s : Nat, s < 4 → ((s : Int) < sd → rd9 (6 + 86 * s) = mn1 s ∧ rd9 (6 + 86 * s + 1) = 0 ∧ ∀ m, m < 84 → rd9 (6 + 86 * s + 2 + m) = ly1 (84 * s + m)) ∧ (sd ≤ (s : Int) → rd9 (6 + 86 * s + 1) = 0)) → (0 ≤ sd ∧ sd ≤ F 47) → zV pZ l eZ ({ frames := 2, cells := 0, slots := 0, locals := 120 } : Room) sZ mZ ([.ref (ad i)] : List Value).toArray below meth cZ (MQ below (zPost D A (rV0 N ad fun g' => (∃ F' r' st' op' ai' fa' mu' tb' : Nat → Int, okMr cs ad g' i x F' r' st' op' ai' fa' mu' tb' tp ∧ (F' 13 = s.1 ∧ F' 14 = s.2.1 ∧ F' 15 = 0 ∧ F' 16 = 0 ∧ F' 17 = 0 ∧ F' 18 = F 18 ∧ F' 19 = F 19 ∧ F' 20 = F 20 ∧ F' 21 = 0 ∧ F' 23 = F 23 ∧ F' 24 = F 24) ∧ (F' 25 = F 25 ∧ F' 26 = F 26 ∧ F' 27 = F 27 ∧ F' 29 = F 29) ∧ F' 12 = F 12 ∧ dT s st' op' ai' fa' mu' tb' ∧ rwT s r' ∧ ∀ j, 350 ≤ j → r' j = r j) ∧ ∀ j, j < i ∨ i + 30 ≤ j ∨ (i + 8 ≤ j ∧ j ≤ i + 12) → g' j = g j)) ([.ref (ad i)] : List Value).toArray sZ ({ frames := 2, cells := 0, slots := 0, locals := 120 } : Room).cells ({ frames := 2, cells := 0, slots := 0, locals := 120 } : Room).slots A) D A 3 (N) ad g1 (0) (0) 142 [(0, .ref (ad i)), (1, .int (zI (sd)))] [] := by
                      intro n9
                      induction n9 using Nat.strongRecOn with
                      | ind n9 ih_D =>
                        intro sd rd9 st9 op9 g1 hm9 f2D_rd9 f2D_st9 f2D_op9 f3D fDo fDe fD0 fD1 fD5 fDr fDs fDh fDw hvkD
                        obtain ⟨nkD, hnkD⟩ : ∃ n9 : Nat, sd = (n9 : Int) := ⟨sd.toNat, by omega⟩
                        refine z_iload_n C 1 dX10_becomes_142 rfl ?_
                        refine z_aload_n C 0 dX10_becomes_143 rfl ?_
                        have hgy55 := up_n egy49 hgy47 (ne_o (i := i) (c := 0) (d := 1) rfl)
                        have hgy56 := (f3D (i) (ne_o (i := i) (c := 0) (d := 1) rfl) (ne_o (i := i) (c := 0) (d := 2) rfl) (ne_o (i := i) (c := 0) (d := 3) rfl)).trans hgy55
                        refine z_get (v := .int (zI (F 47))) C (lt_A0 hN rfl) hay1 hgy56 rfl inA_X10 13 (by decide) q_1472 rfl (fv (F := (uZ (uZ F 13 (F 47)) 14 (F 48))) (f := 13) (fn (uZ_s _ _ _) (by decide))) dX10_becomes_144 ?_
                        refine z_icmp_ge (tgt := 233) C dX10_becomes_147 (by decide) (by omega) (by omega) (fun hby57 => ?_) (fun hby57 => ?_)
                        · refine z_aload_n C 0 dX10_becomes_233 rfl ?_
                          refine z_aload_n C 0 dX10_becomes_234 rfl ?_
                          refine z_aload_n C 0 dX10_becomes_235 rfl ?_
                          refine z_aload_n C 0 dX10_becomes_236 rfl ?_
                          refine z_iconst (z := 0) C dX10_becomes_237 rfl ?_
                          refine z_dup_x1 C dX10_becomes_238 rfl rfl ?_
                          refine z_put (fs' := mF ad (i) (uZ (uZ (uZ F 13 (F 47)) 14 (F 48)) 21 (0))) C (lt_A0 hN rfl) hay1 hgy56 tyX10 tyX10_ok nmX10 rfl inA_X10 21 (by decide) q_1480 rfl rfl rfl rfl (Nat.le_of_ble_eq_true rfl) rfl dX10_becomes_239 (fun gy58 egy59 => ?_)
                          have hgy60 := up_s egy59
                          refine z_dup_x1 C dX10_becomes_242 rfl rfl ?_
                          refine z_put (fs' := mF ad (i) (uZ (uZ (uZ (uZ F 13 (F 47)) 14 (F 48)) 21 (0)) 17 (0))) C (lt_A0 hN rfl) hay1 hgy60 tyX10 tyX10_ok nmX10 rfl inA_X10 17 (by decide) q_1476 rfl rfl rfl rfl (Nat.le_of_ble_eq_true rfl) rfl dX10_becomes_243 (fun gy61 egy62 => ?_)
                          have hgy63 := up_s egy62
                          refine z_dup_x1 C dX10_becomes_246 rfl rfl ?_
                          refine z_put (fs' := mF ad (i) (uZ (uZ (uZ (uZ (uZ F 13 (F 47)) 14 (F 48)) 21 (0)) 17 (0)) 16 (0))) C (lt_A0 hN rfl) hay1 hgy63 tyX10 tyX10_ok nmX10 rfl inA_X10 16 (by decide) q_1475 rfl rfl rfl rfl (Nat.le_of_ble_eq_true rfl) rfl dX10_becomes_247 (fun gy64 egy65 => ?_)
                          have hgy66 := up_s egy65
                          refine z_put (fs' := mF ad (i) (uZ (uZ (uZ (uZ (uZ (uZ F 13 (F 47)) 14 (F 48)) 21 (0)) 17 (0)) 16 (0)) 15 (0))) C (lt_A0 hN rfl) hay1 hgy66 tyX10 tyX10_ok nmX10 rfl inA_X10 15 (by decide) q_1474 rfl rfl rfl rfl (Nat.le_of_ble_eq_true rfl) rfl dX10_becomes_250 (fun gy67 egy68 => ?_)
                          have hgy69 := up_s egy68
                          have hey70 : (uZ (uZ (uZ (uZ (uZ (uZ F 13 (F 47)) 14 (F 48)) 21 (0)) 17 (0)) 16 (0)) 15 (0)) 13 = F 47 := (fn (fn (fn (fn (fn (uZ_s _ _ _) (by decide)) (by decide)) (by decide)) (by decide)) (by decide))
                          have hey71 : (uZ (uZ (uZ (uZ (uZ (uZ F 13 (F 47)) 14 (F 48)) 21 (0)) 17 (0)) 16 (0)) 15 (0)) 14 = F 48 := (fn (fn (fn (fn (uZ_s _ _ _) (by decide)) (by decide)) (by decide)) (by decide))
                          have hey72 : (uZ (uZ (uZ (uZ (uZ (uZ F 13 (F 47)) 14 (F 48)) 21 (0)) 17 (0)) 16 (0)) 15 (0)) 15 = 0 := (uZ_s _ _ _)
                          have hey73 : (uZ (uZ (uZ (uZ (uZ (uZ F 13 (F 47)) 14 (F 48)) 21 (0)) 17 (0)) 16 (0)) 15 (0)) 16 = 0 := (fn (uZ_s _ _ _) (by decide))
                          have hey74 : (uZ (uZ (uZ (uZ (uZ (uZ F 13 (F 47)) 14 (F 48)) 21 (0)) 17 (0)) 16 (0)) 15 (0)) 17 = 0 := (fn (fn (uZ_s _ _ _) (by decide)) (by decide))
                          have hey75 : (uZ (uZ (uZ (uZ (uZ (uZ F 13 (F 47)) 14 (F 48)) 21 (0)) 17 (0)) 16 (0)) 15 (0)) 18 = F 18 := (fn (fn (fn (fn (fn (fn rfl (by decide)) (by decide)) (by decide)) (by decide)) (by decide)) (by decide))
                          have hey76 : (uZ (uZ (uZ (uZ (uZ (uZ F 13 (F 47)) 14 (F 48)) 21 (0)) 17 (0)) 16 (0)) 15 (0)) 19 = F 19 := (fn (fn (fn (fn (fn (fn rfl (by decide)) (by decide)) (by decide)) (by decide)) (by decide)) (by decide))
                          have hey77 : (uZ (uZ (uZ (uZ (uZ (uZ F 13 (F 47)) 14 (F 48)) 21 (0)) 17 (0)) 16 (0)) 15 (0)) 20 = F 20 := (fn (fn (fn (fn (fn (fn rfl (by decide)) (by decide)) (by decide)) (by decide)) (by decide)) (by decide))
                          have hey78 : (uZ (uZ (uZ (uZ (uZ (uZ F 13 (F 47)) 14 (F 48)) 21 (0)) 17 (0)) 16 (0)) 15 (0)) 21 = 0 := (fn (fn (fn (uZ_s _ _ _) (by decide)) (by decide)) (by decide))
                          have hey79 : (uZ (uZ (uZ (uZ (uZ (uZ F 13 (F 47)) 14 (F 48)) 21 (0)) 17 (0)) 16 (0)) 15 (0)) 23 = F 23 := (fn (fn (fn (fn (fn (fn rfl (by decide)) (by decide)) (by decide)) (by decide)) (by decide)) (by decide))
                          have hey80 : (uZ (uZ (uZ (uZ (uZ (uZ F 13 (F 47)) 14 (F 48)) 21 (0)) 17 (0)) 16 (0)) 15 (0)) 25 = F 25 := (fn (fn (fn (fn (fn (fn rfl (by decide)) (by decide)) (by decide)) (by decide)) (by decide)) (by decide))
                          have hey81 : (uZ (uZ (uZ (uZ (uZ (uZ F 13 (F 47)) 14 (F 48)) 21 (0)) 17 (0)) 16 (0)) 15 (0)) 27 = F 27 := (fn (fn (fn (fn (fn (fn rfl (by decide)) (by decide)) (by decide)) (by decide)) (by decide)) (by decide))
                          have hey82 : (uZ (uZ (uZ (uZ (uZ (uZ F 13 (F 47)) 14 (F 48)) 21 (0)) 17 (0)) 16 (0)) 15 (0)) 28 = F 28 := (fn (fn (fn (fn (fn (fn rfl (by decide)) (by decide)) (by decide)) (by decide)) (by decide)) (by decide))
                          have hey83 : (uZ (uZ (uZ (uZ (uZ (uZ F 13 (F 47)) 14 (F 48)) 21 (0)) 17 (0)) 16 (0)) 15 (0)) 29 = F 29 := (fn (fn (fn (fn (fn (fn rfl (by decide)) (by decide)) (by decide)) (by decide)) (by decide)) (by decide))
                          have hey84 : (uZ (uZ (uZ (uZ (uZ (uZ F 13 (F 47)) 14 (F 48)) 21 (0)) 17 (0)) 16 (0)) 15 (0)) 21 = 0 := (fn (fn (fn (uZ_s _ _ _) (by decide)) (by decide)) (by decide))
                          have hey85 : (uZ (uZ (uZ (uZ (uZ (uZ F 13 (F 47)) 14 (F 48)) 21 (0)) 17 (0)) 16 (0)) 15 (0)) 24 = F 24 := (fn (fn (fn (fn (fn (fn rfl (by decide)) (by decide)) (by decide)) (by decide)) (by decide)) (by decide))
                          have hey86 : (uZ (uZ (uZ (uZ (uZ (uZ F 13 (F 47)) 14 (F 48)) 21 (0)) 17 (0)) 16 (0)) 15 (0)) 12 = F 12 := (fn (fn (fn (fn (fn (fn rfl (by decide)) (by decide)) (by decide)) (by decide)) (by decide)) (by decide))
                          have hey87 : (uZ (uZ (uZ (uZ (uZ (uZ F 13 (F 47)) 14 (F 48)) 21 (0)) 17 (0)) 16 (0)) 15 (0)) 26 = F 26 := (fn (fn (fn (fn (fn (fn rfl (by decide)) (by decide)) (by decide)) (by decide)) (by decide)) (by decide))
                          have hK9 : okF (uZ (uZ (uZ (uZ (uZ (uZ F 13 (F 47)) 14 (F 48)) 21 (0)) 17 (0)) 16 (0)) 15 (0)) := by unfold okF; omega
                          have hx47 : (uZ (uZ (uZ (uZ (uZ (uZ F 13 (F 47)) 14 (F 48)) 21 (0)) 17 (0)) 16 (0)) 15 (0)) 47 = F 47 := (fn (fn (fn (fn (fn (fn rfl (by decide)) (by decide)) (by decide)) (by decide)) (by decide)) (by decide))
                          have hx48 : (uZ (uZ (uZ (uZ (uZ (uZ F 13 (F 47)) 14 (F 48)) 21 (0)) 17 (0)) 16 (0)) 15 (0)) 48 = F 48 := (fn (fn (fn (fn (fn (fn rfl (by decide)) (by decide)) (by decide)) (by decide)) (by decide)) (by decide))
                          have hx49 : (uZ (uZ (uZ (uZ (uZ (uZ F 13 (F 47)) 14 (F 48)) 21 (0)) 17 (0)) 16 (0)) 15 (0)) 49 = F 49 := (fn (fn (fn (fn (fn (fn rfl (by decide)) (by decide)) (by decide)) (by decide)) (by decide)) (by decide))
                          have hx32 : (uZ (uZ (uZ (uZ (uZ (uZ F 13 (F 47)) 14 (F 48)) 21 (0)) 17 (0)) 16 (0)) 15 (0)) 32 = F 32 := (fn (fn (fn (fn (fn (fn rfl (by decide)) (by decide)) (by decide)) (by decide)) (by decide)) (by decide))
                          have hT9 : okTx cs gy67 i (uZ (uZ (uZ (uZ (uZ (uZ F 13 (F 47)) 14 (F 48)) 21 (0)) 17 (0)) 16 (0)) 15 (0)) := hTs.mv (fun j a b => by rw [egy68, va_up_ne _ _ (by omega)]; rw [egy65, va_up_ne _ _ (by omega)]; rw [egy62, va_up_ne _ _ (by omega)]; rw [egy59, va_up_ne _ _ (by omega)]; rw [f3D _ (by omega) (by omega) (by omega)]; rw [egy49, va_up_ne _ _ (by omega)]; rw [f3C _ (by omega)]; rw [f3B _ (by omega) (by omega) (by omega)]; rw [f3A _ (by omega)]; rw [hfvy40 _ (by omega)]; rw [egy36, va_up_ne _ _ (by omega)]; rw [egy33, va_up_ne _ _ (by omega)]) ⟨by omega, by omega, by omega, by omega⟩
                          have hW9 : okW rd9 0 x := ⟨fun s hs => by rw [fD0]; exact (by by_cases e : (s : Int) < sd; exact (((fDs s hs).1 e).of (by omega)).mono (by unfold mB; omega) (by unfold eB; omega); exact (okS.zero ((fDs s hs).2 (by omega)) (by unfold mB; omega) (by unfold eB; omega)).of (by omega)), by rw [fD0]; omega, by rw [fD0]; show 0 ≤ rd9 1 ∧ rd9 1 ≤ _; rw [fD1]; omega, by show 0 ≤ rd9 5 ∧ rd9 5 ≤ 6; rw [fD5]; omega⟩
                          have hA9 : okA rd9 x := okA.first hA (Int.le_refl _) (fun j a => fDr j a) hW9 (by rw [fD0]; omega)
                          have hgy88 := up_n egy59 f2D_rd9 (ne_o (i := i) (c := 1) (d := 0) rfl)
                          have hgy89 := up_n egy62 hgy88 (ne_o (i := i) (c := 1) (d := 0) rfl)
                          have hgy90 := up_n egy65 hgy89 (ne_o (i := i) (c := 1) (d := 0) rfl)
                          have hgy91 := up_n egy68 hgy90 (ne_o (i := i) (c := 1) (d := 0) rfl)
                          have hgy92 := up_n egy59 f2D_st9 (ne_o (i := i) (c := 2) (d := 0) rfl)
                          have hgy93 := up_n egy62 hgy92 (ne_o (i := i) (c := 2) (d := 0) rfl)
                          have hgy94 := up_n egy65 hgy93 (ne_o (i := i) (c := 2) (d := 0) rfl)
                          have hgy95 := up_n egy68 hgy94 (ne_o (i := i) (c := 2) (d := 0) rfl)
                          have hgy96 := up_n egy59 f2D_op9 (ne_o (i := i) (c := 3) (d := 0) rfl)
                          have hgy97 := up_n egy62 hgy96 (ne_o (i := i) (c := 3) (d := 0) rfl)
                          have hgy98 := up_n egy65 hgy97 (ne_o (i := i) (c := 3) (d := 0) rfl)
                          have hgy99 := up_n egy68 hgy98 (ne_o (i := i) (c := 3) (d := 0) rfl)
                          have hgy100 := (f3C (i + 4) (ne_o (i := i) (c := 4) (d := 1) rfl)).trans f2B_a9
                          have hgy101 := up_n egy49 hgy100 (ne_o (i := i) (c := 4) (d := 1) rfl)
                          have hgy102 := (f3D (i + 4) (ne_o (i := i) (c := 4) (d := 1) rfl) (ne_o (i := i) (c := 4) (d := 2) rfl) (ne_o (i := i) (c := 4) (d := 3) rfl)).trans hgy101
                          have hgy103 := up_n egy59 hgy102 (ne_o (i := i) (c := 4) (d := 0) rfl)
                          have hgy104 := up_n egy62 hgy103 (ne_o (i := i) (c := 4) (d := 0) rfl)
                          have hgy105 := up_n egy65 hgy104 (ne_o (i := i) (c := 4) (d := 0) rfl)
                          have hgy106 := up_n egy68 hgy105 (ne_o (i := i) (c := 4) (d := 0) rfl)
                          have hgy107 := (f3C (i + 5) (ne_o (i := i) (c := 5) (d := 1) rfl)).trans f2B_fa9
                          have hgy108 := up_n egy49 hgy107 (ne_o (i := i) (c := 5) (d := 1) rfl)
                          have hgy109 := (f3D (i + 5) (ne_o (i := i) (c := 5) (d := 1) rfl) (ne_o (i := i) (c := 5) (d := 2) rfl) (ne_o (i := i) (c := 5) (d := 3) rfl)).trans hgy108
                          have hgy110 := up_n egy59 hgy109 (ne_o (i := i) (c := 5) (d := 0) rfl)
                          have hgy111 := up_n egy62 hgy110 (ne_o (i := i) (c := 5) (d := 0) rfl)
                          have hgy112 := up_n egy65 hgy111 (ne_o (i := i) (c := 5) (d := 0) rfl)
                          have hgy113 := up_n egy68 hgy112 (ne_o (i := i) (c := 5) (d := 0) rfl)
                          have hgy114 := (f3C (i + 6) (ne_o (i := i) (c := 6) (d := 1) rfl)).trans f2B_m9
                          have hgy115 := up_n egy49 hgy114 (ne_o (i := i) (c := 6) (d := 1) rfl)
                          have hgy116 := (f3D (i + 6) (ne_o (i := i) (c := 6) (d := 1) rfl) (ne_o (i := i) (c := 6) (d := 2) rfl) (ne_o (i := i) (c := 6) (d := 3) rfl)).trans hgy115
                          have hgy117 := up_n egy59 hgy116 (ne_o (i := i) (c := 6) (d := 0) rfl)
                          have hgy118 := up_n egy62 hgy117 (ne_o (i := i) (c := 6) (d := 0) rfl)
                          have hgy119 := up_n egy65 hgy118 (ne_o (i := i) (c := 6) (d := 0) rfl)
                          have hgy120 := up_n egy68 hgy119 (ne_o (i := i) (c := 6) (d := 0) rfl)
                          have hgy121 := (f3B (i + 7) (ne_o (i := i) (c := 7) (d := 4) rfl) (ne_o (i := i) (c := 7) (d := 5) rfl) (ne_o (i := i) (c := 7) (d := 6) rfl)).trans f2A_t9
                          have hgy122 := (f3C (i + 7) (ne_o (i := i) (c := 7) (d := 1) rfl)).trans hgy121
                          have hgy123 := up_n egy49 hgy122 (ne_o (i := i) (c := 7) (d := 1) rfl)
                          have hgy124 := (f3D (i + 7) (ne_o (i := i) (c := 7) (d := 1) rfl) (ne_o (i := i) (c := 7) (d := 2) rfl) (ne_o (i := i) (c := 7) (d := 3) rfl)).trans hgy123
                          have hgy125 := up_n egy59 hgy124 (ne_o (i := i) (c := 7) (d := 0) rfl)
                          have hgy126 := up_n egy62 hgy125 (ne_o (i := i) (c := 7) (d := 0) rfl)
                          have hgy127 := up_n egy65 hgy126 (ne_o (i := i) (c := 7) (d := 0) rfl)
                          have hgy128 := up_n egy68 hgy127 (ne_o (i := i) (c := 7) (d := 0) rfl)
                          have hgy129 := up_n egy33 ha8 (ne_o (i := i) (c := 8) (d := 0) rfl)
                          have hgy130 := up_n egy36 hgy129 (ne_o (i := i) (c := 8) (d := 0) rfl)
                          have hgy131 := (hfvy40 (i + 8) (ne_o (i := i) (c := 8) (d := 7) rfl)).trans hgy130
                          have hgy132 := (f3A (i + 8) (ne_o (i := i) (c := 8) (d := 7) rfl)).trans hgy131
                          have hgy133 := (f3B (i + 8) (ne_o (i := i) (c := 8) (d := 4) rfl) (ne_o (i := i) (c := 8) (d := 5) rfl) (ne_o (i := i) (c := 8) (d := 6) rfl)).trans hgy132
                          have hgy134 := (f3C (i + 8) (ne_o (i := i) (c := 8) (d := 1) rfl)).trans hgy133
                          have hgy135 := up_n egy49 hgy134 (ne_o (i := i) (c := 8) (d := 1) rfl)
                          have hgy136 := (f3D (i + 8) (ne_o (i := i) (c := 8) (d := 1) rfl) (ne_o (i := i) (c := 8) (d := 2) rfl) (ne_o (i := i) (c := 8) (d := 3) rfl)).trans hgy135
                          have hgy137 := up_n egy59 hgy136 (ne_o (i := i) (c := 8) (d := 0) rfl)
                          have hgy138 := up_n egy62 hgy137 (ne_o (i := i) (c := 8) (d := 0) rfl)
                          have hgy139 := up_n egy65 hgy138 (ne_o (i := i) (c := 8) (d := 0) rfl)
                          have hgy140 := up_n egy68 hgy139 (ne_o (i := i) (c := 8) (d := 0) rfl)
                          have hgy141 := up_n egy33 ha9 (ne_o (i := i) (c := 9) (d := 0) rfl)
                          have hgy142 := up_n egy36 hgy141 (ne_o (i := i) (c := 9) (d := 0) rfl)
                          have hgy143 := (hfvy40 (i + 9) (ne_o (i := i) (c := 9) (d := 7) rfl)).trans hgy142
                          have hgy144 := (f3A (i + 9) (ne_o (i := i) (c := 9) (d := 7) rfl)).trans hgy143
                          have hgy145 := (f3B (i + 9) (ne_o (i := i) (c := 9) (d := 4) rfl) (ne_o (i := i) (c := 9) (d := 5) rfl) (ne_o (i := i) (c := 9) (d := 6) rfl)).trans hgy144
                          have hgy146 := (f3C (i + 9) (ne_o (i := i) (c := 9) (d := 1) rfl)).trans hgy145
                          have hgy147 := up_n egy49 hgy146 (ne_o (i := i) (c := 9) (d := 1) rfl)
                          have hgy148 := (f3D (i + 9) (ne_o (i := i) (c := 9) (d := 1) rfl) (ne_o (i := i) (c := 9) (d := 2) rfl) (ne_o (i := i) (c := 9) (d := 3) rfl)).trans hgy147
                          have hgy149 := up_n egy59 hgy148 (ne_o (i := i) (c := 9) (d := 0) rfl)
                          have hgy150 := up_n egy62 hgy149 (ne_o (i := i) (c := 9) (d := 0) rfl)
                          have hgy151 := up_n egy65 hgy150 (ne_o (i := i) (c := 9) (d := 0) rfl)
                          have hgy152 := up_n egy68 hgy151 (ne_o (i := i) (c := 9) (d := 0) rfl)
                          have hgy153 := up_n egy33 ha10 (ne_o (i := i) (c := 10) (d := 0) rfl)
                          have hgy154 := up_n egy36 hgy153 (ne_o (i := i) (c := 10) (d := 0) rfl)
                          have hgy155 := (hfvy40 (i + 10) (ne_o (i := i) (c := 10) (d := 7) rfl)).trans hgy154
                          have hgy156 := (f3A (i + 10) (ne_o (i := i) (c := 10) (d := 7) rfl)).trans hgy155
                          have hgy157 := (f3B (i + 10) (ne_o (i := i) (c := 10) (d := 4) rfl) (ne_o (i := i) (c := 10) (d := 5) rfl) (ne_o (i := i) (c := 10) (d := 6) rfl)).trans hgy156
                          have hgy158 := (f3C (i + 10) (ne_o (i := i) (c := 10) (d := 1) rfl)).trans hgy157
                          have hgy159 := up_n egy49 hgy158 (ne_o (i := i) (c := 10) (d := 1) rfl)
                          have hgy160 := (f3D (i + 10) (ne_o (i := i) (c := 10) (d := 1) rfl) (ne_o (i := i) (c := 10) (d := 2) rfl) (ne_o (i := i) (c := 10) (d := 3) rfl)).trans hgy159
                          have hgy161 := up_n egy59 hgy160 (ne_o (i := i) (c := 10) (d := 0) rfl)
                          have hgy162 := up_n egy62 hgy161 (ne_o (i := i) (c := 10) (d := 0) rfl)
                          have hgy163 := up_n egy65 hgy162 (ne_o (i := i) (c := 10) (d := 0) rfl)
                          have hgy164 := up_n egy68 hgy163 (ne_o (i := i) (c := 10) (d := 0) rfl)
                          have hgy165 := up_n egy33 ha11 (ne_o (i := i) (c := 11) (d := 0) rfl)
                          have hgy166 := up_n egy36 hgy165 (ne_o (i := i) (c := 11) (d := 0) rfl)
                          have hgy167 := (hfvy40 (i + 11) (ne_o (i := i) (c := 11) (d := 7) rfl)).trans hgy166
                          have hgy168 := (f3A (i + 11) (ne_o (i := i) (c := 11) (d := 7) rfl)).trans hgy167
                          have hgy169 := (f3B (i + 11) (ne_o (i := i) (c := 11) (d := 4) rfl) (ne_o (i := i) (c := 11) (d := 5) rfl) (ne_o (i := i) (c := 11) (d := 6) rfl)).trans hgy168
                          have hgy170 := (f3C (i + 11) (ne_o (i := i) (c := 11) (d := 1) rfl)).trans hgy169
                          have hgy171 := up_n egy49 hgy170 (ne_o (i := i) (c := 11) (d := 1) rfl)
                          have hgy172 := (f3D (i + 11) (ne_o (i := i) (c := 11) (d := 1) rfl) (ne_o (i := i) (c := 11) (d := 2) rfl) (ne_o (i := i) (c := 11) (d := 3) rfl)).trans hgy171
                          have hgy173 := up_n egy59 hgy172 (ne_o (i := i) (c := 11) (d := 0) rfl)
                          have hgy174 := up_n egy62 hgy173 (ne_o (i := i) (c := 11) (d := 0) rfl)
                          have hgy175 := up_n egy65 hgy174 (ne_o (i := i) (c := 11) (d := 0) rfl)
                          have hgy176 := up_n egy68 hgy175 (ne_o (i := i) (c := 11) (d := 0) rfl)
                          have hgy177 := up_n egy33 ha12 (ne_o (i := i) (c := 12) (d := 0) rfl)
                          have hgy178 := up_n egy36 hgy177 (ne_o (i := i) (c := 12) (d := 0) rfl)
                          have hgy179 := (hfvy40 (i + 12) (ne_o (i := i) (c := 12) (d := 7) rfl)).trans hgy178
                          have hgy180 := (f3A (i + 12) (ne_o (i := i) (c := 12) (d := 7) rfl)).trans hgy179
                          have hgy181 := (f3B (i + 12) (ne_o (i := i) (c := 12) (d := 4) rfl) (ne_o (i := i) (c := 12) (d := 5) rfl) (ne_o (i := i) (c := 12) (d := 6) rfl)).trans hgy180
                          have hgy182 := (f3C (i + 12) (ne_o (i := i) (c := 12) (d := 1) rfl)).trans hgy181
                          have hgy183 := up_n egy49 hgy182 (ne_o (i := i) (c := 12) (d := 1) rfl)
                          have hgy184 := (f3D (i + 12) (ne_o (i := i) (c := 12) (d := 1) rfl) (ne_o (i := i) (c := 12) (d := 2) rfl) (ne_o (i := i) (c := 12) (d := 3) rfl)).trans hgy183
                          have hgy185 := up_n egy59 hgy184 (ne_o (i := i) (c := 12) (d := 0) rfl)
                          have hgy186 := up_n egy62 hgy185 (ne_o (i := i) (c := 12) (d := 0) rfl)
                          have hgy187 := up_n egy65 hgy186 (ne_o (i := i) (c := 12) (d := 0) rfl)
                          have hgy188 := up_n egy68 hgy187 (ne_o (i := i) (c := 12) (d := 0) rfl)
                          have hgy189 := up_n egy33 ha13 (ne_o (i := i) (c := 13) (d := 0) rfl)
                          have hgy190 := up_n egy36 hgy189 (ne_o (i := i) (c := 13) (d := 0) rfl)
                          have hgy191 := (hfvy40 (i + 13) (ne_o (i := i) (c := 13) (d := 7) rfl)).trans hgy190
                          have hgy192 := (f3A (i + 13) (ne_o (i := i) (c := 13) (d := 7) rfl)).trans hgy191
                          have hgy193 := (f3B (i + 13) (ne_o (i := i) (c := 13) (d := 4) rfl) (ne_o (i := i) (c := 13) (d := 5) rfl) (ne_o (i := i) (c := 13) (d := 6) rfl)).trans hgy192
                          have hgy194 := (f3C (i + 13) (ne_o (i := i) (c := 13) (d := 1) rfl)).trans hgy193
                          have hgy195 := up_n egy49 hgy194 (ne_o (i := i) (c := 13) (d := 1) rfl)
                          have hgy196 := (f3D (i + 13) (ne_o (i := i) (c := 13) (d := 1) rfl) (ne_o (i := i) (c := 13) (d := 2) rfl) (ne_o (i := i) (c := 13) (d := 3) rfl)).trans hgy195
                          have hgy197 := up_n egy59 hgy196 (ne_o (i := i) (c := 13) (d := 0) rfl)
                          have hgy198 := up_n egy62 hgy197 (ne_o (i := i) (c := 13) (d := 0) rfl)
                          have hgy199 := up_n egy65 hgy198 (ne_o (i := i) (c := 13) (d := 0) rfl)
                          have hgy200 := up_n egy68 hgy199 (ne_o (i := i) (c := 13) (d := 0) rfl)
                          have hgy201 := up_n egy33 ha14 (ne_o (i := i) (c := 14) (d := 0) rfl)
                          have hgy202 := up_n egy36 hgy201 (ne_o (i := i) (c := 14) (d := 0) rfl)
                          have hgy203 := (hfvy40 (i + 14) (ne_o (i := i) (c := 14) (d := 7) rfl)).trans hgy202
                          have hgy204 := (f3A (i + 14) (ne_o (i := i) (c := 14) (d := 7) rfl)).trans hgy203
                          have hgy205 := (f3B (i + 14) (ne_o (i := i) (c := 14) (d := 4) rfl) (ne_o (i := i) (c := 14) (d := 5) rfl) (ne_o (i := i) (c := 14) (d := 6) rfl)).trans hgy204
                          have hgy206 := (f3C (i + 14) (ne_o (i := i) (c := 14) (d := 1) rfl)).trans hgy205
                          have hgy207 := up_n egy49 hgy206 (ne_o (i := i) (c := 14) (d := 1) rfl)
                          have hgy208 := (f3D (i + 14) (ne_o (i := i) (c := 14) (d := 1) rfl) (ne_o (i := i) (c := 14) (d := 2) rfl) (ne_o (i := i) (c := 14) (d := 3) rfl)).trans hgy207
                          have hgy209 := up_n egy59 hgy208 (ne_o (i := i) (c := 14) (d := 0) rfl)
                          have hgy210 := up_n egy62 hgy209 (ne_o (i := i) (c := 14) (d := 0) rfl)
                          have hgy211 := up_n egy65 hgy210 (ne_o (i := i) (c := 14) (d := 0) rfl)
                          have hgy212 := up_n egy68 hgy211 (ne_o (i := i) (c := 14) (d := 0) rfl)
                          have hgy213 := up_n egy33 ha15 (ne_o (i := i) (c := 15) (d := 0) rfl)
                          have hgy214 := up_n egy36 hgy213 (ne_o (i := i) (c := 15) (d := 0) rfl)
                          have hgy215 := (hfvy40 (i + 15) (ne_o (i := i) (c := 15) (d := 7) rfl)).trans hgy214
                          have hgy216 := (f3A (i + 15) (ne_o (i := i) (c := 15) (d := 7) rfl)).trans hgy215
                          have hgy217 := (f3B (i + 15) (ne_o (i := i) (c := 15) (d := 4) rfl) (ne_o (i := i) (c := 15) (d := 5) rfl) (ne_o (i := i) (c := 15) (d := 6) rfl)).trans hgy216
                          have hgy218 := (f3C (i + 15) (ne_o (i := i) (c := 15) (d := 1) rfl)).trans hgy217
                          have hgy219 := up_n egy49 hgy218 (ne_o (i := i) (c := 15) (d := 1) rfl)
                          have hgy220 := (f3D (i + 15) (ne_o (i := i) (c := 15) (d := 1) rfl) (ne_o (i := i) (c := 15) (d := 2) rfl) (ne_o (i := i) (c := 15) (d := 3) rfl)).trans hgy219
                          have hgy221 := up_n egy59 hgy220 (ne_o (i := i) (c := 15) (d := 0) rfl)
                          have hgy222 := up_n egy62 hgy221 (ne_o (i := i) (c := 15) (d := 0) rfl)
                          have hgy223 := up_n egy65 hgy222 (ne_o (i := i) (c := 15) (d := 0) rfl)
                          have hgy224 := up_n egy68 hgy223 (ne_o (i := i) (c := 15) (d := 0) rfl)
                          have hgy225 := up_n egy33 ha24 (ne_o (i := i) (c := 24) (d := 0) rfl)
                          have hgy226 := up_n egy36 hgy225 (ne_o (i := i) (c := 24) (d := 0) rfl)
                          have hgy227 := (hfvy40 (i + 24) (ne_o (i := i) (c := 24) (d := 7) rfl)).trans hgy226
                          have hgy228 := (f3A (i + 24) (ne_o (i := i) (c := 24) (d := 7) rfl)).trans hgy227
                          have hgy229 := (f3B (i + 24) (ne_o (i := i) (c := 24) (d := 4) rfl) (ne_o (i := i) (c := 24) (d := 5) rfl) (ne_o (i := i) (c := 24) (d := 6) rfl)).trans hgy228
                          have hgy230 := (f3C (i + 24) (ne_o (i := i) (c := 24) (d := 1) rfl)).trans hgy229
                          have hgy231 := up_n egy49 hgy230 (ne_o (i := i) (c := 24) (d := 1) rfl)
                          have hgy232 := (f3D (i + 24) (ne_o (i := i) (c := 24) (d := 1) rfl) (ne_o (i := i) (c := 24) (d := 2) rfl) (ne_o (i := i) (c := 24) (d := 3) rfl)).trans hgy231
                          have hgy233 := up_n egy59 hgy232 (ne_o (i := i) (c := 24) (d := 0) rfl)
                          have hgy234 := up_n egy62 hgy233 (ne_o (i := i) (c := 24) (d := 0) rfl)
                          have hgy235 := up_n egy65 hgy234 (ne_o (i := i) (c := 24) (d := 0) rfl)
                          have hgy236 := up_n egy68 hgy235 (ne_o (i := i) (c := 24) (d := 0) rfl)
                          have hgy237 := up_n egy33 ha25 (ne_o (i := i) (c := 25) (d := 0) rfl)
                          have hgy238 := up_n egy36 hgy237 (ne_o (i := i) (c := 25) (d := 0) rfl)
                          have hgy239 := (hfvy40 (i + 25) (ne_o (i := i) (c := 25) (d := 7) rfl)).trans hgy238
                          have hgy240 := (f3A (i + 25) (ne_o (i := i) (c := 25) (d := 7) rfl)).trans hgy239
                          have hgy241 := (f3B (i + 25) (ne_o (i := i) (c := 25) (d := 4) rfl) (ne_o (i := i) (c := 25) (d := 5) rfl) (ne_o (i := i) (c := 25) (d := 6) rfl)).trans hgy240
                          have hgy242 := (f3C (i + 25) (ne_o (i := i) (c := 25) (d := 1) rfl)).trans hgy241
                          have hgy243 := up_n egy49 hgy242 (ne_o (i := i) (c := 25) (d := 1) rfl)
                          have hgy244 := (f3D (i + 25) (ne_o (i := i) (c := 25) (d := 1) rfl) (ne_o (i := i) (c := 25) (d := 2) rfl) (ne_o (i := i) (c := 25) (d := 3) rfl)).trans hgy243
                          have hgy245 := up_n egy59 hgy244 (ne_o (i := i) (c := 25) (d := 0) rfl)
                          have hgy246 := up_n egy62 hgy245 (ne_o (i := i) (c := 25) (d := 0) rfl)
                          have hgy247 := up_n egy65 hgy246 (ne_o (i := i) (c := 25) (d := 0) rfl)
                          have hgy248 := up_n egy68 hgy247 (ne_o (i := i) (c := 25) (d := 0) rfl)
                          have hgy249 := up_n egy33 ha26 (ne_o (i := i) (c := 26) (d := 0) rfl)
                          have hgy250 := up_n egy36 hgy249 (ne_o (i := i) (c := 26) (d := 0) rfl)
                          have hgy251 := (hfvy40 (i + 26) (ne_o (i := i) (c := 26) (d := 7) rfl)).trans hgy250
                          have hgy252 := (f3A (i + 26) (ne_o (i := i) (c := 26) (d := 7) rfl)).trans hgy251
                          have hgy253 := (f3B (i + 26) (ne_o (i := i) (c := 26) (d := 4) rfl) (ne_o (i := i) (c := 26) (d := 5) rfl) (ne_o (i := i) (c := 26) (d := 6) rfl)).trans hgy252
                          have hgy254 := (f3C (i + 26) (ne_o (i := i) (c := 26) (d := 1) rfl)).trans hgy253
                          have hgy255 := up_n egy49 hgy254 (ne_o (i := i) (c := 26) (d := 1) rfl)
                          have hgy256 := (f3D (i + 26) (ne_o (i := i) (c := 26) (d := 1) rfl) (ne_o (i := i) (c := 26) (d := 2) rfl) (ne_o (i := i) (c := 26) (d := 3) rfl)).trans hgy255
                          have hgy257 := up_n egy59 hgy256 (ne_o (i := i) (c := 26) (d := 0) rfl)
                          have hgy258 := up_n egy62 hgy257 (ne_o (i := i) (c := 26) (d := 0) rfl)
                          have hgy259 := up_n egy65 hgy258 (ne_o (i := i) (c := 26) (d := 0) rfl)
                          have hgy260 := up_n egy68 hgy259 (ne_o (i := i) (c := 26) (d := 0) rfl)
                          have hgy261 := up_n egy33 ha27 (ne_o (i := i) (c := 27) (d := 0) rfl)
                          have hgy262 := up_n egy36 hgy261 (ne_o (i := i) (c := 27) (d := 0) rfl)
                          have hgy263 := (hfvy40 (i + 27) (ne_o (i := i) (c := 27) (d := 7) rfl)).trans hgy262
                          have hgy264 := (f3A (i + 27) (ne_o (i := i) (c := 27) (d := 7) rfl)).trans hgy263
                          have hgy265 := (f3B (i + 27) (ne_o (i := i) (c := 27) (d := 4) rfl) (ne_o (i := i) (c := 27) (d := 5) rfl) (ne_o (i := i) (c := 27) (d := 6) rfl)).trans hgy264
                          have hgy266 := (f3C (i + 27) (ne_o (i := i) (c := 27) (d := 1) rfl)).trans hgy265
                          have hgy267 := up_n egy49 hgy266 (ne_o (i := i) (c := 27) (d := 1) rfl)
                          have hgy268 := (f3D (i + 27) (ne_o (i := i) (c := 27) (d := 1) rfl) (ne_o (i := i) (c := 27) (d := 2) rfl) (ne_o (i := i) (c := 27) (d := 3) rfl)).trans hgy267
                          have hgy269 := up_n egy59 hgy268 (ne_o (i := i) (c := 27) (d := 0) rfl)
                          have hgy270 := up_n egy62 hgy269 (ne_o (i := i) (c := 27) (d := 0) rfl)
                          have hgy271 := up_n egy65 hgy270 (ne_o (i := i) (c := 27) (d := 0) rfl)
                          have hgy272 := up_n egy68 hgy271 (ne_o (i := i) (c := 27) (d := 0) rfl)
                          have hgy273 := up_n egy33 ha28 (ne_o (i := i) (c := 28) (d := 0) rfl)
                          have hgy274 := up_n egy36 hgy273 (ne_o (i := i) (c := 28) (d := 0) rfl)
                          have hgy275 := (hfvy40 (i + 28) (ne_o (i := i) (c := 28) (d := 7) rfl)).trans hgy274
                          have hgy276 := (f3A (i + 28) (ne_o (i := i) (c := 28) (d := 7) rfl)).trans hgy275
                          have hgy277 := (f3B (i + 28) (ne_o (i := i) (c := 28) (d := 4) rfl) (ne_o (i := i) (c := 28) (d := 5) rfl) (ne_o (i := i) (c := 28) (d := 6) rfl)).trans hgy276
                          have hgy278 := (f3C (i + 28) (ne_o (i := i) (c := 28) (d := 1) rfl)).trans hgy277
                          have hgy279 := up_n egy49 hgy278 (ne_o (i := i) (c := 28) (d := 1) rfl)
                          have hgy280 := (f3D (i + 28) (ne_o (i := i) (c := 28) (d := 1) rfl) (ne_o (i := i) (c := 28) (d := 2) rfl) (ne_o (i := i) (c := 28) (d := 3) rfl)).trans hgy279
                          have hgy281 := up_n egy59 hgy280 (ne_o (i := i) (c := 28) (d := 0) rfl)
                          have hgy282 := up_n egy62 hgy281 (ne_o (i := i) (c := 28) (d := 0) rfl)
                          have hgy283 := up_n egy65 hgy282 (ne_o (i := i) (c := 28) (d := 0) rfl)
                          have hgy284 := up_n egy68 hgy283 (ne_o (i := i) (c := 28) (d := 0) rfl)
                          have hgy285 := up_n egy33 ha29 (ne_o (i := i) (c := 29) (d := 0) rfl)
                          have hgy286 := up_n egy36 hgy285 (ne_o (i := i) (c := 29) (d := 0) rfl)
                          have hgy287 := (hfvy40 (i + 29) (ne_o (i := i) (c := 29) (d := 7) rfl)).trans hgy286
                          have hgy288 := (f3A (i + 29) (ne_o (i := i) (c := 29) (d := 7) rfl)).trans hgy287
                          have hgy289 := (f3B (i + 29) (ne_o (i := i) (c := 29) (d := 4) rfl) (ne_o (i := i) (c := 29) (d := 5) rfl) (ne_o (i := i) (c := 29) (d := 6) rfl)).trans hgy288
                          have hgy290 := (f3C (i + 29) (ne_o (i := i) (c := 29) (d := 1) rfl)).trans hgy289
                          have hgy291 := up_n egy49 hgy290 (ne_o (i := i) (c := 29) (d := 1) rfl)
                          have hgy292 := (f3D (i + 29) (ne_o (i := i) (c := 29) (d := 1) rfl) (ne_o (i := i) (c := 29) (d := 2) rfl) (ne_o (i := i) (c := 29) (d := 3) rfl)).trans hgy291
                          have hgy293 := up_n egy59 hgy292 (ne_o (i := i) (c := 29) (d := 0) rfl)
                          have hgy294 := up_n egy62 hgy293 (ne_o (i := i) (c := 29) (d := 0) rfl)
                          have hgy295 := up_n egy65 hgy294 (ne_o (i := i) (c := 29) (d := 0) rfl)
                          have hgy296 := up_n egy68 hgy295 (ne_o (i := i) (c := 29) (d := 0) rfl)
                          have hM9 : okMr cs ad gy67 i x (uZ (uZ (uZ (uZ (uZ (uZ F 13 (F 47)) 14 (F 48)) 21 (0)) 17 (0)) 16 (0)) 15 (0)) rd9 (st9) (op9) (a9) (fa9) (m9) (t9) tp := ⟨hgy69, hK9, (RD.put (RD.put (RD.put (RD.put (RD.put (RD.put hRD (by decide)) (by decide)) (by decide)) (by decide)) (by decide)) (by decide)), hT9.weak, hA9, _, _, _, _, _, _, _, _, _, _, _, _, _, ⟨hgy91, hgy95, hgy99, hgy106, hgy113, hgy120, hgy128, hgy140, hgy152, hgy164, hgy176, hgy188, hgy200, hgy212, hgy224, hgy236, hgy248, hgy260, hgy272, hgy284, hgy296⟩, ⟨hK9.1, fDo, fBa, fBf, fun k hk => (fTa k hk).1, fun k h1 h2 => (fTa k h2).2 h1⟩, hPt, hns, htp⟩
                          have hD9 : dT s (st9) (op9) (a9) (fa9) (m9) (t9) := ⟨fun k hk => by have h9 := hrT.2.1 k hk; have h8 := fDe k (by omega); omega, fun k hk => by have h9 := hrT.2.2.1 k hk; have h8 := fBe k (by omega); omega, fun k hk => by have h9 := hrT.2.2.2.1 k hk; have h8 := fTe k hk; omega⟩
                          have hR9 : rwT s rd9 := by
                            refine ⟨⟨fD0, fD1.trans hrT.1.2.2, fDh.1, fDh.2.1, fDh.2.2, fD5⟩, fun j hj => ?_⟩
                            by_cases e : (j : Int) < sd
                            · obtain ⟨a9, b9, c9⟩ := (fDw j hj).1 e
                              have hm9 := (hrT.2.1 j (by omega)).2.2
                              have hmb := hmn1 j hj
                              refine ⟨a9.trans hm9, b9, fun l hl f hf => ?_⟩
                              rw [← hm9] at hl
                              have h9 := c9 (7 * l + f) (by omega)
                              rw [show 6 + 86 * j + 2 + 7 * l + f = 6 + 86 * j + 2 + (7 * l + f) by omega, h9, show 84 * j + (7 * l + f) = 84 * j + 7 * l + f by omega]
                              rw [hm9] at hl
                              exact hrT.2.2.2.2.1 j l (by omega) hl f hf
                            · have hm9 := hrT.2.2.2.2.2 j (by omega)
                              exact ⟨((fDs j hj).2 (by omega)).trans hm9.symm, (fDw j hj).2 (by omega), fun l hl => absurd hl (by rw [hm9]; omega)⟩
                          exact z_vret C hr hlk dX10_becomes_253 (by decide) (by decide) ⟨rfl, rfl, rfl, ⟨_, _, _, _, _, _, _, _, hM9, by omega, by omega, by omega, hD9, hR9, fDr⟩, fun j j1 => by rw [egy68, va_up_ne _ _ (by omega)]; rw [egy65, va_up_ne _ _ (by omega)]; rw [egy62, va_up_ne _ _ (by omega)]; rw [egy59, va_up_ne _ _ (by omega)]; rw [f3D _ (by omega) (by omega) (by omega)]; rw [egy49, va_up_ne _ _ (by omega)]; rw [f3C _ (by omega)]; rw [f3B _ (by omega) (by omega) (by omega)]; rw [f3A _ (by omega)]; rw [hfvy40 _ (by omega)]; rw [egy36, va_up_ne _ _ (by omega)]; rw [egy33, va_up_ne _ _ (by omega)]⟩
                        · refine z_aload_n C 0 dX10_becomes_150 rfl ?_
                          refine z_get (v := .ref (ad (i + 2))) C (lt_A0 hN rfl) hay1 hgy56 rfl inA_X10 1 (by decide) q_1460 rfl rfl dX10_becomes_151 ?_
                          refine z_iload_n C 1 dX10_becomes_154 rfl ?_
                          refine z_aload_n C 0 dX10_becomes_155 rfl ?_
                          refine z_get (v := .ref (ad (i + 16))) C (lt_A0 hN rfl) hay1 hgy56 rfl inA_X10 39 (by decide) q_1498 rfl rfl dX10_becomes_156 ?_
                          refine z_iload_n C 1 dX10_becomes_159 rfl ?_
                          have hgy297 := up_n egy33 ha16 (ne_o (i := i) (c := 16) (d := 0) rfl)
                          have hgy298 := up_n egy36 hgy297 (ne_o (i := i) (c := 16) (d := 0) rfl)
                          have hgy299 := (hfvy40 (i + 16) (ne_o (i := i) (c := 16) (d := 7) rfl)).trans hgy298
                          have hgy300 := (f3A (i + 16) (ne_o (i := i) (c := 16) (d := 7) rfl)).trans hgy299
                          have hgy301 := (f3B (i + 16) (ne_o (i := i) (c := 16) (d := 4) rfl) (ne_o (i := i) (c := 16) (d := 5) rfl) (ne_o (i := i) (c := 16) (d := 6) rfl)).trans hgy300
                          have hgy302 := (f3C (i + 16) (ne_o (i := i) (c := 16) (d := 1) rfl)).trans hgy301
                          have hgy303 := up_n egy49 hgy302 (ne_o (i := i) (c := 16) (d := 1) rfl)
                          have hgy304 := (f3D (i + 16) (ne_o (i := i) (c := 16) (d := 1) rfl) (ne_o (i := i) (c := 16) (d := 2) rfl) (ne_o (i := i) (c := 16) (d := 3) rfl)).trans hgy303
                          refine z_iald C (lt_A (c := 16) hN rfl) hay24 hgy304 (nkD) (by omega) (by omega) (by decide) dX10_becomes_160 ?_
                          refine z_iast C (lt_A (c := 2) hN rfl) hay3 f2D_st9 (nkD) (by omega) (by omega) (by decide) dX10_becomes_161 (fun gy305 egy306 => ?_)
                          have hgy307 := up_s egy306
                          refine z_aload_n C 0 dX10_becomes_162 rfl ?_
                          have hgy308 := up_n egy306 hgy56 (ne_o (i := i) (c := 0) (d := 2) rfl)
                          refine z_get (v := .ref (ad (i + 3))) C (lt_A0 hN rfl) hay1 hgy308 rfl inA_X10 2 (by decide) q_1461 rfl rfl dX10_becomes_163 ?_
                          refine z_iload_n C 1 dX10_becomes_166 rfl ?_
                          refine z_aload_n C 0 dX10_becomes_167 rfl ?_
                          refine z_get (v := .ref (ad (i + 17))) C (lt_A0 hN rfl) hay1 hgy308 rfl inA_X10 40 (by decide) q_1499 rfl rfl dX10_becomes_168 ?_
                          refine z_iload_n C 1 dX10_becomes_171 rfl ?_
                          have hgy309 := up_n egy33 ha17 (ne_o (i := i) (c := 17) (d := 0) rfl)
                          have hgy310 := up_n egy36 hgy309 (ne_o (i := i) (c := 17) (d := 0) rfl)
                          have hgy311 := (hfvy40 (i + 17) (ne_o (i := i) (c := 17) (d := 7) rfl)).trans hgy310
                          have hgy312 := (f3A (i + 17) (ne_o (i := i) (c := 17) (d := 7) rfl)).trans hgy311
                          have hgy313 := (f3B (i + 17) (ne_o (i := i) (c := 17) (d := 4) rfl) (ne_o (i := i) (c := 17) (d := 5) rfl) (ne_o (i := i) (c := 17) (d := 6) rfl)).trans hgy312
                          have hgy314 := (f3C (i + 17) (ne_o (i := i) (c := 17) (d := 1) rfl)).trans hgy313
                          have hgy315 := up_n egy49 hgy314 (ne_o (i := i) (c := 17) (d := 1) rfl)
                          have hgy316 := (f3D (i + 17) (ne_o (i := i) (c := 17) (d := 1) rfl) (ne_o (i := i) (c := 17) (d := 2) rfl) (ne_o (i := i) (c := 17) (d := 3) rfl)).trans hgy315
                          have hgy317 := up_n egy306 hgy316 (ne_o (i := i) (c := 17) (d := 2) rfl)
                          refine z_iald C (lt_A (c := 17) hN rfl) hay25 hgy317 (nkD) (by omega) (by omega) (by decide) dX10_becomes_172 ?_
                          have hrfy318 := hop1 (nkD) (by omega)
                          have hgy319 := up_n egy306 f2D_op9 (ne_o (i := i) (c := 3) (d := 2) rfl)
                          refine z_iast C (lt_A (c := 3) hN rfl) hay4 hgy319 (nkD) (by omega) (by omega) (by decide) dX10_becomes_173 (fun gy320 egy321 => ?_)
                          have hgy322 := up_s egy321
                          obtain ⟨ry323, hvy324⟩ : ∃ rZ9 : Nat → Int, rZ9 = uZ op9 (nkD) (op1 (nkD)) := ⟨_, rfl⟩
                          rw [← hvy324] at hgy322
                          refine z_aload_n C 0 dX10_becomes_174 rfl ?_
                          refine z_iconst (z := 0) C dX10_becomes_175 rfl ?_
                          refine z_iload_n C 1 dX10_becomes_176 rfl ?_
                          refine z_aload_n C 0 dX10_becomes_177 rfl ?_
                          have hgy325 := up_n egy321 hgy308 (ne_o (i := i) (c := 0) (d := 3) rfl)
                          refine z_get (v := .ref (ad (i + 18))) C (lt_A0 hN rfl) hay1 hgy325 rfl inA_X10 41 (by decide) q_1500 rfl rfl dX10_becomes_178 ?_
                          refine z_iload_n C 1 dX10_becomes_181 rfl ?_
                          have hgy326 := up_n egy33 ha18 (ne_o (i := i) (c := 18) (d := 0) rfl)
                          have hgy327 := up_n egy36 hgy326 (ne_o (i := i) (c := 18) (d := 0) rfl)
                          have hgy328 := (hfvy40 (i + 18) (ne_o (i := i) (c := 18) (d := 7) rfl)).trans hgy327
                          have hgy329 := (f3A (i + 18) (ne_o (i := i) (c := 18) (d := 7) rfl)).trans hgy328
                          have hgy330 := (f3B (i + 18) (ne_o (i := i) (c := 18) (d := 4) rfl) (ne_o (i := i) (c := 18) (d := 5) rfl) (ne_o (i := i) (c := 18) (d := 6) rfl)).trans hgy329
                          have hgy331 := (f3C (i + 18) (ne_o (i := i) (c := 18) (d := 1) rfl)).trans hgy330
                          have hgy332 := up_n egy49 hgy331 (ne_o (i := i) (c := 18) (d := 1) rfl)
                          have hgy333 := (f3D (i + 18) (ne_o (i := i) (c := 18) (d := 1) rfl) (ne_o (i := i) (c := 18) (d := 2) rfl) (ne_o (i := i) (c := 18) (d := 3) rfl)).trans hgy332
                          have hgy334 := up_n egy306 hgy333 (ne_o (i := i) (c := 18) (d := 2) rfl)
                          have hgy335 := up_n egy321 hgy334 (ne_o (i := i) (c := 18) (d := 3) rfl)
                          refine z_iald C (lt_A (c := 18) hN rfl) hay26 hgy335 (nkD) (by omega) (by omega) (by decide) dX10_becomes_182 ?_
                          have hrfy336 := hmn1 (nkD) (by omega)
                          obtain ⟨ny337, hny337⟩ : ∃ n9 : Nat, sd = (n9 : Int) := ⟨(sd).toNat, by omega⟩
                          rw [hny337]
                          obtain ⟨py338, hpy338⟩ : ∃ p9 : Nat, 0 + 6 + 86 * ny337 = p9 := ⟨_, rfl⟩
                          have hgy339 := up_n egy306 f2D_rd9 (ne_o (i := i) (c := 1) (d := 2) rfl)
                          have hgy340 := up_n egy321 hgy339 (ne_o (i := i) (c := 1) (d := 3) rfl)
                          refine z_cV (As := [.int (zI (0)), .int (zI ((ny337 : Int))), .int (zI (mn1 (nkD)))]) (rest := []) (ci := 12) C (c_X10_setsMany l D A cs tt N ad _ i hN _ hgy325 _ hgy340 0 ny337 py338 hpy338 (by omega) (by omega) (mn1 (nkD))) (lt_A0 hN rfl) hay1 hgy325 rfl rfl mv_yX10_setsMany q_1717 hd_yX10_setsMany (by decide) (Nat.le_of_ble_eq_true rfl) (by decide) dX10_becomes_183 rfl (kV0 fun gvy341 hvy341 => ?_)
                          obtain ⟨hcvy341, hfvy341⟩ := hvy341
                          obtain ⟨ry342, hvy343⟩ : ∃ rZ9 : Nat → Int, rZ9 = uZ rd9 (py338) (mn1 (nkD)) := ⟨_, rfl⟩
                          rw [← hvy343] at hcvy341
                          refine z_iconst (z := 0) C dX10_becomes_186 rfl ?_
                          refine z_istore_n (lv' := [(2, .int (zI (0))), (0, .ref (ad i)), (1, .int (zI ((ny337 : Int))))]) C dX10_becomes_187 rfl (by decide) rfl ?_
                          have hfry344 : ∀ j, j ≠ py338 → ry342 j = rd9 j := fun j n0 => (congrFun hvy343 _).trans ((uZ_n _ _ n0).trans (rfl))
                          have hwy345 : ry342 (py338) = mn1 (nkD) := (congrFun hvy343 _).trans (uZ_s _ _ _)
                          have hnD : nkD = ny337 := by omega
                          have hmE : ry342 py338 = mn1 ny337 := by rw [← hnD]; omega
                          have hmr := hmn1 ny337 (by omega)
                          have hopE : ∀ k, k < 4 → 0 ≤ ry323 k ∧ ry323 k ≤ 20 := fun k hk => by rw [hvy324]; exact uZ_any fDo (by omega) k hk
                          have hdE : ∀ k : Nat, (k : Int) < (ny337 : Int) + 1 → (uZ (st9) (nkD) (st1 (nkD))) k = st1 k ∧ ry323 k = op1 k := fun k hk => by rw [hvy324]; by_cases e : k = nkD; (rw [e, uZ_s, uZ_s]; exact ⟨rfl, rfl⟩); (rw [uZ_n _ _ e, uZ_n _ _ e]; exact fDe k (by omega))
                          have E : ∀ (n9 : Nat) (ke : Int) (re9 : Nat → Int) (g1 : Nat → va_E), (85 - ke).toNat = n9 → (g1 (i + 1) = iA cs 29200 re9) → (∀ j, j ≠ i + 1 → g1 j = gvy341 j) → (∀ k : Nat, (k : Int) < ke → re9 (py338 + 2 + k) = ly1 (84 * ny337 + k)) → (∀ j, (j < py338 + 2 ∨ py338 + 86 ≤ j) → re9 j = ry342 j) → (0 ≤ ke ∧ ke ≤ 84) → zV pZ l eZ ({ frames := 2, cells := 0, slots := 0, locals := 120 } : Room) sZ mZ ([.ref (ad i)] : List Value).toArray below meth cZ (MQ below (zPost D A (rV0 N ad fun g' => (∃ F' r' st' op' ai' fa' mu' tb' : Nat → Int, okMr cs ad g' i x F' r' st' op' ai' fa' mu' tb' tp ∧ (F' 13 = s.1 ∧ F' 14 = s.2.1 ∧ F' 15 = 0 ∧ F' 16 = 0 ∧ F' 17 = 0 ∧ F' 18 = F 18 ∧ F' 19 = F 19 ∧ F' 20 = F 20 ∧ F' 21 = 0 ∧ F' 23 = F 23 ∧ F' 24 = F 24) ∧ (F' 25 = F 25 ∧ F' 26 = F 26 ∧ F' 27 = F 27 ∧ F' 29 = F 29) ∧ F' 12 = F 12 ∧ dT s st' op' ai' fa' mu' tb' ∧ rwT s r' ∧ ∀ j, 350 ≤ j → r' j = r j) ∧ ∀ j, j < i ∨ i + 30 ≤ j ∨ (i + 8 ≤ j ∧ j ≤ i + 12) → g' j = g j)) ([.ref (ad i)] : List Value).toArray sZ ({ frames := 2, cells := 0, slots := 0, locals := 120 } : Room).cells ({ frames := 2, cells := 0, slots := 0, locals := 120 } : Room).slots A) D A 3 (N) ad g1 (0) (0) 188 [(0, .ref (ad i)), (1, .int (zI ((ny337 : Int)))), (2, .int (zI (ke)))] [] := by
                            intro n9
                            induction n9 using Nat.strongRecOn with
                            | ind n9 ih_E =>
                              intro ke re9 g1 hm9 f2E_re9 f3E fE1 fE2 hvkE
                              obtain ⟨nkE, hnkE⟩ : ∃ n9 : Nat, ke = (n9 : Int) := ⟨ke.toNat, by omega⟩
                              obtain ⟨nj, hnj⟩ : ∃ n9 : Nat, py338 + 2 + nkE = n9 := ⟨_, rfl⟩
                              obtain ⟨nl, hnl⟩ : ∃ n9 : Nat, 84 * ny337 + nkE = n9 := ⟨_, rfl⟩
                              refine z_iload_n C 2 dX10_becomes_188 rfl ?_
                              refine z_bipush (z := 84) C dX10_becomes_189 (by decide) ?_
                              refine z_icmp_ge (tgt := 227) C dX10_becomes_191 (by decide) (by omega) (by omega) (fun hby346 => ?_) (fun hby346 => ?_)
                              · refine z_iinc (z := (ny337 : Int) + 1) (lv' := [(1, .int (zI ((ny337 : Int) + 1))), (0, .ref (ad i)), (2, .int (zI (ke)))]) (j := 1) C dX10_becomes_227 rfl rfl (by decide) rfl ?_
                                refine z_goto (tgt := 142) C dX10_becomes_230 (by decide) ?_
                                have hokE : okS re9 py338 2400 12000 := okS.ofT (ly1 := ly1) (q0 := 84 * ny337) (m := mn1 ny337) ((fE2 py338 (by omega)).trans hmE) hmr (fun l hl => hly1 ny337 l (by omega) hl) (fun k hk => fE1 k (by omega))
                                have hfr9 : ∀ j, j < py338 ∨ py338 + 86 ≤ j → re9 j = rd9 j := fun j a => (fE2 j (by omega)).trans (hfry344 j (by omega))
                                have hDh9 : re9 2 = 0 ∧ re9 3 = 0 ∧ re9 4 = 0 := ⟨(hfr9 2 (by omega)).trans fDh.1, (hfr9 3 (by omega)).trans fDh.2.1, (hfr9 4 (by omega)).trans fDh.2.2⟩
                                have hDw9 : ∀ s : Nat, s < 4 → ((s : Int) < (ny337 : Int) + 1 → re9 (6 + 86 * s) = mn1 s ∧ re9 (6 + 86 * s + 1) = 0 ∧ ∀ m, m < 84 → re9 (6 + 86 * s + 2 + m) = ly1 (84 * s + m)) ∧ ((ny337 : Int) + 1 ≤ (s : Int) → re9 (6 + 86 * s + 1) = 0) := by
                                  intro s hs
                                  by_cases e : s = ny337
                                  · refine ⟨fun _ => ⟨?_, ?_, fun m hm => ?_⟩, fun h => absurd h (by omega)⟩
                                    · rw [show 6 + 86 * s = py338 by omega, e]; exact (fE2 py338 (by omega)).trans hmE
                                    · rw [show 6 + 86 * s + 1 = py338 + 1 by omega]; exact (fE2 (py338 + 1) (by omega)).trans ((hfry344 (py338 + 1) (by omega)).trans (by have h9 := (fDw ny337 (by omega)).2 (by omega); rw [show 6 + 86 * ny337 + 1 = py338 + 1 by omega] at h9; exact h9))
                                    · rw [show 6 + 86 * s + 2 + m = py338 + 2 + m by omega, e]; exact fE1 m (by omega)
                                  · exact ⟨fun h => by have h9 := (fDw s hs).1 (by omega); exact ⟨(hfr9 _ (by omega)).trans h9.1, (hfr9 _ (by omega)).trans h9.2.1, fun m hm => (hfr9 _ (by omega)).trans (h9.2.2 m hm)⟩, fun h => (hfr9 _ (by omega)).trans ((fDw s hs).2 (by omega))⟩
                                have hgy347 := up_n egy321 hgy307 (ne_o (i := i) (c := 2) (d := 3) rfl)
                                have hgy348 := (hfvy341 (i + 2) (ne_o (i := i) (c := 2) (d := 1) rfl)).trans hgy347
                                have hgy349 := (f3E (i + 2) (ne_o (i := i) (c := 2) (d := 1) rfl)).trans hgy348
                                have hgy350 := (hfvy341 (i + 3) (ne_o (i := i) (c := 3) (d := 1) rfl)).trans hgy322
                                have hgy351 := (f3E (i + 3) (ne_o (i := i) (c := 3) (d := 1) rfl)).trans hgy350
                                refine z_lv (lv' := [(0, .ref (ad i)), (1, .int (zI ((ny337 : Int) + 1)))]) [1, 0] rfl ?_
                                exact ih_D _ (by omega) ((ny337 : Int) + 1) (re9) (uZ (st9) (nkD) (st1 (nkD))) (ry323) g1 rfl f2E_re9 hgy349 hgy351 (fun j j1 j2 j3 => by rw [f3E _ (by omega)]; rw [hfvy341 _ (by omega)]; rw [egy321, va_up_ne _ _ (by omega)]; rw [egy306, va_up_ne _ _ (by omega)]; exact f3D j j1 j2 j3) hopE hdE ((hfr9 0 (by omega)).trans fD0) ((hfr9 1 (by omega)).trans fD1) ((hfr9 5 (by omega)).trans fD5) (fun j a => (hfr9 j (by omega)).trans (fDr j a)) (fun s hs => by
                                    by_cases e : s = ny337
                                    · subst e; exact ⟨fun _ => hokE.of (by omega), fun h => absurd h (by omega)⟩
                                    · exact ⟨fun h => ((fDs s hs).1 (by omega)).ext (fun j b1 b2 => hfr9 j (by omega)), fun h => (hfr9 (6 + 86 * s) (by omega)).trans ((fDs s hs).2 (by omega))⟩) hDh9 hDw9 (by omega)
                              · refine z_aload_n C 0 dX10_becomes_194 rfl ?_
                                have hgy352 := (hfvy341 (i) (ne_o (i := i) (c := 0) (d := 1) rfl)).trans hgy325
                                have hgy353 := (f3E (i) (ne_o (i := i) (c := 0) (d := 1) rfl)).trans hgy352
                                refine z_get (v := .ref (ad (i + 1))) C (lt_A0 hN rfl) hay1 hgy353 rfl inA_X10 0 (by decide) q_1459 rfl rfl dX10_becomes_195 ?_
                                refine z_bipush (z := 6) C dX10_becomes_198 (by decide) ?_
                                refine z_bipush (z := 86) C dX10_becomes_200 (by decide) ?_
                                refine z_iload_n C 1 dX10_becomes_202 rfl ?_
                                refine z_imul C dX10_becomes_203 ?_
                                refine z_iadd C dX10_becomes_204 ?_
                                refine z_iconst (z := 2) C dX10_becomes_205 rfl ?_
                                refine z_iadd C dX10_becomes_206 ?_
                                refine z_iload_n C 2 dX10_becomes_207 rfl ?_
                                refine z_iadd C dX10_becomes_208 ?_
                                refine z_aload_n C 0 dX10_becomes_209 rfl ?_
                                refine z_get (v := .ref (ad (i + 23))) C (lt_A0 hN rfl) hay1 hgy353 rfl inA_X10 46 (by decide) q_1505 rfl rfl dX10_becomes_210 ?_
                                refine z_bipush (z := 84) C dX10_becomes_213 (by decide) ?_
                                refine z_iload_n C 1 dX10_becomes_215 rfl ?_
                                refine z_imul C dX10_becomes_216 ?_
                                refine z_iload_n C 2 dX10_becomes_217 rfl ?_
                                refine z_iadd C dX10_becomes_218 ?_
                                have hgy354 := up_n egy33 ha23 (ne_o (i := i) (c := 23) (d := 0) rfl)
                                have hgy355 := up_n egy36 hgy354 (ne_o (i := i) (c := 23) (d := 0) rfl)
                                have hgy356 := (hfvy40 (i + 23) (ne_o (i := i) (c := 23) (d := 7) rfl)).trans hgy355
                                have hgy357 := (f3A (i + 23) (ne_o (i := i) (c := 23) (d := 7) rfl)).trans hgy356
                                have hgy358 := (f3B (i + 23) (ne_o (i := i) (c := 23) (d := 4) rfl) (ne_o (i := i) (c := 23) (d := 5) rfl) (ne_o (i := i) (c := 23) (d := 6) rfl)).trans hgy357
                                have hgy359 := (f3C (i + 23) (ne_o (i := i) (c := 23) (d := 1) rfl)).trans hgy358
                                have hgy360 := up_n egy49 hgy359 (ne_o (i := i) (c := 23) (d := 1) rfl)
                                have hgy361 := (f3D (i + 23) (ne_o (i := i) (c := 23) (d := 1) rfl) (ne_o (i := i) (c := 23) (d := 2) rfl) (ne_o (i := i) (c := 23) (d := 3) rfl)).trans hgy360
                                have hgy362 := up_n egy306 hgy361 (ne_o (i := i) (c := 23) (d := 2) rfl)
                                have hgy363 := up_n egy321 hgy362 (ne_o (i := i) (c := 23) (d := 3) rfl)
                                have hgy364 := (hfvy341 (i + 23) (ne_o (i := i) (c := 23) (d := 1) rfl)).trans hgy363
                                have hgy365 := (f3E (i + 23) (ne_o (i := i) (c := 23) (d := 1) rfl)).trans hgy364
                                refine z_iald C (lt_A (c := 23) hN rfl) hay31 hgy365 (nl) (by omega) (by omega) (by decide) dX10_becomes_219 ?_
                                refine z_iast C (lt_A (c := 1) hN rfl) hay2 f2E_re9 (nj) (by omega) (by omega) (by decide) dX10_becomes_220 (fun gy366 egy367 => ?_)
                                have hgy368 := up_s egy367
                                obtain ⟨ry369, hvy370⟩ : ∃ rZ9 : Nat → Int, rZ9 = uZ re9 (nj) (ly1 (nl)) := ⟨_, rfl⟩
                                rw [← hvy370] at hgy368
                                refine z_iinc (z := ke + 1) (lv' := [(2, .int (zI (ke + 1))), (0, .ref (ad i)), (1, .int (zI ((ny337 : Int))))]) (j := 2) C dX10_becomes_221 rfl rfl (by decide) rfl ?_
                                refine z_goto (tgt := 188) C dX10_becomes_224 (by decide) ?_
                                refine z_lv (lv' := [(0, .ref (ad i)), (1, .int (zI ((ny337 : Int)))), (2, .int (zI (ke + 1)))]) [1, 2, 0] rfl ?_
                                exact ih_E _ (by omega) (ke + 1) ry369 gy366 rfl hgy368 (fun j j1 => by rw [egy367, va_up_ne _ _ (by omega)]; exact f3E j j1) (fun k a => by rw [hvy370]; by_cases e : k = nkE; (subst e; rw [show py338 + 2 + k = nj by omega, uZ_s, show 84 * ny337 + k = nl by omega]); (rw [uZ_n _ _ (by omega)]; exact fE1 k (by omega))) (fun j a => by rw [hvy370, uZ_n _ _ (by omega)]; exact fE2 j (by omega)) (by omega)
                          refine z_lv (lv' := [(0, .ref (ad i)), (1, .int (zI ((ny337 : Int)))), (2, .int (zI (0)))]) [1, 2, 0] rfl ?_
                          exact E _ (0) ry342 gvy341 rfl hcvy341 (fun j _ => rfl) (fun k a => absurd a (by omega)) (fun j _ => rfl) (by omega)
                    have hgy371 := up_n egy33 ha2 (ne_o (i := i) (c := 2) (d := 0) rfl)
                    have hgy372 := up_n egy36 hgy371 (ne_o (i := i) (c := 2) (d := 0) rfl)
                    have hgy373 := (hfvy40 (i + 2) (ne_o (i := i) (c := 2) (d := 7) rfl)).trans hgy372
                    have hgy374 := (f3A (i + 2) (ne_o (i := i) (c := 2) (d := 7) rfl)).trans hgy373
                    have hgy375 := (f3B (i + 2) (ne_o (i := i) (c := 2) (d := 4) rfl) (ne_o (i := i) (c := 2) (d := 5) rfl) (ne_o (i := i) (c := 2) (d := 6) rfl)).trans hgy374
                    have hgy376 := (f3C (i + 2) (ne_o (i := i) (c := 2) (d := 1) rfl)).trans hgy375
                    have hgy377 := up_n egy49 hgy376 (ne_o (i := i) (c := 2) (d := 1) rfl)
                    have hgy378 := up_n egy33 ha3 (ne_o (i := i) (c := 3) (d := 0) rfl)
                    have hgy379 := up_n egy36 hgy378 (ne_o (i := i) (c := 3) (d := 0) rfl)
                    have hgy380 := (hfvy40 (i + 3) (ne_o (i := i) (c := 3) (d := 7) rfl)).trans hgy379
                    have hgy381 := (f3A (i + 3) (ne_o (i := i) (c := 3) (d := 7) rfl)).trans hgy380
                    have hgy382 := (f3B (i + 3) (ne_o (i := i) (c := 3) (d := 4) rfl) (ne_o (i := i) (c := 3) (d := 5) rfl) (ne_o (i := i) (c := 3) (d := 6) rfl)).trans hgy381
                    have hgy383 := (f3C (i + 3) (ne_o (i := i) (c := 3) (d := 1) rfl)).trans hgy382
                    have hgy384 := up_n egy49 hgy383 (ne_o (i := i) (c := 3) (d := 1) rfl)
                    refine z_lv (lv' := [(0, .ref (ad i)), (1, .int (zI (0)))]) [1, 0] rfl ?_
                    exact D _ (0) ry51 st op gy48 rfl hgy50 hgy377 hgy384 (fun j _ _ _ => rfl) (fun k hk => hop k hk) (fun k a => absurd a (by omega)) ((hfry53 0 (by omega)).trans (fCz 0 (by omega))) (by omega) ((hfry53 5 (by omega)).trans (fCz 5 (by omega))) (fun j a => (hfry53 j (by omega)).trans (fCr j (by omega))) (fun s hs => ⟨fun h => absurd h (by omega), fun _ => (hfry53 _ (by omega)).trans (fCz _ (by omega))⟩) ⟨(hfry53 2 (by omega)).trans (fCz 2 (by omega)), (hfry53 3 (by omega)).trans (fCz 3 (by omega)), (hfry53 4 (by omega)).trans (fCz 4 (by omega))⟩ (fun s hs => ⟨fun h => absurd h (by omega), fun _ => (hfry53 _ (by omega)).trans (fCz _ (by omega))⟩) (by omega)
                  · refine z_aload_n C 0 dX10_becomes_117 rfl ?_
                    have hgy385 := (f3C (i) (ne_o (i := i) (c := 0) (d := 1) rfl)).trans hgy44
                    refine z_get (v := .ref (ad (i + 1))) C (lt_A0 hN rfl) hay1 hgy385 rfl inA_X10 0 (by decide) q_1459 rfl rfl dX10_becomes_118 ?_
                    refine z_iload_n C 1 dX10_becomes_121 rfl ?_
                    refine z_iconst (z := 0) C dX10_becomes_122 rfl ?_
                    refine z_iast C (lt_A (c := 1) hN rfl) hay2 f2C_r9 (nkC) (by omega) (by omega) (by decide) dX10_becomes_123 (fun gy386 egy387 => ?_)
                    have hgy388 := up_s egy387
                    obtain ⟨ry389, hvy390⟩ : ∃ rZ9 : Nat → Int, rZ9 = uZ r9 (nkC) (0) := ⟨_, rfl⟩
                    rw [← hvy390] at hgy388
                    refine z_iinc (z := kc + 1) (lv' := [(1, .int (zI (kc + 1))), (0, .ref (ad i))]) (j := 1) C dX10_becomes_124 rfl rfl (by decide) rfl ?_
                    refine z_goto (tgt := 110) C dX10_becomes_127 (by decide) ?_
                    refine z_lv (lv' := [(0, .ref (ad i)), (1, .int (zI (kc + 1)))]) [1, 0] rfl ?_
                    exact ih_C _ (by omega) (kc + 1) ry389 gy386 rfl hgy388 (fun j j1 => by rw [egy387, va_up_ne _ _ (by omega)]; exact f3C j j1) (fun j a => by rw [hvy390]; by_cases e : j = nkC; (rw [e, uZ_s]); (rw [uZ_n _ _ e]; exact fCz j (by omega))) (fun j a => by rw [hvy390, uZ_n _ _ (by omega)]; exact fCr j (by omega)) (by omega)
              have hgy391 := up_n egy33 ha1 (ne_o (i := i) (c := 1) (d := 0) rfl)
              have hgy392 := up_n egy36 hgy391 (ne_o (i := i) (c := 1) (d := 0) rfl)
              have hgy393 := (hfvy40 (i + 1) (ne_o (i := i) (c := 1) (d := 7) rfl)).trans hgy392
              have hgy394 := (f3A (i + 1) (ne_o (i := i) (c := 1) (d := 7) rfl)).trans hgy393
              have hgy395 := (f3B (i + 1) (ne_o (i := i) (c := 1) (d := 4) rfl) (ne_o (i := i) (c := 1) (d := 5) rfl) (ne_o (i := i) (c := 1) (d := 6) rfl)).trans hgy394
              refine z_lv (lv' := [(0, .ref (ad i)), (1, .int (zI (0)))]) [1, 0] rfl ?_
              exact C _ (0) r g1C rfl hgy395 (fun j _ => rfl) (fun j a => absurd a (by omega)) (fun j _ => rfl) (by omega)
            · refine z_aload_n C 0 dX10_becomes_66 rfl ?_
              refine z_get (v := .ref (ad (i + 4))) C (lt_A0 hN rfl) hay1 hgy44 rfl inA_X10 3 (by decide) q_1462 rfl rfl dX10_becomes_67 ?_
              refine z_iload_n C 1 dX10_becomes_70 rfl ?_
              refine z_aload_n C 0 dX10_becomes_71 rfl ?_
              refine z_get (v := .ref (ad (i + 19))) C (lt_A0 hN rfl) hay1 hgy44 rfl inA_X10 42 (by decide) q_1501 rfl rfl dX10_becomes_72 ?_
              refine z_iload_n C 1 dX10_becomes_75 rfl ?_
              have hgy396 := up_n egy33 ha19 (ne_o (i := i) (c := 19) (d := 0) rfl)
              have hgy397 := up_n egy36 hgy396 (ne_o (i := i) (c := 19) (d := 0) rfl)
              have hgy398 := (hfvy40 (i + 19) (ne_o (i := i) (c := 19) (d := 7) rfl)).trans hgy397
              have hgy399 := (f3A (i + 19) (ne_o (i := i) (c := 19) (d := 7) rfl)).trans hgy398
              have hgy400 := (f3B (i + 19) (ne_o (i := i) (c := 19) (d := 4) rfl) (ne_o (i := i) (c := 19) (d := 5) rfl) (ne_o (i := i) (c := 19) (d := 6) rfl)).trans hgy399
              refine z_iald C (lt_A (c := 19) hN rfl) hay27 hgy400 (nkB) (by omega) (by omega) (by decide) dX10_becomes_76 ?_
              have htky401 := hai1 nkB (by omega)
              refine z_iast C (lt_A (c := 4) hN rfl) hay5 f2B_a9 (nkB) (by omega) (by omega) (by decide) dX10_becomes_77 (fun gy402 egy403 => ?_)
              have hgy404 := up_s egy403
              obtain ⟨ry405, hvy406⟩ : ∃ rZ9 : Nat → Int, rZ9 = uZ a9 (nkB) (ai1 (nkB)) := ⟨_, rfl⟩
              rw [← hvy406] at hgy404
              refine z_aload_n C 0 dX10_becomes_78 rfl ?_
              have hgy407 := up_n egy403 hgy44 (ne_o (i := i) (c := 0) (d := 4) rfl)
              refine z_get (v := .ref (ad (i + 5))) C (lt_A0 hN rfl) hay1 hgy407 rfl inA_X10 4 (by decide) q_1463 rfl rfl dX10_becomes_79 ?_
              refine z_iload_n C 1 dX10_becomes_82 rfl ?_
              refine z_aload_n C 0 dX10_becomes_83 rfl ?_
              refine z_get (v := .ref (ad (i + 20))) C (lt_A0 hN rfl) hay1 hgy407 rfl inA_X10 43 (by decide) q_1502 rfl rfl dX10_becomes_84 ?_
              refine z_iload_n C 1 dX10_becomes_87 rfl ?_
              have hgy408 := up_n egy33 ha20 (ne_o (i := i) (c := 20) (d := 0) rfl)
              have hgy409 := up_n egy36 hgy408 (ne_o (i := i) (c := 20) (d := 0) rfl)
              have hgy410 := (hfvy40 (i + 20) (ne_o (i := i) (c := 20) (d := 7) rfl)).trans hgy409
              have hgy411 := (f3A (i + 20) (ne_o (i := i) (c := 20) (d := 7) rfl)).trans hgy410
              have hgy412 := (f3B (i + 20) (ne_o (i := i) (c := 20) (d := 4) rfl) (ne_o (i := i) (c := 20) (d := 5) rfl) (ne_o (i := i) (c := 20) (d := 6) rfl)).trans hgy411
              have hgy413 := up_n egy403 hgy412 (ne_o (i := i) (c := 20) (d := 4) rfl)
              refine z_iald C (lt_A (c := 20) hN rfl) hay28 hgy413 (nkB) (by omega) (by omega) (by decide) dX10_becomes_88 ?_
              have htky414 := hfa1 nkB (by omega)
              have hgy415 := up_n egy403 f2B_fa9 (ne_o (i := i) (c := 5) (d := 4) rfl)
              refine z_iast C (lt_A (c := 5) hN rfl) hay6 hgy415 (nkB) (by omega) (by omega) (by decide) dX10_becomes_89 (fun gy416 egy417 => ?_)
              have hgy418 := up_s egy417
              obtain ⟨ry419, hvy420⟩ : ∃ rZ9 : Nat → Int, rZ9 = uZ fa9 (nkB) (fa1 (nkB)) := ⟨_, rfl⟩
              rw [← hvy420] at hgy418
              refine z_aload_n C 0 dX10_becomes_90 rfl ?_
              have hgy421 := up_n egy417 hgy407 (ne_o (i := i) (c := 0) (d := 5) rfl)
              refine z_get (v := .ref (ad (i + 6))) C (lt_A0 hN rfl) hay1 hgy421 rfl inA_X10 5 (by decide) q_1464 rfl rfl dX10_becomes_91 ?_
              refine z_iload_n C 1 dX10_becomes_94 rfl ?_
              refine z_aload_n C 0 dX10_becomes_95 rfl ?_
              refine z_get (v := .ref (ad (i + 21))) C (lt_A0 hN rfl) hay1 hgy421 rfl inA_X10 44 (by decide) q_1503 rfl rfl dX10_becomes_96 ?_
              refine z_iload_n C 1 dX10_becomes_99 rfl ?_
              have hgy422 := up_n egy33 ha21 (ne_o (i := i) (c := 21) (d := 0) rfl)
              have hgy423 := up_n egy36 hgy422 (ne_o (i := i) (c := 21) (d := 0) rfl)
              have hgy424 := (hfvy40 (i + 21) (ne_o (i := i) (c := 21) (d := 7) rfl)).trans hgy423
              have hgy425 := (f3A (i + 21) (ne_o (i := i) (c := 21) (d := 7) rfl)).trans hgy424
              have hgy426 := (f3B (i + 21) (ne_o (i := i) (c := 21) (d := 4) rfl) (ne_o (i := i) (c := 21) (d := 5) rfl) (ne_o (i := i) (c := 21) (d := 6) rfl)).trans hgy425
              have hgy427 := up_n egy403 hgy426 (ne_o (i := i) (c := 21) (d := 4) rfl)
              have hgy428 := up_n egy417 hgy427 (ne_o (i := i) (c := 21) (d := 5) rfl)
              refine z_iald C (lt_A (c := 21) hN rfl) hay29 hgy428 (nkB) (by omega) (by omega) (by decide) dX10_becomes_100 ?_
              have htky429 := hfa1 nkB (by omega)
              have hgy430 := up_n egy403 f2B_m9 (ne_o (i := i) (c := 6) (d := 4) rfl)
              have hgy431 := up_n egy417 hgy430 (ne_o (i := i) (c := 6) (d := 5) rfl)
              refine z_iast C (lt_A (c := 6) hN rfl) hay7 hgy431 (nkB) (by omega) (by omega) (by decide) dX10_becomes_101 (fun gy432 egy433 => ?_)
              have hgy434 := up_s egy433
              obtain ⟨ry435, hvy436⟩ : ∃ rZ9 : Nat → Int, rZ9 = uZ m9 (nkB) (mu1 (nkB)) := ⟨_, rfl⟩
              rw [← hvy436] at hgy434
              refine z_iinc (z := kb + 1) (lv' := [(1, .int (zI (kb + 1))), (0, .ref (ad i))]) (j := 1) C dX10_becomes_102 rfl rfl (by decide) rfl ?_
              refine z_goto (tgt := 58) C dX10_becomes_105 (by decide) ?_
              have hgy437 := up_n egy417 hgy404 (ne_o (i := i) (c := 4) (d := 5) rfl)
              have hgy438 := up_n egy433 hgy437 (ne_o (i := i) (c := 4) (d := 6) rfl)
              have hgy439 := up_n egy433 hgy418 (ne_o (i := i) (c := 5) (d := 6) rfl)
              refine z_lv (lv' := [(0, .ref (ad i)), (1, .int (zI (kb + 1)))]) [1, 0] rfl ?_
              exact ih_B _ (by omega) (kb + 1) ry405 ry419 ry435 gy432 rfl hgy438 hgy439 hgy434 (fun j j1 j2 j3 => by rw [egy433, va_up_ne _ _ (by omega)]; rw [egy417, va_up_ne _ _ (by omega)]; rw [egy403, va_up_ne _ _ (by omega)]; exact f3B j j1 j2 j3) (fun j hj => by rw [hvy406]; exact uZ_any fBa (by omega) j hj) (fun j hj => by rw [hvy420, hvy436]; by_cases e : j = nkB; (rw [e, uZ_s, uZ_s]; omega); (rw [uZ_n _ _ e, uZ_n _ _ e]; exact fBf j hj)) (fun j hj => by rw [hvy406, hvy420, hvy436]; by_cases e : j = nkB; (rw [e, uZ_s, uZ_s, uZ_s]; exact ⟨rfl, rfl, rfl⟩); (rw [uZ_n _ _ e, uZ_n _ _ e, uZ_n _ _ e]; exact fBe j (by omega))) (by omega)
        have hgy440 := up_n egy33 ha4 (ne_o (i := i) (c := 4) (d := 0) rfl)
        have hgy441 := up_n egy36 hgy440 (ne_o (i := i) (c := 4) (d := 0) rfl)
        have hgy442 := (hfvy40 (i + 4) (ne_o (i := i) (c := 4) (d := 7) rfl)).trans hgy441
        have hgy443 := (f3A (i + 4) (ne_o (i := i) (c := 4) (d := 7) rfl)).trans hgy442
        have hgy444 := up_n egy33 ha5 (ne_o (i := i) (c := 5) (d := 0) rfl)
        have hgy445 := up_n egy36 hgy444 (ne_o (i := i) (c := 5) (d := 0) rfl)
        have hgy446 := (hfvy40 (i + 5) (ne_o (i := i) (c := 5) (d := 7) rfl)).trans hgy445
        have hgy447 := (f3A (i + 5) (ne_o (i := i) (c := 5) (d := 7) rfl)).trans hgy446
        have hgy448 := up_n egy33 ha6 (ne_o (i := i) (c := 6) (d := 0) rfl)
        have hgy449 := up_n egy36 hgy448 (ne_o (i := i) (c := 6) (d := 0) rfl)
        have hgy450 := (hfvy40 (i + 6) (ne_o (i := i) (c := 6) (d := 7) rfl)).trans hgy449
        have hgy451 := (f3A (i + 6) (ne_o (i := i) (c := 6) (d := 7) rfl)).trans hgy450
        refine z_lv (lv' := [(0, .ref (ad i)), (1, .int (zI (0)))]) [1, 0] rfl ?_
        exact B _ (0) ai fa mu g1B rfl hgy443 hgy447 hgy451 (fun j _ _ _ => rfl) hai hfa (fun k a => absurd a (by omega)) (by omega)
      · refine z_aload_n C 0 dX10_becomes_28 rfl ?_
        have hgy452 := (hfvy40 (i) (ne_o (i := i) (c := 0) (d := 7) rfl)).trans hgy37
        have hgy453 := (f3A (i) (ne_o (i := i) (c := 0) (d := 7) rfl)).trans hgy452
        refine z_get (v := .ref (ad (i + 22))) C (lt_A0 hN rfl) hay1 hgy453 rfl inA_X10 45 (by decide) q_1504 rfl rfl dX10_becomes_29 ?_
        refine z_iload_n C 1 dX10_becomes_32 rfl ?_
        have hgy454 := up_n egy33 ha22 (ne_o (i := i) (c := 22) (d := 0) rfl)
        have hgy455 := up_n egy36 hgy454 (ne_o (i := i) (c := 22) (d := 0) rfl)
        have hgy456 := (hfvy40 (i + 22) (ne_o (i := i) (c := 22) (d := 7) rfl)).trans hgy455
        have hgy457 := (f3A (i + 22) (ne_o (i := i) (c := 22) (d := 7) rfl)).trans hgy456
        refine z_iald C (lt_A (c := 22) hN rfl) hay30 hgy457 (nkA) (by omega) (by omega) (by decide) dX10_becomes_33 ?_
        have htky458 := htb1 nkA (by omega)
        refine z_iconst (z := -1) C dX10_becomes_34 rfl ?_
        refine z_icmp_eq (tgt := 50) C dX10_becomes_35 (by decide) (by omega) (by omega) (fun hby459 => ?_) (fun hby459 => ?_)
        · refine z_iinc (z := ka + 1) (lv' := [(1, .int (zI (ka + 1))), (0, .ref (ad i))]) (j := 1) C dX10_becomes_50 rfl rfl (by decide) rfl ?_
          refine z_goto (tgt := 22) C dX10_becomes_53 (by decide) ?_
          refine z_lv (lv' := [(0, .ref (ad i)), (1, .int (zI (ka + 1)))]) [1, 0] rfl ?_
          exact ih_A _ (by omega) (ka + 1) t9 g1 rfl f2A_t9 f3A fTa (fun j hj => by by_cases e : j = nkA; (have h9 := fTe j hj; rw [e] at h9 ⊢; omega); (have h9 := fTe j hj; omega)) (by omega)
        · refine z_aload_n C 0 dX10_becomes_38 rfl ?_
          refine z_get (v := .ref (ad (i + 7))) C (lt_A0 hN rfl) hay1 hgy453 rfl inA_X10 6 (by decide) q_1465 rfl rfl dX10_becomes_39 ?_
          refine z_iload_n C 1 dX10_becomes_42 rfl ?_
          refine z_aload_n C 0 dX10_becomes_43 rfl ?_
          refine z_get (v := .ref (ad (i + 22))) C (lt_A0 hN rfl) hay1 hgy453 rfl inA_X10 45 (by decide) q_1504 rfl rfl dX10_becomes_44 ?_
          refine z_iload_n C 1 dX10_becomes_47 rfl ?_
          refine z_iald C (lt_A (c := 22) hN rfl) hay30 hgy457 (nkA) (by omega) (by omega) (by decide) dX10_becomes_48 ?_
          have htky460 := htb1 nkA (by omega)
          refine z_iast C (lt_A (c := 7) hN rfl) hay8 f2A_t9 (nkA) (by omega) (by omega) (by decide) dX10_becomes_49 (fun gy461 egy462 => ?_)
          have hgy463 := up_s egy462
          obtain ⟨ry464, hvy465⟩ : ∃ rZ9 : Nat → Int, rZ9 = uZ t9 (nkA) (tb1 (nkA)) := ⟨_, rfl⟩
          rw [← hvy465] at hgy463
          refine z_iinc (z := ka + 1) (lv' := [(1, .int (zI (ka + 1))), (0, .ref (ad i))]) (j := 1) C dX10_becomes_50 rfl rfl (by decide) rfl ?_
          refine z_goto (tgt := 22) C dX10_becomes_53 (by decide) ?_
          refine z_lv (lv' := [(0, .ref (ad i)), (1, .int (zI (ka + 1)))]) [1, 0] rfl ?_
          exact ih_A _ (by omega) (ka + 1) ry464 gy461 rfl hgy463 (fun j j1 => by rw [egy462, va_up_ne _ _ (by omega)]; exact f3A j j1) (fun j hj => by rw [hvy465]; by_cases e : j = nkA; (rw [e, uZ_s]; exact ⟨by omega, fun _ => by omega⟩); (rw [uZ_n _ _ e]; exact fTa j hj)) (fun j hj => by rw [hvy465]; by_cases e : j = nkA; (rw [e, uZ_s]; omega); (rw [uZ_n _ _ e]; have h9 := fTe j hj; omega)) (by omega)
  refine z_lv (lv' := [(0, .ref (ad i)), (1, .int (zI (0)))]) [1, 0] rfl ?_
  exact A _ (0) rvy40 gvy40 rfl hdvy40 (fun j _ => rfl) (fun j hj => by rw [htvy40 j hj]; exact tabOK ⟨j, hj⟩) (fun j hj => Or.inl ⟨htvy40 j hj, fun h9 => absurd h9 (by omega)⟩) (by omega)
end
section
-- 99s.words.lean.txt
-- words of refsnow
theorem q_1670 : (Jvm.Cond.methodLink "SnowRecorderModel" (327 : Nat) ({ cls := "SnowRecorderModel", name := "clause1", desc := "()V" } : Jvm.MethodName)) ∈ AW := AW_m7 230 (by decide +kernel) (by decide +kernel)
theorem q_1672 : (Jvm.Cond.instanceMethod ({ cls := "SnowRecorderModel", name := "clause1", desc := "()V" } : Jvm.MethodName)) ∈ AW := AW_m7 232 (by decide +kernel) (by decide +kernel)
theorem q_1673 : (Jvm.Cond.code ({ cls := "SnowRecorderModel", name := "clause1", desc := "()V" } : Jvm.MethodName) prog_12_method_58_code (2 : Nat) (Option.none : Option Jvm.ClassFile.FieldType)) ∈ AW := AW_m7 233 (by decide +kernel) (by decide +kernel)
theorem q_1713 : (Jvm.Cond.methodLink "SnowRecorderModel" (330 : Nat) ({ cls := "SnowRecorderModel", name := "becomes", desc := "()V" } : Jvm.MethodName)) ∈ AW := AW_m8 33 (by decide +kernel) (by decide +kernel)
theorem q_1715 : (Jvm.Cond.instanceMethod ({ cls := "SnowRecorderModel", name := "becomes", desc := "()V" } : Jvm.MethodName)) ∈ AW := AW_m8 35 (by decide +kernel) (by decide +kernel)
theorem q_1716 : (Jvm.Cond.code ({ cls := "SnowRecorderModel", name := "becomes", desc := "()V" } : Jvm.MethodName) prog_12_method_61_code (3 : Nat) (Option.none : Option Jvm.ClassFile.FieldType)) ∈ AW := AW_m8 36 (by decide +kernel) (by decide +kernel)
theorem s_44 : Cond.selects "SnowRecorderModel" ({ cls := "SnowRecorderModel", name := "clause1", desc := "()V" } : Jvm.MethodName) ({ cls := "SnowRecorderModel", name := "clause1", desc := "()V" } : Jvm.MethodName) ∈ AW := AW_m 44 (by decide +kernel) (by decide +kernel)
theorem s_54 : Cond.selects "SnowRecorderModel" ({ cls := "SnowRecorderModel", name := "becomes", desc := "()V" } : Jvm.MethodName) ({ cls := "SnowRecorderModel", name := "becomes", desc := "()V" } : Jvm.MethodName) ∈ AW := AW_m 54 (by decide +kernel) (by decide +kernel)
theorem hd_yX10_becomes : yX10_becomes.cls ≠ "java/lang/invoke/MethodHandle" ∧ yX10_becomes.cls ≠ "java/lang/invoke/VarHandle" ∧ (parseMethodDescriptor yX10_becomes.desc).map (fun d => d.parameters.length) = some 0 := by decide +kernel
theorem hd_yX10_clause1 : yX10_clause1.cls ≠ "java/lang/invoke/MethodHandle" ∧ yX10_clause1.cls ≠ "java/lang/invoke/VarHandle" ∧ (parseMethodDescriptor yX10_clause1.desc).map (fun d => d.parameters.length) = some 0 := by decide +kernel
theorem mv_yX10_becomes : zWv yX10_becomes cX10_becomes 3 none := ⟨q_1715, s_54, q_15, q_1716⟩
theorem mv_yX10_clause1 : zWv yX10_clause1 cX10_clause1 2 none := ⟨q_1672, s_44, q_15, q_1673⟩
end
section
-- 99t.dec.lean.txt
-- decode rows of refsnow
theorem dX10_snow_0 : decode cX10_snow 0 = .ok (.aload_n 0, 1) := by decide +kernel
theorem dX10_snow_1 : decode cX10_snow 1 = .ok (.iconst 0, 1) := by decide +kernel
theorem dX10_snow_2 : decode cX10_snow 2 = .ok (.putfield 110, 3) := by decide +kernel
theorem dX10_snow_5 : decode cX10_snow 5 = .ok (.aload_n 0, 1) := by decide +kernel
theorem dX10_snow_6 : decode cX10_snow 6 = .ok (.iload_n 1, 1) := by decide +kernel
theorem dX10_snow_7 : decode cX10_snow 7 = .ok (.ifCond .lt 15, 3) := by decide +kernel
theorem dX10_snow_22 : decode cX10_snow 22 = .ok (.iconst 0, 1) := by decide +kernel
theorem dX10_snow_23 : decode cX10_snow 23 = .ok (.iconst 1, 1) := by decide +kernel
theorem dX10_snow_24 : decode cX10_snow 24 = .ok (.invokevirtual 324, 3) := by decide +kernel
theorem dX10_snow_27 : decode cX10_snow 27 = .ok (.ifCond .ne 5, 3) := by decide +kernel
theorem dX10_snow_30 : decode cX10_snow 30 = .ok (.iconst 0, 1) := by decide +kernel
theorem dX10_snow_31 : decode cX10_snow 31 = .ok (.ireturn, 1) := by decide +kernel
theorem dX10_snow_10 : decode cX10_snow 10 = .ok (.iload_n 1, 1) := by decide +kernel
theorem dX10_snow_11 : decode cX10_snow 11 = .ok (.aload_n 0, 1) := by decide +kernel
theorem dX10_snow_12 : decode cX10_snow 12 = .ok (.getfield 321, 3) := by decide +kernel
theorem dX10_snow_15 : decode cX10_snow 15 = .ok (.if_icmp .gt 7, 3) := by decide +kernel
theorem dX10_snow_18 : decode cX10_snow 18 = .ok (.iconst 1, 1) := by decide +kernel
theorem dX10_snow_19 : decode cX10_snow 19 = .ok (.goto 4, 3) := by decide +kernel
theorem dX10_snow_32 : decode cX10_snow 32 = .ok (.aload_n 0, 1) := by decide +kernel
theorem dX10_snow_33 : decode cX10_snow 33 = .ok (.iconst 0, 1) := by decide +kernel
theorem dX10_snow_34 : decode cX10_snow 34 = .ok (.putfield 321, 3) := by decide +kernel
theorem dX10_snow_37 : decode cX10_snow 37 = .ok (.aload_n 0, 1) := by decide +kernel
theorem dX10_snow_38 : decode cX10_snow 38 = .ok (.iload_n 1, 1) := by decide +kernel
theorem dX10_snow_39 : decode cX10_snow 39 = .ok (.putfield 241, 3) := by decide +kernel
theorem dX10_snow_42 : decode cX10_snow 42 = .ok (.aload_n 0, 1) := by decide +kernel
theorem dX10_snow_43 : decode cX10_snow 43 = .ok (.iconst 0, 1) := by decide +kernel
theorem dX10_snow_44 : decode cX10_snow 44 = .ok (.putfield 251, 3) := by decide +kernel
theorem dX10_snow_47 : decode cX10_snow 47 = .ok (.aload_n 0, 1) := by decide +kernel
theorem dX10_snow_48 : decode cX10_snow 48 = .ok (.iconst 0, 1) := by decide +kernel
theorem dX10_snow_49 : decode cX10_snow 49 = .ok (.putfield 274, 3) := by decide +kernel
theorem dX10_snow_52 : decode cX10_snow 52 = .ok (.aload_n 0, 1) := by decide +kernel
theorem dX10_snow_53 : decode cX10_snow 53 = .ok (.iconst (-1), 1) := by decide +kernel
theorem dX10_snow_54 : decode cX10_snow 54 = .ok (.putfield 49, 3) := by decide +kernel
theorem dX10_snow_57 : decode cX10_snow 57 = .ok (.aload_n 0, 1) := by decide +kernel
theorem dX10_snow_58 : decode cX10_snow 58 = .ok (.aload_n 0, 1) := by decide +kernel
theorem dX10_snow_59 : decode cX10_snow 59 = .ok (.aload_n 0, 1) := by decide +kernel
theorem dX10_snow_60 : decode cX10_snow 60 = .ok (.iconst 0, 1) := by decide +kernel
theorem dX10_snow_61 : decode cX10_snow 61 = .ok (.dup_x1, 1) := by decide +kernel
theorem dX10_snow_62 : decode cX10_snow 62 = .ok (.putfield 302, 3) := by decide +kernel
theorem dX10_snow_65 : decode cX10_snow 65 = .ok (.dup_x1, 1) := by decide +kernel
theorem dX10_snow_66 : decode cX10_snow 66 = .ok (.putfield 305, 3) := by decide +kernel
theorem dX10_snow_69 : decode cX10_snow 69 = .ok (.putfield 288, 3) := by decide +kernel
theorem dX10_snow_72 : decode cX10_snow 72 = .ok (.iconst 0, 1) := by decide +kernel
theorem dX10_snow_73 : decode cX10_snow 73 = .ok (.istore_n 2, 1) := by decide +kernel
theorem dX10_snow_74 : decode cX10_snow 74 = .ok (.iload_n 2, 1) := by decide +kernel
theorem dX10_snow_75 : decode cX10_snow 75 = .ok (.bipush 15, 2) := by decide +kernel
theorem dX10_snow_77 : decode cX10_snow 77 = .ok (.if_icmp .ge 16, 3) := by decide +kernel
theorem dX10_snow_93 : decode cX10_snow 93 = .ok (.aload_n 0, 1) := by decide +kernel
theorem dX10_snow_94 : decode cX10_snow 94 = .ok (.invokevirtual 285, 3) := by decide +kernel
theorem dX10_snow_97 : decode cX10_snow 97 = .ok (.aload_n 0, 1) := by decide +kernel
theorem dX10_snow_98 : decode cX10_snow 98 = .ok (.getfield 274, 3) := by decide +kernel
theorem dX10_snow_101 : decode cX10_snow 101 = .ok (.ifCond .ne 58, 3) := by decide +kernel
theorem dX10_snow_104 : decode cX10_snow 104 = .ok (.aload_n 0, 1) := by decide +kernel
theorem dX10_snow_105 : decode cX10_snow 105 = .ok (.getfield 263, 3) := by decide +kernel
theorem dX10_snow_108 : decode cX10_snow 108 = .ok (.ifCond .eq 51, 3) := by decide +kernel
theorem dX10_snow_159 : decode cX10_snow 159 = .ok (.aload_n 0, 1) := by decide +kernel
theorem dX10_snow_160 : decode cX10_snow 160 = .ok (.getfield 274, 3) := by decide +kernel
theorem dX10_snow_163 : decode cX10_snow 163 = .ok (.ifCond .eq 18, 3) := by decide +kernel
theorem dX10_snow_181 : decode cX10_snow 181 = .ok (.aload_n 0, 1) := by decide +kernel
theorem dX10_snow_182 : decode cX10_snow 182 = .ok (.invokevirtual 330, 3) := by decide +kernel
theorem dX10_snow_185 : decode cX10_snow 185 = .ok (.iconst 0, 1) := by decide +kernel
theorem dX10_snow_186 : decode cX10_snow 186 = .ok (.ireturn, 1) := by decide +kernel
theorem dX10_snow_111 : decode cX10_snow 111 = .ok (.aload_n 0, 1) := by decide +kernel
theorem dX10_snow_112 : decode cX10_snow 112 = .ok (.invokevirtual 327, 3) := by decide +kernel
theorem dX10_snow_115 : decode cX10_snow 115 = .ok (.aload_n 0, 1) := by decide +kernel
theorem dX10_snow_116 : decode cX10_snow 116 = .ok (.getfield 274, 3) := by decide +kernel
theorem dX10_snow_119 : decode cX10_snow 119 = .ok (.ifCond .ne (-22), 3) := by decide +kernel
theorem dX10_snow_122 : decode cX10_snow 122 = .ok (.aload_n 0, 1) := by decide +kernel
theorem dX10_snow_123 : decode cX10_snow 123 = .ok (.aload_n 0, 1) := by decide +kernel
theorem dX10_snow_124 : decode cX10_snow 124 = .ok (.getfield 263, 3) := by decide +kernel
theorem dX10_snow_127 : decode cX10_snow 127 = .ok (.iconst 3, 1) := by decide +kernel
theorem dX10_snow_128 : decode cX10_snow 128 = .ok (.if_icmp .ne 16, 3) := by decide +kernel
theorem dX10_snow_131 : decode cX10_snow 131 = .ok (.aload_n 0, 1) := by decide +kernel
theorem dX10_snow_132 : decode cX10_snow 132 = .ok (.getfield 260, 3) := by decide +kernel
theorem dX10_snow_135 : decode cX10_snow 135 = .ok (.bipush 59, 2) := by decide +kernel
theorem dX10_snow_137 : decode cX10_snow 137 = .ok (.if_icmp .ne 7, 3) := by decide +kernel
theorem dX10_snow_140 : decode cX10_snow 140 = .ok (.iconst 1, 1) := by decide +kernel
theorem dX10_snow_141 : decode cX10_snow 141 = .ok (.goto 4, 3) := by decide +kernel
theorem dX10_snow_145 : decode cX10_snow 145 = .ok (.iconst 1, 1) := by decide +kernel
theorem dX10_snow_146 : decode cX10_snow 146 = .ok (.invokevirtual 277, 3) := by decide +kernel
theorem dX10_snow_149 : decode cX10_snow 149 = .ok (.ifCond .eq (-52), 3) := by decide +kernel
theorem dX10_snow_152 : decode cX10_snow 152 = .ok (.aload_n 0, 1) := by decide +kernel
theorem dX10_snow_153 : decode cX10_snow 153 = .ok (.invokevirtual 285, 3) := by decide +kernel
theorem dX10_snow_156 : decode cX10_snow 156 = .ok (.goto (-59), 3) := by decide +kernel
theorem dX10_snow_144 : decode cX10_snow 144 = .ok (.iconst 0, 1) := by decide +kernel
theorem dX10_snow_166 : decode cX10_snow 166 = .ok (.aload_n 0, 1) := by decide +kernel
theorem dX10_snow_167 : decode cX10_snow 167 = .ok (.getfield 40, 3) := by decide +kernel
theorem dX10_snow_170 : decode cX10_snow 170 = .ok (.iconst 0, 1) := by decide +kernel
theorem dX10_snow_171 : decode cX10_snow 171 = .ok (.dup2, 1) := by decide +kernel
theorem dX10_snow_172 : decode cX10_snow 172 = .ok (.iaload, 1) := by decide +kernel
theorem dX10_snow_173 : decode cX10_snow 173 = .ok (.iconst 1, 1) := by decide +kernel
theorem dX10_snow_174 : decode cX10_snow 174 = .ok (.iadd, 1) := by decide +kernel
theorem dX10_snow_175 : decode cX10_snow 175 = .ok (.iastore, 1) := by decide +kernel
theorem dX10_snow_176 : decode cX10_snow 176 = .ok (.aload_n 0, 1) := by decide +kernel
theorem dX10_snow_177 : decode cX10_snow 177 = .ok (.getfield 274, 3) := by decide +kernel
theorem dX10_snow_180 : decode cX10_snow 180 = .ok (.ireturn, 1) := by decide +kernel
theorem dX10_snow_80 : decode cX10_snow 80 = .ok (.aload_n 0, 1) := by decide +kernel
theorem dX10_snow_81 : decode cX10_snow 81 = .ok (.getfield 83, 3) := by decide +kernel
theorem dX10_snow_84 : decode cX10_snow 84 = .ok (.iload_n 2, 1) := by decide +kernel
theorem dX10_snow_85 : decode cX10_snow 85 = .ok (.iconst (-1), 1) := by decide +kernel
theorem dX10_snow_86 : decode cX10_snow 86 = .ok (.iastore, 1) := by decide +kernel
theorem dX10_snow_87 : decode cX10_snow 87 = .ok (.iinc 2 1, 3) := by decide +kernel
theorem dX10_snow_90 : decode cX10_snow 90 = .ok (.goto (-16), 3) := by decide +kernel
end
section
-- 99u.refsnow.lean.txt
theorem okMr.mono {cs : Nat → ClassId} {ad : Nat → Nat} {g : Nat → va_E} {i : Nat} {x y : Int} {F r st op ai fa mu tb tp : Nat → Int} (h : okMr cs ad g i x F r st op ai fa mu tb tp) (hxy : x ≤ y) : okMr cs ad g i y F r st op ai fa mu tb tp := ⟨h.1, h.2.1, h.2.2.1, h.2.2.2.1, h.2.2.2.2.1.mono hxy, h.2.2.2.2.2⟩

set_option maxRecDepth 100000 in
set_option maxHeartbeats 4000000 in
theorem c_yRight (l : Launch) (D : va_G) (A : Nat → Prop) (cs : Nat → ClassId) (tt : Nat) (N : Nat) (ad : Nat → Nat) (g : Nat → va_E) (i : Nat) (hN : i + 30 ≤ N) (F : Nat → Int) (hg : g i = mC ad i F) (h12 : F 12 = 0) (z : Int) (hz : 0 ≤ z ∧ z ≤ 1) (z1 : Int) (hz1 : 1 ≤ z1 ∧ z1 ≤ 2) : zM l yX10_right cX10_right 3 (some .boolean) ({ frames := 1, cells := 0, slots := 0, locals := 60 } : Room) D A cs tt N ad g [.ref (ad i), .int (zI (z)), .int (zI (z1))] (rI0 N ad fun r g' => (∃ F' : Nat → Int, g' i = mC ad i F' ∧ ((z = 1 ∧ r = 1 ∧ F' 12 = 0) ∨ (z = 0 ∧ r = 0 ∧ F' 12 = z1)) ∧ (∀ f, f ≠ 12 → F' f = F f)) ∧ ∀ j, j ≠ i → g' j = g j) := by
  have hay1 : zAt ad (i) (ad i) := rfl
  refine z_of (by decide) (Nat.le_of_ble_eq_true rfl) ?_
  intro pZ eZ sZ mZ below meth cZ C hr hlk hnm
  refine z_lv (lv' := [(0, .ref (ad i)), (1, .int (zI (z))), (2, .int (zI (z1)))]) [0, 1, 2] rfl ?_
  refine z_aload_n C 0 dX10_right_0 rfl ?_
  refine z_get (v := .int (zI (0))) C (lt_A0 hN rfl) hay1 hg rfl inA_X10 12 (by decide) q_1471 rfl (fv (F := F) (f := 12) h12) dX10_right_1 ?_
  refine z_if_ne (tgt := 16) C dX10_right_4 (by decide) (by omega) (fun h => absurd h (by omega)) (fun _ => ?_)
  refine z_iload_n C 1 dX10_right_7 rfl ?_
  refine z_if_ne (tgt := 16) C dX10_right_8 (by decide) (by omega) (fun hby2 => ?_) (fun hby2 => ?_)
  · refine z_aload_n C 0 dX10_right_16 rfl ?_
    refine z_get (v := .int (zI (0))) C (lt_A0 hN rfl) hay1 hg rfl inA_X10 12 (by decide) q_1471 rfl (fv (F := F) (f := 12) h12) dX10_right_17 ?_
    refine z_if_ne (tgt := 27) C dX10_right_20 (by decide) (by omega) (fun h => absurd h (by omega)) (fun _ => ?_)
    refine z_iconst (z := 1) C dX10_right_23 rfl ?_
    refine z_goto (tgt := 28) C dX10_right_24 (by decide) ?_
    have hFy3 : ∀ f, f ≠ 12 → F f = F f := fun f n12 => rfl
    have hey4 : F 12 = 0 := h12
    exact z_zret C hr hlk dX10_right_28 (by decide) (by decide) (by decide) ⟨1, rfl, rfl, rfl, ⟨_, hg, by omega, hFy3⟩, fun j j1 => by rfl⟩
  · refine z_aload_n C 0 dX10_right_11 rfl ?_
    refine z_iload_n C 2 dX10_right_12 rfl ?_
    refine z_put (fs' := mF ad (i) (uZ F 12 (z1))) C (lt_A0 hN rfl) hay1 hg tyX10 tyX10_ok nmX10 rfl inA_X10 12 (by decide) q_1471 rfl rfl rfl rfl (Nat.le_of_ble_eq_true rfl) rfl dX10_right_13 (fun gy5 egy6 => ?_)
    have hgy7 := up_s egy6
    refine z_aload_n C 0 dX10_right_16 rfl ?_
    refine z_get (v := .int (zI (z1))) C (lt_A0 hN rfl) hay1 hgy7 rfl inA_X10 12 (by decide) q_1471 rfl (fv (F := (uZ F 12 (z1))) (f := 12) (uZ_s _ _ _)) dX10_right_17 ?_
    refine z_if_ne (tgt := 27) C dX10_right_20 (by decide) (by omega) (fun hby8 => ?_) (fun hby8 => ?_)
    · refine z_iconst (z := 0) C dX10_right_27 rfl ?_
      have hFy9 : ∀ f, f ≠ 12 → (uZ F 12 (z1)) f = F f := fun f n12 => ((uZ_n _ _ n12).trans rfl)
      have hey10 : (uZ F 12 (z1)) 12 = z1 := (uZ_s _ _ _)
      exact z_zret C hr hlk dX10_right_28 (by decide) (by decide) (by decide) ⟨0, rfl, rfl, rfl, ⟨_, hgy7, by omega, hFy9⟩, fun j j1 => by rw [egy6, va_up_ne _ _ (by omega)]⟩
    · refine z_iconst (z := 1) C dX10_right_23 rfl ?_
      refine z_goto (tgt := 28) C dX10_right_24 (by decide) ?_
      have hFy11 : ∀ f, f ≠ 12 → (uZ F 12 (z1)) f = F f := fun f n12 => ((uZ_n _ _ n12).trans rfl)
      have hey12 : (uZ F 12 (z1)) 12 = z1 := (uZ_s _ _ _)
      exact z_zret C hr hlk dX10_right_28 (by decide) (by decide) (by decide) ⟨1, rfl, rfl, rfl, ⟨_, hgy7, by omega, hFy11⟩, fun j j1 => by rw [egy6, va_up_ne _ _ (by omega)]⟩

set_option maxRecDepth 100000 in
set_option maxHeartbeats 4000000 in
theorem c_ySnow0 (l : Launch) (D : va_G) (A : Nat → Prop) (cs : Nat → ClassId) (tt : Nat) (N : Nat) (ad : Nat → Nat) (g : Nat → va_E) (i : Nat) (hN : i + 30 ≤ N) (x : Int) (hx : 0 ≤ x ∧ x ≤ 512) (F r : Nat → Int) {st op ai fa mu tb tp : Nat → Int} (hM : okMr cs ad g i x F r st op ai fa mu tb tp) (hPl : F 25 = 0 ∧ F 26 = -1 ∧ F 27 = -1 ∧ F 29 = 0) (z : Int) (hz : -2147483648 ≤ z ∧ z ≤ 2147483647) (hzo : z < 0 ∨ F 23 < z) : zM l yX10_snow cX10_snow 3 (some .int) ({ frames := 8, cells := 0, slots := 0, locals := 480 } : Room) D A cs tt N ad g [.ref (ad i), .int (zI (z))] (rI0 N ad fun q g' => q = 0 ∧ (∃ F' r' : Nat → Int, okMr cs ad g' i (x + 1) F' r' st op ai fa mu tb tp ∧ F' 12 = 1 ∧ (F' 13 = F 13 ∧ F' 14 = F 14 ∧ F' 15 = F 15 ∧ F' 16 = F 16 ∧ F' 17 = F 17 ∧ F' 18 = F 18 ∧ F' 19 = F 19 ∧ F' 20 = F 20 ∧ F' 21 = F 21 ∧ F' 23 = F 23 ∧ F' 24 = F 24) ∧ (F' 25 = 0 ∧ F' 26 = -1 ∧ F' 27 = -1 ∧ F' 29 = 0) ∧ (∀ j, j < 350 ∨ 700 ≤ j → r' j = r j)) ∧ ∀ j, j < i ∨ i + 30 ≤ j ∨ (i + 8 ≤ j ∧ j ≤ i + 12) → g' j = g j) := by
  obtain ⟨hg, ⟨⟨e13, e14, e25, e27, e29⟩, k15, k16, k17, k18, k19, k20, k23, k21⟩, hRD, hTx, hA, ns, nh, nd, rf, pi, te, ki, li, ok1, ok2, fo, dd, dps, ⟨ha1, ha2, ha3, ha4, ha5, ha6, ha7, ha8, ha9, ha10, ha11, ha12, ha13, ha14, ha15, ha24, ha25, ha26, ha27, ha28, ha29⟩, hEv, hPt, hns, htp⟩ := id hM
  obtain ⟨-, hop, hai, hfa, hT, hT1⟩ := id hEv
  have hay1 : zAt ad (i) (ad i) := rfl
  have hay2 : zAt ad (i + 1) (ad (i + 1)) := rfl
  have hay3 : zAt ad (i + 2) (ad (i + 2)) := rfl
  have hay4 : zAt ad (i + 3) (ad (i + 3)) := rfl
  have hay5 : zAt ad (i + 4) (ad (i + 4)) := rfl
  have hay6 : zAt ad (i + 5) (ad (i + 5)) := rfl
  have hay7 : zAt ad (i + 6) (ad (i + 6)) := rfl
  have hay8 : zAt ad (i + 7) (ad (i + 7)) := rfl
  have hay9 : zAt ad (i + 8) (ad (i + 8)) := rfl
  have hay10 : zAt ad (i + 9) (ad (i + 9)) := rfl
  have hay11 : zAt ad (i + 10) (ad (i + 10)) := rfl
  have hay12 : zAt ad (i + 11) (ad (i + 11)) := rfl
  have hay13 : zAt ad (i + 12) (ad (i + 12)) := rfl
  have hay14 : zAt ad (i + 13) (ad (i + 13)) := rfl
  have hay15 : zAt ad (i + 14) (ad (i + 14)) := rfl
  have hay16 : zAt ad (i + 15) (ad (i + 15)) := rfl
  have hay17 : zAt ad (i + 24) (ad (i + 24)) := rfl
  have hay18 : zAt ad (i + 25) (ad (i + 25)) := rfl
  have hay19 : zAt ad (i + 26) (ad (i + 26)) := rfl
  have hay20 : zAt ad (i + 27) (ad (i + 27)) := rfl
  have hay21 : zAt ad (i + 28) (ad (i + 28)) := rfl
  have hay22 : zAt ad (i + 29) (ad (i + 29)) := rfl
  obtain ⟨⟨hsyy23, htyy23, hnyy23, hpyy23⟩, hlyy23⟩ := okA.at0 hA
  simp only [Nat.zero_add] at hsyy23 hnyy23 hpyy23
  have hmn : ∀ s, s < 4 → 0 ≤ r (6 + 86 * s) ∧ r (6 + 86 * s) ≤ 12 := fun s hs => (hsyy23 s hs).1
  have h5 : 0 ≤ r 5 ∧ r 5 ≤ 6 := hpyy23
  obtain ⟨hp25, hp26, hp27, hp29⟩ := id hPl
  refine z_of (by decide) (Nat.le_of_ble_eq_true rfl) ?_
  intro pZ eZ sZ mZ below meth cZ C hr hlk hnm
  refine z_lv (lv' := [(0, .ref (ad i)), (1, .int (zI (z)))]) [0, 1] rfl ?_
  refine z_aload_n C 0 dX10_snow_0 rfl ?_
  refine z_iconst (z := 0) C dX10_snow_1 rfl ?_
  refine z_put (fs' := mF ad (i) (uZ F 12 (0))) C (lt_A0 hN rfl) hay1 hg tyX10 tyX10_ok nmX10 rfl inA_X10 12 (by decide) q_1471 rfl rfl rfl rfl (Nat.le_of_ble_eq_true rfl) rfl dX10_snow_2 (fun gy24 egy25 => ?_)
  have hgy26 := up_s egy25
  refine z_aload_n C 0 dX10_snow_5 rfl ?_
  refine z_iload_n C 1 dX10_snow_6 rfl ?_
  refine z_if_lt (tgt := 22) C dX10_snow_7 (by decide) (by omega) (fun hby27 => ?_) (fun hby27 => ?_)
  · refine z_iconst (z := 0) C dX10_snow_22 rfl ?_
    refine z_iconst (z := 1) C dX10_snow_23 rfl ?_
    refine z_cV (As := [.int (zI (0)), .int (zI (1))]) (rest := []) (ci := 12) C (c_yRight l D A cs tt N ad _ i hN _ hgy26 (uZ_s _ _ _) (0) (by omega) (1) (by omega)) (lt_A0 hN rfl) hay1 hgy26 rfl rfl mv_yX10_right q_1648 hd_yX10_right (by decide) (Nat.le_of_ble_eq_true rfl) (by decide) dX10_snow_24 rfl (kI0 fun vy28 gvy28 hvy28 => ?_)
    obtain ⟨⟨Fvy28, hcvy28, hqvy28, hFvy28⟩, hfvy28⟩ := hvy28
    obtain ⟨rfl, hevy28⟩ : vy28 = 0 ∧ Fvy28 12 = 1 := by omega
    clear hqvy28
    refine z_if_ne (tgt := 32) C dX10_snow_27 (by decide) (by omega) (fun h => absurd h (by omega)) (fun _ => ?_)
    refine z_iconst (z := 0) C dX10_snow_30 rfl ?_
    have hgy29 := up_n egy25 ha1 (ne_o (i := i) (c := 1) (d := 0) rfl)
    have hgy30 := (hfvy28 (i + 1) (ne_o (i := i) (c := 1) (d := 0) rfl)).trans hgy29
    have hFy31 : ∀ f, f ≠ 12 → Fvy28 f = F f := fun f n12 => ((hFvy28 f n12).trans ((uZ_n _ _ n12).trans rfl))
    have hey32 : Fvy28 13 = F 13 := ((hFvy28 13 (by decide)).trans (fn rfl (by decide)))
    have hey33 : Fvy28 14 = F 14 := ((hFvy28 14 (by decide)).trans (fn rfl (by decide)))
    have hey34 : Fvy28 15 = F 15 := ((hFvy28 15 (by decide)).trans (fn rfl (by decide)))
    have hey35 : Fvy28 16 = F 16 := ((hFvy28 16 (by decide)).trans (fn rfl (by decide)))
    have hey36 : Fvy28 17 = F 17 := ((hFvy28 17 (by decide)).trans (fn rfl (by decide)))
    have hey37 : Fvy28 18 = F 18 := ((hFvy28 18 (by decide)).trans (fn rfl (by decide)))
    have hey38 : Fvy28 19 = F 19 := ((hFvy28 19 (by decide)).trans (fn rfl (by decide)))
    have hey39 : Fvy28 20 = F 20 := ((hFvy28 20 (by decide)).trans (fn rfl (by decide)))
    have hey40 : Fvy28 21 = F 21 := ((hFvy28 21 (by decide)).trans (fn rfl (by decide)))
    have hey41 : Fvy28 23 = F 23 := ((hFvy28 23 (by decide)).trans (fn rfl (by decide)))
    have hey42 : Fvy28 25 = F 25 := ((hFvy28 25 (by decide)).trans (fn rfl (by decide)))
    have hey43 : Fvy28 27 = F 27 := ((hFvy28 27 (by decide)).trans (fn rfl (by decide)))
    have hey44 : Fvy28 28 = F 28 := ((hFvy28 28 (by decide)).trans (fn rfl (by decide)))
    have hey45 : Fvy28 29 = F 29 := ((hFvy28 29 (by decide)).trans (fn rfl (by decide)))
    have hKy46 : okF Fvy28 := okF.mv hM.2.1 hey32 hey33 hey34 hey35 hey36 hey37 hey38 hey39 hey40 hey41 hey42 hey43 hey44 hey45
    have hMy47 : okMr cs ad gvy28 i (x + 1) Fvy28 r st op ai fa mu tb tp := okMr.upd hM hcvy28 hKy46 (fun f a => hFy31 f (by omega)) hgy30 (hA.mono (by omega)) (fun j a b => by
        exact Or.inl (by rw [hfvy28 _ (by omega)]; rw [egy25, va_up_ne _ _ (by omega)]))
    have hkpy48 : Fvy28 13 = F 13 := ((hFvy28 13 (by decide)).trans (fn rfl (by decide)))
    have hkpy49 : Fvy28 14 = F 14 := ((hFvy28 14 (by decide)).trans (fn rfl (by decide)))
    have hkpy50 : Fvy28 15 = F 15 := ((hFvy28 15 (by decide)).trans (fn rfl (by decide)))
    have hkpy51 : Fvy28 16 = F 16 := ((hFvy28 16 (by decide)).trans (fn rfl (by decide)))
    have hkpy52 : Fvy28 17 = F 17 := ((hFvy28 17 (by decide)).trans (fn rfl (by decide)))
    have hkpy53 : Fvy28 18 = F 18 := ((hFvy28 18 (by decide)).trans (fn rfl (by decide)))
    have hkpy54 : Fvy28 19 = F 19 := ((hFvy28 19 (by decide)).trans (fn rfl (by decide)))
    have hkpy55 : Fvy28 20 = F 20 := ((hFvy28 20 (by decide)).trans (fn rfl (by decide)))
    have hkpy56 : Fvy28 21 = F 21 := ((hFvy28 21 (by decide)).trans (fn rfl (by decide)))
    have hkpy57 : Fvy28 23 = F 23 := ((hFvy28 23 (by decide)).trans (fn rfl (by decide)))
    have hkpy58 : Fvy28 24 = F 24 := ((hFvy28 24 (by decide)).trans (fn rfl (by decide)))
    have hkpy59 : Fvy28 25 = F 25 := ((hFvy28 25 (by decide)).trans (fn rfl (by decide)))
    have hkpy60 : Fvy28 26 = F 26 := ((hFvy28 26 (by decide)).trans (fn rfl (by decide)))
    have hkpy61 : Fvy28 27 = F 27 := ((hFvy28 27 (by decide)).trans (fn rfl (by decide)))
    have hkpy62 : Fvy28 29 = F 29 := ((hFvy28 29 (by decide)).trans (fn rfl (by decide)))
    have h12 : Fvy28 12 = 1 := hevy28
    exact z_iret C hr hlk dX10_snow_31 (by decide) (by decide) ⟨0, rfl, rfl, rfl, by omega, ⟨_, _, hMy47, by omega, ⟨hkpy48, hkpy49, hkpy50, hkpy51, hkpy52, hkpy53, hkpy54, hkpy55, hkpy56, hkpy57, hkpy58⟩, ⟨(hkpy59.trans hp25), (hkpy60.trans hp26), (hkpy61.trans hp27), (hkpy62.trans hp29)⟩, (fun j _ => rfl)⟩, fun j j1 => by rw [hfvy28 _ (by omega)]; rw [egy25, va_up_ne _ _ (by omega)]⟩
  · refine z_iload_n C 1 dX10_snow_10 rfl ?_
    refine z_aload_n C 0 dX10_snow_11 rfl ?_
    refine z_get (v := .int (zI (F 23))) C (lt_A0 hN rfl) hay1 hgy26 rfl inA_X10 23 (by decide) q_1482 rfl (fv (F := (uZ F 12 (0))) (f := 23) (fn rfl (by decide))) dX10_snow_12 ?_
    refine z_icmp_gt (tgt := 22) C dX10_snow_15 (by decide) (by omega) (by omega) (fun hby63 => ?_) (fun hby63 => ?_)
    · refine z_iconst (z := 0) C dX10_snow_22 rfl ?_
      refine z_iconst (z := 1) C dX10_snow_23 rfl ?_
      refine z_cV (As := [.int (zI (0)), .int (zI (1))]) (rest := []) (ci := 12) C (c_yRight l D A cs tt N ad _ i hN _ hgy26 (uZ_s _ _ _) (0) (by omega) (1) (by omega)) (lt_A0 hN rfl) hay1 hgy26 rfl rfl mv_yX10_right q_1648 hd_yX10_right (by decide) (Nat.le_of_ble_eq_true rfl) (by decide) dX10_snow_24 rfl (kI0 fun vy64 gvy64 hvy64 => ?_)
      obtain ⟨⟨Fvy64, hcvy64, hqvy64, hFvy64⟩, hfvy64⟩ := hvy64
      obtain ⟨rfl, hevy64⟩ : vy64 = 0 ∧ Fvy64 12 = 1 := by omega
      clear hqvy64
      refine z_if_ne (tgt := 32) C dX10_snow_27 (by decide) (by omega) (fun h => absurd h (by omega)) (fun _ => ?_)
      refine z_iconst (z := 0) C dX10_snow_30 rfl ?_
      have hgy65 := up_n egy25 ha1 (ne_o (i := i) (c := 1) (d := 0) rfl)
      have hgy66 := (hfvy64 (i + 1) (ne_o (i := i) (c := 1) (d := 0) rfl)).trans hgy65
      have hFy67 : ∀ f, f ≠ 12 → Fvy64 f = F f := fun f n12 => ((hFvy64 f n12).trans ((uZ_n _ _ n12).trans rfl))
      have hey68 : Fvy64 13 = F 13 := ((hFvy64 13 (by decide)).trans (fn rfl (by decide)))
      have hey69 : Fvy64 14 = F 14 := ((hFvy64 14 (by decide)).trans (fn rfl (by decide)))
      have hey70 : Fvy64 15 = F 15 := ((hFvy64 15 (by decide)).trans (fn rfl (by decide)))
      have hey71 : Fvy64 16 = F 16 := ((hFvy64 16 (by decide)).trans (fn rfl (by decide)))
      have hey72 : Fvy64 17 = F 17 := ((hFvy64 17 (by decide)).trans (fn rfl (by decide)))
      have hey73 : Fvy64 18 = F 18 := ((hFvy64 18 (by decide)).trans (fn rfl (by decide)))
      have hey74 : Fvy64 19 = F 19 := ((hFvy64 19 (by decide)).trans (fn rfl (by decide)))
      have hey75 : Fvy64 20 = F 20 := ((hFvy64 20 (by decide)).trans (fn rfl (by decide)))
      have hey76 : Fvy64 21 = F 21 := ((hFvy64 21 (by decide)).trans (fn rfl (by decide)))
      have hey77 : Fvy64 23 = F 23 := ((hFvy64 23 (by decide)).trans (fn rfl (by decide)))
      have hey78 : Fvy64 25 = F 25 := ((hFvy64 25 (by decide)).trans (fn rfl (by decide)))
      have hey79 : Fvy64 27 = F 27 := ((hFvy64 27 (by decide)).trans (fn rfl (by decide)))
      have hey80 : Fvy64 28 = F 28 := ((hFvy64 28 (by decide)).trans (fn rfl (by decide)))
      have hey81 : Fvy64 29 = F 29 := ((hFvy64 29 (by decide)).trans (fn rfl (by decide)))
      have hKy82 : okF Fvy64 := okF.mv hM.2.1 hey68 hey69 hey70 hey71 hey72 hey73 hey74 hey75 hey76 hey77 hey78 hey79 hey80 hey81
      have hMy83 : okMr cs ad gvy64 i (x + 1) Fvy64 r st op ai fa mu tb tp := okMr.upd hM hcvy64 hKy82 (fun f a => hFy67 f (by omega)) hgy66 (hA.mono (by omega)) (fun j a b => by
          exact Or.inl (by rw [hfvy64 _ (by omega)]; rw [egy25, va_up_ne _ _ (by omega)]))
      have hkpy84 : Fvy64 13 = F 13 := ((hFvy64 13 (by decide)).trans (fn rfl (by decide)))
      have hkpy85 : Fvy64 14 = F 14 := ((hFvy64 14 (by decide)).trans (fn rfl (by decide)))
      have hkpy86 : Fvy64 15 = F 15 := ((hFvy64 15 (by decide)).trans (fn rfl (by decide)))
      have hkpy87 : Fvy64 16 = F 16 := ((hFvy64 16 (by decide)).trans (fn rfl (by decide)))
      have hkpy88 : Fvy64 17 = F 17 := ((hFvy64 17 (by decide)).trans (fn rfl (by decide)))
      have hkpy89 : Fvy64 18 = F 18 := ((hFvy64 18 (by decide)).trans (fn rfl (by decide)))
      have hkpy90 : Fvy64 19 = F 19 := ((hFvy64 19 (by decide)).trans (fn rfl (by decide)))
      have hkpy91 : Fvy64 20 = F 20 := ((hFvy64 20 (by decide)).trans (fn rfl (by decide)))
      have hkpy92 : Fvy64 21 = F 21 := ((hFvy64 21 (by decide)).trans (fn rfl (by decide)))
      have hkpy93 : Fvy64 23 = F 23 := ((hFvy64 23 (by decide)).trans (fn rfl (by decide)))
      have hkpy94 : Fvy64 24 = F 24 := ((hFvy64 24 (by decide)).trans (fn rfl (by decide)))
      have hkpy95 : Fvy64 25 = F 25 := ((hFvy64 25 (by decide)).trans (fn rfl (by decide)))
      have hkpy96 : Fvy64 26 = F 26 := ((hFvy64 26 (by decide)).trans (fn rfl (by decide)))
      have hkpy97 : Fvy64 27 = F 27 := ((hFvy64 27 (by decide)).trans (fn rfl (by decide)))
      have hkpy98 : Fvy64 29 = F 29 := ((hFvy64 29 (by decide)).trans (fn rfl (by decide)))
      have h12 : Fvy64 12 = 1 := hevy64
      exact z_iret C hr hlk dX10_snow_31 (by decide) (by decide) ⟨0, rfl, rfl, rfl, by omega, ⟨_, _, hMy83, by omega, ⟨hkpy84, hkpy85, hkpy86, hkpy87, hkpy88, hkpy89, hkpy90, hkpy91, hkpy92, hkpy93, hkpy94⟩, ⟨(hkpy95.trans hp25), (hkpy96.trans hp26), (hkpy97.trans hp27), (hkpy98.trans hp29)⟩, (fun j _ => rfl)⟩, fun j j1 => by rw [hfvy64 _ (by omega)]; rw [egy25, va_up_ne _ _ (by omega)]⟩
    · exfalso; omega

set_option maxRecDepth 100000 in
set_option maxHeartbeats 4000000 in
theorem c_ySnow1 (l : Launch) (D : va_G) (A : Nat → Prop) (cs : Nat → ClassId) (tt : Nat) (N : Nat) (ad : Nat → Nat) (g : Nat → va_E) (i : Nat) (hN : i + 30 ≤ N) (x : Int) (hx : 0 ≤ x ∧ x ≤ 512) (F r : Nat → Int) {st op ai fa mu tb tp : Nat → Int} (hM : okMr cs ad g i x F r st op ai fa mu tb tp) (hPl : F 25 = 0 ∧ F 26 = -1 ∧ F 27 = -1 ∧ F 29 = 0) (rr : Nat → Int) (hrr : g (i + 11) = iA cs 6 rr) (T : Nat → Int) (n : Nat) (hTb : ∀ k, k < n → 0 ≤ T k ∧ T k ≤ 255) (hTt : ∀ k, k < n → tp k = T k) (st0 op0 ai0 fa0 mu0 : Nat → Int) (L0 : Nat → Nat → Int) (z : Int) (hzn : z = (n : Int)) (hzt : z ≤ F 23) : zM l yX10_snow cX10_snow 3 (some .int) ({ frames := 8, cells := 0, slots := 0, locals := 480 } : Room) D A cs tt N ad g [.ref (ad i), .int (zI (z))] (rI0 N ad fun q g' => (0 ≤ q ∧ q ≤ 5) ∧ (∃ (k9 : Nat) (pl9 : Int) (s9 : Int × Int × Int × (Nat → Int) × (Nat → Int) × (Nat → Int) × (Nat → Int) × (Nat → Int) × (Nat → Int) × (Nat → Int) × (Nat → Int) × (Nat → Nat → Int)), ps_run T n k9 (0, 0, 0, (fun _ => 0), st0, op0, ai0, fa0, mu0, tabZ, (fun _ => 0), L0) (tk_at T n 0) = some ((q, pl9), s9) ∧ ((q = 0 ∧ (∃ F' r' st' op' ai' fa' mu' tb' : Nat → Int, okMr cs ad g' i (x + 1) F' r' st' op' ai' fa' mu' tb' tp ∧ F' 12 = 0 ∧ (F' 13 = s9.1 ∧ F' 14 = s9.2.1 ∧ F' 15 = 0 ∧ F' 16 = 0 ∧ F' 17 = 0 ∧ F' 18 = F 18 ∧ F' 19 = F 19 ∧ F' 20 = F 20 ∧ F' 21 = 0 ∧ F' 23 = 0 ∧ F' 24 = pl9) ∧ (F' 25 = 0 ∧ F' 26 = -1 ∧ F' 27 = -1 ∧ F' 29 = 0) ∧ dT s9 st' op' ai' fa' mu' tb' ∧ rwT s9 r' ∧ ∀ j, 350 ≤ j → r' j = r j)) ∨ (q ≠ 0 ∧ (∃ F' r' : Nat → Int, okMr cs ad g' i (x + 1) F' r' st op ai fa mu tb tp ∧ F' 12 = 0 ∧ (F' 13 = F 13 ∧ F' 14 = F 14 ∧ F' 15 = F 15 ∧ F' 16 = F 16 ∧ F' 17 = F 17 ∧ F' 18 = F 18 ∧ F' 19 = F 19 ∧ F' 20 = F 20 ∧ F' 21 = F 21 ∧ F' 23 = 0 ∧ F' 24 = pl9) ∧ (F' 25 = 0 ∧ F' 26 = -1 ∧ F' 27 = -1 ∧ F' 29 = 0) ∧ r' = r)))) ∧ (∃ rr' : Nat → Int, g' (i + 11) = iA cs 6 rr' ∧ rr' = if q = 0 then rr else uZ rr 0 (rr 0 + 1)) ∧ (∀ j, j < i ∨ i + 30 ≤ j → g' j = g j) ∧ ∀ j, i + 8 ≤ j → j ≤ i + 12 → j ≠ i + 11 → g' j = g j) := by
  subst hzn
  obtain ⟨hg, ⟨⟨e13, e14, e25, e27, e29⟩, k15, k16, k17, k18, k19, k20, k23, k21⟩, hRD, hTx, hA, ns, nh, nd, rf, pi, te, ki, li, ok1, ok2, fo, dd, dps, ⟨ha1, ha2, ha3, ha4, ha5, ha6, ha7, ha8, ha9, ha10, ha11, ha12, ha13, ha14, ha15, ha24, ha25, ha26, ha27, ha28, ha29⟩, hEv, hPt, hns, htp⟩ := id hM
  obtain ⟨-, hop, hai, hfa, hT, hT1⟩ := id hEv
  have hay1 : zAt ad (i) (ad i) := rfl
  have hay2 : zAt ad (i + 1) (ad (i + 1)) := rfl
  have hay3 : zAt ad (i + 2) (ad (i + 2)) := rfl
  have hay4 : zAt ad (i + 3) (ad (i + 3)) := rfl
  have hay5 : zAt ad (i + 4) (ad (i + 4)) := rfl
  have hay6 : zAt ad (i + 5) (ad (i + 5)) := rfl
  have hay7 : zAt ad (i + 6) (ad (i + 6)) := rfl
  have hay8 : zAt ad (i + 7) (ad (i + 7)) := rfl
  have hay9 : zAt ad (i + 8) (ad (i + 8)) := rfl
  have hay10 : zAt ad (i + 9) (ad (i + 9)) := rfl
  have hay11 : zAt ad (i + 10) (ad (i + 10)) := rfl
  have hay12 : zAt ad (i + 11) (ad (i + 11)) := rfl
  have hay13 : zAt ad (i + 12) (ad (i + 12)) := rfl
  have hay14 : zAt ad (i + 13) (ad (i + 13)) := rfl
  have hay15 : zAt ad (i + 14) (ad (i + 14)) := rfl
  have hay16 : zAt ad (i + 15) (ad (i + 15)) := rfl
  have hay17 : zAt ad (i + 24) (ad (i + 24)) := rfl
  have hay18 : zAt ad (i + 25) (ad (i + 25)) := rfl
  have hay19 : zAt ad (i + 26) (ad (i + 26)) := rfl
  have hay20 : zAt ad (i + 27) (ad (i + 27)) := rfl
  have hay21 : zAt ad (i + 28) (ad (i + 28)) := rfl
  have hay22 : zAt ad (i + 29) (ad (i + 29)) := rfl
  obtain ⟨⟨hsyy23, htyy23, hnyy23, hpyy23⟩, hlyy23⟩ := okA.at0 hA
  simp only [Nat.zero_add] at hsyy23 hnyy23 hpyy23
  have hmn : ∀ s, s < 4 → 0 ≤ r (6 + 86 * s) ∧ r (6 + 86 * s) ≤ 12 := fun s hs => (hsyy23 s hs).1
  have h5 : 0 ≤ r 5 ∧ r 5 ≤ 6 := hpyy23
  obtain ⟨hp25, hp26, hp27, hp29⟩ := id hPl
  obtain ⟨st1, op1, mn1, ai1, fa1, mu1, tb1, ly1, ⟨ha16, ha17, ha18, ha19, ha20, ha21, ha22, ha23⟩, ⟨⟨t47, t48, t49⟩, hop1, hmn1, hai1, hfa1, hly1⟩⟩ := id hTx
  have hay24 : zAt ad (i + 16) (ad (i + 16)) := rfl
  have hay25 : zAt ad (i + 17) (ad (i + 17)) := rfl
  have hay26 : zAt ad (i + 18) (ad (i + 18)) := rfl
  have hay27 : zAt ad (i + 19) (ad (i + 19)) := rfl
  have hay28 : zAt ad (i + 20) (ad (i + 20)) := rfl
  have hay29 : zAt ad (i + 21) (ad (i + 21)) := rfl
  have hay30 : zAt ad (i + 22) (ad (i + 22)) := rfl
  have hay31 : zAt ad (i + 23) (ad (i + 23)) := rfl
  have hn : n ≤ 900 := by omega
  refine z_of (by decide) (Nat.le_of_ble_eq_true rfl) ?_
  intro pZ eZ sZ mZ below meth cZ C hr hlk hnm
  refine z_lv (lv' := [(0, .ref (ad i)), (1, .int (zI ((n : Int))))]) [0, 1] rfl ?_
  refine z_aload_n C 0 dX10_snow_0 rfl ?_
  refine z_iconst (z := 0) C dX10_snow_1 rfl ?_
  refine z_put (fs' := mF ad (i) (uZ F 12 (0))) C (lt_A0 hN rfl) hay1 hg tyX10 tyX10_ok nmX10 rfl inA_X10 12 (by decide) q_1471 rfl rfl rfl rfl (Nat.le_of_ble_eq_true rfl) rfl dX10_snow_2 (fun gy32 egy33 => ?_)
  have hgy34 := up_s egy33
  refine z_aload_n C 0 dX10_snow_5 rfl ?_
  refine z_iload_n C 1 dX10_snow_6 rfl ?_
  refine z_if_lt (tgt := 22) C dX10_snow_7 (by decide) (by omega) (fun h => absurd h (by omega)) (fun _ => ?_)
  refine z_iload_n C 1 dX10_snow_10 rfl ?_
  refine z_aload_n C 0 dX10_snow_11 rfl ?_
  refine z_get (v := .int (zI (F 23))) C (lt_A0 hN rfl) hay1 hgy34 rfl inA_X10 23 (by decide) q_1482 rfl (fv (F := (uZ F 12 (0))) (f := 23) (fn rfl (by decide))) dX10_snow_12 ?_
  refine z_icmp_gt (tgt := 22) C dX10_snow_15 (by decide) (by omega) (by omega) (fun h => absurd h (by omega)) (fun _ => ?_)
  refine z_iconst (z := 1) C dX10_snow_18 rfl ?_
  refine z_goto (tgt := 23) C dX10_snow_19 (by decide) ?_
  refine z_iconst (z := 1) C dX10_snow_23 rfl ?_
  refine z_cV (As := [.int (zI (1)), .int (zI (1))]) (rest := []) (ci := 12) C (c_yRight l D A cs tt N ad _ i hN _ hgy34 (uZ_s _ _ _) (1) (by omega) (1) (by omega)) (lt_A0 hN rfl) hay1 hgy34 rfl rfl mv_yX10_right q_1648 hd_yX10_right (by decide) (Nat.le_of_ble_eq_true rfl) (by decide) dX10_snow_24 rfl (kI0 fun vy35 gvy35 hvy35 => ?_)
  obtain ⟨⟨Fvy35, hcvy35, hqvy35, hFvy35⟩, hfvy35⟩ := hvy35
  obtain ⟨rfl, hevy35⟩ : vy35 = 1 ∧ Fvy35 12 = 0 := by omega
  clear hqvy35
  refine z_if_ne (tgt := 32) C dX10_snow_27 (by decide) (by omega) (fun _ => ?_) (fun h => absurd h (by omega))
  refine z_aload_n C 0 dX10_snow_32 rfl ?_
  refine z_iconst (z := 0) C dX10_snow_33 rfl ?_
  refine z_put (fs' := mF ad (i) (uZ Fvy35 23 (0))) C (lt_A0 hN rfl) hay1 hcvy35 tyX10 tyX10_ok nmX10 rfl inA_X10 23 (by decide) q_1482 rfl rfl rfl rfl (Nat.le_of_ble_eq_true rfl) rfl dX10_snow_34 (fun gy36 egy37 => ?_)
  have hgy38 := up_s egy37
  refine z_aload_n C 0 dX10_snow_37 rfl ?_
  refine z_iload_n C 1 dX10_snow_38 rfl ?_
  refine z_put (fs' := mF ad (i) (uZ (uZ Fvy35 23 (0)) 34 ((n : Int)))) C (lt_A0 hN rfl) hay1 hgy38 tyX10 tyX10_ok nmX10 rfl inA_X10 34 (by decide) q_1493 rfl rfl rfl rfl (Nat.le_of_ble_eq_true rfl) rfl dX10_snow_39 (fun gy39 egy40 => ?_)
  have hgy41 := up_s egy40
  refine z_aload_n C 0 dX10_snow_42 rfl ?_
  refine z_iconst (z := 0) C dX10_snow_43 rfl ?_
  refine z_put (fs' := mF ad (i) (uZ (uZ (uZ Fvy35 23 (0)) 34 ((n : Int))) 32 (0))) C (lt_A0 hN rfl) hay1 hgy41 tyX10 tyX10_ok nmX10 rfl inA_X10 32 (by decide) q_1491 rfl rfl rfl rfl (Nat.le_of_ble_eq_true rfl) rfl dX10_snow_44 (fun gy42 egy43 => ?_)
  have hgy44 := up_s egy43
  refine z_aload_n C 0 dX10_snow_47 rfl ?_
  refine z_iconst (z := 0) C dX10_snow_48 rfl ?_
  refine z_put (fs' := mF ad (i) (uZ (uZ (uZ (uZ Fvy35 23 (0)) 34 ((n : Int))) 32 (0)) 38 (0))) C (lt_A0 hN rfl) hay1 hgy44 tyX10 tyX10_ok nmX10 rfl inA_X10 38 (by decide) q_1497 rfl rfl rfl rfl (Nat.le_of_ble_eq_true rfl) rfl dX10_snow_49 (fun gy45 egy46 => ?_)
  have hgy47 := up_s egy46
  refine z_aload_n C 0 dX10_snow_52 rfl ?_
  refine z_iconst (z := -1) C dX10_snow_53 rfl ?_
  refine z_put (fs' := mF ad (i) (uZ (uZ (uZ (uZ (uZ Fvy35 23 (0)) 34 ((n : Int))) 32 (0)) 38 (0)) 24 (-1))) C (lt_A0 hN rfl) hay1 hgy47 tyX10 tyX10_ok nmX10 rfl inA_X10 24 (by decide) q_1483 rfl rfl rfl rfl (Nat.le_of_ble_eq_true rfl) rfl dX10_snow_54 (fun gy48 egy49 => ?_)
  have hgy50 := up_s egy49
  refine z_aload_n C 0 dX10_snow_57 rfl ?_
  refine z_aload_n C 0 dX10_snow_58 rfl ?_
  refine z_aload_n C 0 dX10_snow_59 rfl ?_
  refine z_iconst (z := 0) C dX10_snow_60 rfl ?_
  refine z_dup_x1 C dX10_snow_61 rfl rfl ?_
  refine z_put (fs' := mF ad (i) (uZ (uZ (uZ (uZ (uZ (uZ Fvy35 23 (0)) 34 ((n : Int))) 32 (0)) 38 (0)) 24 (-1)) 49 (0))) C (lt_A0 hN rfl) hay1 hgy50 tyX10 tyX10_ok nmX10 rfl inA_X10 49 (by decide) q_1508 rfl rfl rfl rfl (Nat.le_of_ble_eq_true rfl) rfl dX10_snow_62 (fun gy51 egy52 => ?_)
  have hgy53 := up_s egy52
  refine z_dup_x1 C dX10_snow_65 rfl rfl ?_
  refine z_put (fs' := mF ad (i) (uZ (uZ (uZ (uZ (uZ (uZ (uZ Fvy35 23 (0)) 34 ((n : Int))) 32 (0)) 38 (0)) 24 (-1)) 49 (0)) 48 (0))) C (lt_A0 hN rfl) hay1 hgy53 tyX10 tyX10_ok nmX10 rfl inA_X10 48 (by decide) q_1507 rfl rfl rfl rfl (Nat.le_of_ble_eq_true rfl) rfl dX10_snow_66 (fun gy54 egy55 => ?_)
  have hgy56 := up_s egy55
  refine z_put (fs' := mF ad (i) (uZ (uZ (uZ (uZ (uZ (uZ (uZ (uZ Fvy35 23 (0)) 34 ((n : Int))) 32 (0)) 38 (0)) 24 (-1)) 49 (0)) 48 (0)) 47 (0))) C (lt_A0 hN rfl) hay1 hgy56 tyX10 tyX10_ok nmX10 rfl inA_X10 47 (by decide) q_1506 rfl rfl rfl rfl (Nat.le_of_ble_eq_true rfl) rfl dX10_snow_69 (fun gy57 egy58 => ?_)
  have hgy59 := up_s egy58
  refine z_iconst (z := 0) C dX10_snow_72 rfl ?_
  refine z_istore_n (lv' := [(2, .int (zI (0))), (0, .ref (ad i)), (1, .int (zI ((n : Int))))]) C dX10_snow_73 rfl (by decide) rfl ?_
  have A : ∀ (n9 : Nat) (ka : Int) (t9 : Nat → Int) (g1 : Nat → va_E), (16 - ka).toNat = n9 → (g1 (i + 22) = iA cs 15 t9) → (∀ j, j ≠ i + 22 → g1 j = gy57 j) → (∀ k : Nat, (k : Int) < ka → t9 k = -1) → (0 ≤ ka ∧ ka ≤ 15) → zV pZ l eZ ({ frames := 8, cells := 0, slots := 0, locals := 480 } : Room) sZ mZ ([.ref (ad i), .int (zI (n : Int))] : List Value).toArray below meth cZ (MQ below (zPost D A (rI0 N ad fun q g' => (0 ≤ q ∧ q ≤ 5) ∧ (∃ (k9 : Nat) (pl9 : Int) (s9 : Int × Int × Int × (Nat → Int) × (Nat → Int) × (Nat → Int) × (Nat → Int) × (Nat → Int) × (Nat → Int) × (Nat → Int) × (Nat → Int) × (Nat → Nat → Int)), ps_run T n k9 (0, 0, 0, (fun _ => 0), st0, op0, ai0, fa0, mu0, tabZ, (fun _ => 0), L0) (tk_at T n 0) = some ((q, pl9), s9) ∧ ((q = 0 ∧ (∃ F' r' st' op' ai' fa' mu' tb' : Nat → Int, okMr cs ad g' i (x + 1) F' r' st' op' ai' fa' mu' tb' tp ∧ F' 12 = 0 ∧ (F' 13 = s9.1 ∧ F' 14 = s9.2.1 ∧ F' 15 = 0 ∧ F' 16 = 0 ∧ F' 17 = 0 ∧ F' 18 = F 18 ∧ F' 19 = F 19 ∧ F' 20 = F 20 ∧ F' 21 = 0 ∧ F' 23 = 0 ∧ F' 24 = pl9) ∧ (F' 25 = 0 ∧ F' 26 = -1 ∧ F' 27 = -1 ∧ F' 29 = 0) ∧ dT s9 st' op' ai' fa' mu' tb' ∧ rwT s9 r' ∧ ∀ j, 350 ≤ j → r' j = r j)) ∨ (q ≠ 0 ∧ (∃ F' r' : Nat → Int, okMr cs ad g' i (x + 1) F' r' st op ai fa mu tb tp ∧ F' 12 = 0 ∧ (F' 13 = F 13 ∧ F' 14 = F 14 ∧ F' 15 = F 15 ∧ F' 16 = F 16 ∧ F' 17 = F 17 ∧ F' 18 = F 18 ∧ F' 19 = F 19 ∧ F' 20 = F 20 ∧ F' 21 = F 21 ∧ F' 23 = 0 ∧ F' 24 = pl9) ∧ (F' 25 = 0 ∧ F' 26 = -1 ∧ F' 27 = -1 ∧ F' 29 = 0) ∧ r' = r)))) ∧ (∃ rr' : Nat → Int, g' (i + 11) = iA cs 6 rr' ∧ rr' = if q = 0 then rr else uZ rr 0 (rr 0 + 1)) ∧ (∀ j, j < i ∨ i + 30 ≤ j → g' j = g j) ∧ ∀ j, i + 8 ≤ j → j ≤ i + 12 → j ≠ i + 11 → g' j = g j)) ([.ref (ad i), .int (zI (n : Int))] : List Value).toArray sZ ({ frames := 8, cells := 0, slots := 0, locals := 480 } : Room).cells ({ frames := 8, cells := 0, slots := 0, locals := 480 } : Room).slots A) D A 3 (N) ad g1 (0) (0) 74 [(0, .ref (ad i)), (1, .int (zI ((n : Int)))), (2, .int (zI (ka)))] [] := by
    intro n9
    induction n9 using Nat.strongRecOn with
    | ind n9 ih_A =>
      intro ka t9 g1 hm9 f2A_t9 f3A fTa hvkA
      obtain ⟨nkA, hnkA⟩ : ∃ n9 : Nat, ka = (n9 : Int) := ⟨ka.toNat, by omega⟩
      refine z_iload_n C 2 dX10_snow_74 rfl ?_
      refine z_bipush (z := 15) C dX10_snow_75 (by decide) ?_
      refine z_icmp_ge (tgt := 93) C dX10_snow_77 (by decide) (by omega) (by omega) (fun hby60 => ?_) (fun hby60 => ?_)
      · refine z_aload_n C 0 dX10_snow_93 rfl ?_
        have hgy61 := (f3A (i) (ne_o (i := i) (c := 0) (d := 22) rfl)).trans hgy59
        have hgy62 := up_n egy33 ha13 (ne_o (i := i) (c := 13) (d := 0) rfl)
        have hgy63 := (hfvy35 (i + 13) (ne_o (i := i) (c := 13) (d := 0) rfl)).trans hgy62
        have hgy64 := up_n egy37 hgy63 (ne_o (i := i) (c := 13) (d := 0) rfl)
        have hgy65 := up_n egy40 hgy64 (ne_o (i := i) (c := 13) (d := 0) rfl)
        have hgy66 := up_n egy43 hgy65 (ne_o (i := i) (c := 13) (d := 0) rfl)
        have hgy67 := up_n egy46 hgy66 (ne_o (i := i) (c := 13) (d := 0) rfl)
        have hgy68 := up_n egy49 hgy67 (ne_o (i := i) (c := 13) (d := 0) rfl)
        have hgy69 := up_n egy52 hgy68 (ne_o (i := i) (c := 13) (d := 0) rfl)
        have hgy70 := up_n egy55 hgy69 (ne_o (i := i) (c := 13) (d := 0) rfl)
        have hgy71 := up_n egy58 hgy70 (ne_o (i := i) (c := 13) (d := 0) rfl)
        have hgy72 := (f3A (i + 13) (ne_o (i := i) (c := 13) (d := 22) rfl)).trans hgy71
        have h32vy73 : (uZ (uZ (uZ (uZ (uZ (uZ (uZ (uZ Fvy35 23 (0)) 34 ((n : Int))) 32 (0)) 38 (0)) 24 (-1)) 49 (0)) 48 (0)) 47 (0)) 32 = 0 := (fn (fn (fn (fn (fn (uZ_s _ _ _) (by decide)) (by decide)) (by decide)) (by decide)) (by decide))
        have h34vy73 : (uZ (uZ (uZ (uZ (uZ (uZ (uZ (uZ Fvy35 23 (0)) 34 ((n : Int))) 32 (0)) 38 (0)) 24 (-1)) 49 (0)) 48 (0)) 47 (0)) 34 = (n : Int) := (fn (fn (fn (fn (fn (fn (uZ_s _ _ _) (by decide)) (by decide)) (by decide)) (by decide)) (by decide)) (by decide))
        have h38vy73 : (uZ (uZ (uZ (uZ (uZ (uZ (uZ (uZ Fvy35 23 (0)) 34 ((n : Int))) 32 (0)) 38 (0)) 24 (-1)) 49 (0)) 48 (0)) 47 (0)) 38 = 0 := (fn (fn (fn (fn (uZ_s _ _ _) (by decide)) (by decide)) (by decide)) (by decide))
        refine z_cV (As := []) (rest := []) (ci := 12) C (c_yGo l D A cs tt N ad _ i hN _ hgy61 _ hgy72 T n hn hTb hTt htp 0 (by omega) (by omega) (by omega) (by omega)) (lt_A0 hN rfl) hay1 hgy61 rfl rfl mv_yX10_go q_1652 hd_yX10_go (by decide) (Nat.le_of_ble_eq_true rfl) (by decide) dX10_snow_94 rfl (kV0 fun gvy73 hvy73 => ?_)
        obtain ⟨⟨Fvy73, hcvy73, hkvy73, hFvy73⟩, hfvy73⟩ := hvy73
        have hsry74 := srt_b T n (tk_at T n 0)
        have hvly75 := vlu_b hTb (tk_at T n 0)
        have hwby76 := tk_w_b T n (tk_at T n 0)
        have hfny77 := hkvy73.1
        have hat0 := tk_at_b (T := T) (n := n) (p := 0) (by omega)
        have L : ∀ (n9 : Nat) (f : Nat) (s9 : Int × Int × Int × (Nat → Int) × (Nat → Int) × (Nat → Int) × (Nat → Int) × (Nat → Int) × (Nat → Int) × (Nat → Int) × (Nat → Int) × (Nat → Nat → Int)) (F9 : Nat → Int) (g1 : Nat → va_E), n - f = n9 → (g1 i = mC ad i F9) → (tkR T n F9 f) → (xTx cs g1 i F9 s9) → (∀ r9, (∃ k9, ps_run T n k9 s9 f = some r9) → ∃ k9, ps_run T n k9 (0, 0, 0, (fun _ => 0), st0, op0, ai0, fa0, mu0, tabZ, (fun _ => 0), L0) (tk_at T n 0) = some r9) → ((∀ f, f ≠ 12 → f ≠ 23 → f ≠ 24 → f ≠ 32 → f ≠ 33 → f ≠ 34 → f ≠ 35 → f ≠ 36 → f ≠ 37 → f ≠ 38 → f ≠ 47 → f ≠ 48 → f ≠ 49 → F9 f = F f)) → (∀ j, j ≠ i → j < i + 16 ∨ i + 23 < j → g1 j = g j) → (F9 38 = 0 ∧ F9 24 = -1 ∧ F9 23 = 0 ∧ F9 12 = 0) → zV pZ l eZ ({ frames := 8, cells := 0, slots := 0, locals := 480 } : Room) sZ mZ ([.ref (ad i), .int (zI (n : Int))] : List Value).toArray below meth cZ (MQ below (zPost D A (rI0 N ad fun q g' => (0 ≤ q ∧ q ≤ 5) ∧ (∃ (k9 : Nat) (pl9 : Int) (s9 : Int × Int × Int × (Nat → Int) × (Nat → Int) × (Nat → Int) × (Nat → Int) × (Nat → Int) × (Nat → Int) × (Nat → Int) × (Nat → Int) × (Nat → Nat → Int)), ps_run T n k9 (0, 0, 0, (fun _ => 0), st0, op0, ai0, fa0, mu0, tabZ, (fun _ => 0), L0) (tk_at T n 0) = some ((q, pl9), s9) ∧ ((q = 0 ∧ (∃ F' r' st' op' ai' fa' mu' tb' : Nat → Int, okMr cs ad g' i (x + 1) F' r' st' op' ai' fa' mu' tb' tp ∧ F' 12 = 0 ∧ (F' 13 = s9.1 ∧ F' 14 = s9.2.1 ∧ F' 15 = 0 ∧ F' 16 = 0 ∧ F' 17 = 0 ∧ F' 18 = F 18 ∧ F' 19 = F 19 ∧ F' 20 = F 20 ∧ F' 21 = 0 ∧ F' 23 = 0 ∧ F' 24 = pl9) ∧ (F' 25 = 0 ∧ F' 26 = -1 ∧ F' 27 = -1 ∧ F' 29 = 0) ∧ dT s9 st' op' ai' fa' mu' tb' ∧ rwT s9 r' ∧ ∀ j, 350 ≤ j → r' j = r j)) ∨ (q ≠ 0 ∧ (∃ F' r' : Nat → Int, okMr cs ad g' i (x + 1) F' r' st op ai fa mu tb tp ∧ F' 12 = 0 ∧ (F' 13 = F 13 ∧ F' 14 = F 14 ∧ F' 15 = F 15 ∧ F' 16 = F 16 ∧ F' 17 = F 17 ∧ F' 18 = F 18 ∧ F' 19 = F 19 ∧ F' 20 = F 20 ∧ F' 21 = F 21 ∧ F' 23 = 0 ∧ F' 24 = pl9) ∧ (F' 25 = 0 ∧ F' 26 = -1 ∧ F' 27 = -1 ∧ F' 29 = 0) ∧ r' = r)))) ∧ (∃ rr' : Nat → Int, g' (i + 11) = iA cs 6 rr' ∧ rr' = if q = 0 then rr else uZ rr 0 (rr 0 + 1)) ∧ (∀ j, j < i ∨ i + 30 ≤ j → g' j = g j) ∧ ∀ j, i + 8 ≤ j → j ≤ i + 12 → j ≠ i + 11 → g' j = g j)) ([.ref (ad i), .int (zI (n : Int))] : List Value).toArray sZ ({ frames := 8, cells := 0, slots := 0, locals := 480 } : Room).cells ({ frames := 8, cells := 0, slots := 0, locals := 480 } : Room).slots A) D A 3 (N) ad g1 (0) (0) 97 [(0, .ref (ad i)), (1, .int (zI ((n : Int))))] [] := by
          intro n9
          induction n9 using Nat.strongRecOn with
          | ind n9 ih_L =>
            intro f s9 F9 g1 hm9 f2L hkL hXL hf9 fF f3L hsL
            have hay78 : zAt ad (i) (ad i) := rfl
            have hay79 : zAt ad (i + 1) (ad (i + 1)) := rfl
            have hay80 : zAt ad (i + 2) (ad (i + 2)) := rfl
            have hay81 : zAt ad (i + 3) (ad (i + 3)) := rfl
            have hay82 : zAt ad (i + 4) (ad (i + 4)) := rfl
            have hay83 : zAt ad (i + 5) (ad (i + 5)) := rfl
            have hay84 : zAt ad (i + 6) (ad (i + 6)) := rfl
            have hay85 : zAt ad (i + 7) (ad (i + 7)) := rfl
            have hay86 : zAt ad (i + 8) (ad (i + 8)) := rfl
            have hay87 : zAt ad (i + 9) (ad (i + 9)) := rfl
            have hay88 : zAt ad (i + 10) (ad (i + 10)) := rfl
            have hay89 : zAt ad (i + 11) (ad (i + 11)) := rfl
            have hay90 : zAt ad (i + 12) (ad (i + 12)) := rfl
            have hay91 : zAt ad (i + 13) (ad (i + 13)) := rfl
            have hay92 : zAt ad (i + 14) (ad (i + 14)) := rfl
            have hay93 : zAt ad (i + 15) (ad (i + 15)) := rfl
            have hay94 : zAt ad (i + 24) (ad (i + 24)) := rfl
            have hay95 : zAt ad (i + 25) (ad (i + 25)) := rfl
            have hay96 : zAt ad (i + 26) (ad (i + 26)) := rfl
            have hay97 : zAt ad (i + 27) (ad (i + 27)) := rfl
            have hay98 : zAt ad (i + 28) (ad (i + 28)) := rfl
            have hay99 : zAt ad (i + 29) (ad (i + 29)) := rfl
            have hsry100 := srt_b T n f
            have hvly101 := vlu_b hTb f
            have hwby102 := tk_w_b T n f
            have hfny103 := hkL.1
            have r32 : F9 32 = ((tk_to T n f : Nat) : Int) := hkL.2.1
            have hto0 := tk_to_nx (T := T) (n := n) (f := f) hkL.1.1
            refine z_aload_n C 0 dX10_snow_97 rfl ?_
            refine z_get (v := .int (zI (0))) C (lt_A0 hN rfl) hay78 f2L rfl inA_X10 38 (by decide) q_1497 rfl (fv (F := F9) (f := 38) hsL.1) dX10_snow_98 ?_
            refine z_if_ne (tgt := 159) C dX10_snow_101 (by decide) (by omega) (fun h => absurd h (by omega)) (fun _ => ?_)
            refine z_aload_n C 0 dX10_snow_104 rfl ?_
            refine z_get (v := .int (zI (srt (tk_so T n f)))) C (lt_A0 hN rfl) hay78 f2L rfl inA_X10 35 (by decide) q_1494 rfl (fv (F := F9) (f := 35) hkL.2.2.2.2.1) dX10_snow_105 ?_
            refine z_if_eq (tgt := 159) C dX10_snow_108 (by decide) (by omega) (fun hby104 => ?_) (fun hby104 => ?_)
            · have hso : tk_so T n f = 0 := srt0.mp (by omega)
              refine z_aload_n C 0 dX10_snow_159 rfl ?_
              refine z_get (v := .int (zI (0))) C (lt_A0 hN rfl) hay78 f2L rfl inA_X10 38 (by decide) q_1497 rfl (fv (F := F9) (f := 38) hsL.1) dX10_snow_160 ?_
              refine z_if_eq (tgt := 181) C dX10_snow_163 (by decide) (by omega) (fun _ => ?_) (fun h => absurd h (by omega))
              refine z_aload_n C 0 dX10_snow_181 rfl ?_
              have hey105 : F9 13 = F 13 := (fF 13 (by decide) (by decide) (by decide) (by decide) (by decide) (by decide) (by decide) (by decide) (by decide) (by decide) (by decide) (by decide) (by decide))
              have hey106 : F9 14 = F 14 := (fF 14 (by decide) (by decide) (by decide) (by decide) (by decide) (by decide) (by decide) (by decide) (by decide) (by decide) (by decide) (by decide) (by decide))
              have hey107 : F9 15 = F 15 := (fF 15 (by decide) (by decide) (by decide) (by decide) (by decide) (by decide) (by decide) (by decide) (by decide) (by decide) (by decide) (by decide) (by decide))
              have hey108 : F9 16 = F 16 := (fF 16 (by decide) (by decide) (by decide) (by decide) (by decide) (by decide) (by decide) (by decide) (by decide) (by decide) (by decide) (by decide) (by decide))
              have hey109 : F9 17 = F 17 := (fF 17 (by decide) (by decide) (by decide) (by decide) (by decide) (by decide) (by decide) (by decide) (by decide) (by decide) (by decide) (by decide) (by decide))
              have hey110 : F9 18 = F 18 := (fF 18 (by decide) (by decide) (by decide) (by decide) (by decide) (by decide) (by decide) (by decide) (by decide) (by decide) (by decide) (by decide) (by decide))
              have hey111 : F9 19 = F 19 := (fF 19 (by decide) (by decide) (by decide) (by decide) (by decide) (by decide) (by decide) (by decide) (by decide) (by decide) (by decide) (by decide) (by decide))
              have hey112 : F9 20 = F 20 := (fF 20 (by decide) (by decide) (by decide) (by decide) (by decide) (by decide) (by decide) (by decide) (by decide) (by decide) (by decide) (by decide) (by decide))
              have hey113 : F9 21 = F 21 := (fF 21 (by decide) (by decide) (by decide) (by decide) (by decide) (by decide) (by decide) (by decide) (by decide) (by decide) (by decide) (by decide) (by decide))
              have hey114 : F9 23 = 0 := hsL.2.2.1
              have hey115 : F9 25 = F 25 := (fF 25 (by decide) (by decide) (by decide) (by decide) (by decide) (by decide) (by decide) (by decide) (by decide) (by decide) (by decide) (by decide) (by decide))
              have hey116 : F9 27 = F 27 := (fF 27 (by decide) (by decide) (by decide) (by decide) (by decide) (by decide) (by decide) (by decide) (by decide) (by decide) (by decide) (by decide) (by decide))
              have hey117 : F9 28 = F 28 := (fF 28 (by decide) (by decide) (by decide) (by decide) (by decide) (by decide) (by decide) (by decide) (by decide) (by decide) (by decide) (by decide) (by decide))
              have hey118 : F9 29 = F 29 := (fF 29 (by decide) (by decide) (by decide) (by decide) (by decide) (by decide) (by decide) (by decide) (by decide) (by decide) (by decide) (by decide) (by decide))
              have hey119 : F9 24 = (-1) := hsL.2.1
              have hey120 : F9 12 = 0 := hsL.2.2.2
              have hey121 : F9 32 = ((tk_to T n f : Nat) : Int) := hkL.2.1
              have hey122 : F9 38 = 0 := hsL.1
              have hey123 : F9 47 = F9 47 := rfl
              have hey124 : F9 48 = F9 48 := rfl
              have hey125 : F9 49 = F9 49 := rfl
              have hey126 : F9 26 = F 26 := (fF 26 (by decide) (by decide) (by decide) (by decide) (by decide) (by decide) (by decide) (by decide) (by decide) (by decide) (by decide) (by decide) (by decide))
              have hKy127 : okF F9 := by unfold okF; omega
              have htky128 : tkR T n F9 f := hkL
              have hMy129 : okMr cs ad g1 i x F9 r st op ai fa mu tb tp := okMr.upd2 hM f2L hKy127 (htky128.rd hTb) hXL.ok ((f3L _ (by omega) (by omega)).trans ha1) hA (fun j a b c => by
                  exact Or.inl (by rw [f3L _ (by omega) (by omega)]))
              refine z_cV (As := []) (rest := []) (ci := 12) C (c_X10_becomes l D A cs tt N ad _ i hN x hx _ _ hMy129 s9 hXL) (lt_A0 hN rfl) hay78 f2L rfl rfl mv_yX10_becomes q_1713 hd_yX10_becomes (by decide) (Nat.le_of_ble_eq_true rfl) (by decide) dX10_snow_182 rfl (kV0 fun gvy130 hvy130 => ?_)
              obtain ⟨⟨Fvy130, rvy130, stvy130, opvy130, aivy130, favy130, muvy130, tbvy130, hMvy130, hKvy130, hLvy130, h12vy130, hDvy130, hRwvy130, hRovy130⟩, hfvy130⟩ := hvy130
              refine z_iconst (z := 0) C dX10_snow_185 rfl ?_
              obtain ⟨k9, hk9⟩ := hf9 ((0, -1), s9) ⟨1, by simp only [ps_run]; rw [if_pos hso]⟩
              have hMx := okMr.mono (y := x + 1) hMvy130 (by omega)
              have hgy131 := (hfvy130 (i + 11) (by omega)).trans ((f3L _ (by omega) (by omega)).trans hrr)
              exact z_iret C hr hlk dX10_snow_186 (by decide) (by decide) ⟨0, rfl, rfl, rfl, by omega, ⟨k9, -1, s9, hk9, Or.inl ⟨rfl, _, _, _, _, _, _, _, _, hMx, by omega, by omega, by omega, hDvy130, hRwvy130, hRovy130⟩⟩, ⟨_, hgy131, (if_pos rfl).symm⟩, fun j j1 => by rw [hfvy130 _ (by omega)]; rw [f3L _ (by omega) (by omega)], fun j j1 j2 j3 => by rw [hfvy130 _ (by omega)]; rw [f3L _ (by omega) (by omega)]⟩
            · have hso : ¬ (tk_so T n f = 0) := fun e9 => by have := srt0.mpr e9; omega
              refine z_aload_n C 0 dX10_snow_111 rfl ?_
              have hfl : f < n := (so_ty (T := T) (n := n) (f := f) hso).1
              refine z_cV (As := []) (rest := []) (ci := 12) C (c_yClause1 l D A cs tt N ad _ i hN _ f2L _ ((f3L _ (by omega) (by omega)).trans ha13) T n hn hTb hTt htp f hkL hsL.1 hfl (s9.1) (s9.2.1) (s9.2.2.1) (s9.2.2.2.1) (s9.2.2.2.2.1) (s9.2.2.2.2.2.1) (s9.2.2.2.2.2.2.1) (s9.2.2.2.2.2.2.2.1) (s9.2.2.2.2.2.2.2.2.1) (s9.2.2.2.2.2.2.2.2.2.1) (s9.2.2.2.2.2.2.2.2.2.2.1) (s9.2.2.2.2.2.2.2.2.2.2.2) hXL) (lt_A0 hN rfl) hay78 f2L rfl rfl mv_yX10_clause1 q_1670 hd_yX10_clause1 (by decide) (Nat.le_of_ble_eq_true rfl) (by decide) dX10_snow_112 rfl (kV0 fun gvy132 hvy132 => ?_)
              obtain ⟨⟨Fvy132, hcvy132, hFvy132, hqvy132⟩, hfvy132⟩ := hvy132
              rcases hqvy132 with hqvy132 | hqvy132
              · obtain ⟨vvy132, hv0vy132, havy132, hb0vy132, hlvy132, hkvy132, hxvy132⟩ := hqvy132
                have hvvy132 : ps_cl T n s9 f = .ok vvy132 := hv0vy132
                have hbvy132 : Fvy132 24 = -1 := hb0vy132.trans hsL.2.1
                have hsry133 := srt_b T n vvy132.2
                have hvly134 := vlu_b hTb vvy132.2
                have hwby135 := tk_w_b T n vvy132.2
                have hfny136 := hkvy132.1
                have hzvy132 := hkvy132.2.1
                have hwvy132 := tk_to_nx (T := T) (n := n) (f := vvy132.2) hkvy132.1.1
                refine z_aload_n C 0 dX10_snow_115 rfl ?_
                refine z_get (v := .int (zI (0))) C (lt_A0 hN rfl) hay78 hcvy132 rfl inA_X10 38 (by decide) q_1497 rfl (fv (F := Fvy132) (f := 38) havy132) dX10_snow_116 ?_
                refine z_if_ne (tgt := 97) C dX10_snow_119 (by decide) (by omega) (fun h => absurd h (by omega)) (fun _ => ?_)
                by_cases h3 : tk_so T n vvy132.2 = 3
                · have hs3 : srt (tk_so T n vvy132.2) = 3 := by rw [h3]; rfl
                  have hv59 : vlu T n vvy132.2 = 59 := (vlu3 hs3 59 3 (by omega)).mpr h3
                  refine z_aload_n C 0 dX10_snow_122 rfl ?_
                  refine z_aload_n C 0 dX10_snow_123 rfl ?_
                  refine z_get (v := .int (zI (srt (tk_so T n vvy132.2)))) C (lt_A0 hN rfl) hay78 hcvy132 rfl inA_X10 35 (by decide) q_1494 rfl (fv (F := Fvy132) (f := 35) hkvy132.2.2.2.2.1) dX10_snow_124 ?_
                  refine z_iconst (z := 3) C dX10_snow_127 rfl ?_
                  refine z_icmp_ne (tgt := 144) C dX10_snow_128 (by decide) (by omega) (by omega) (fun h => absurd h (by omega)) (fun _ => ?_)
                  refine z_aload_n C 0 dX10_snow_131 rfl ?_
                  refine z_get (v := .int (zI (vlu T n vvy132.2))) C (lt_A0 hN rfl) hay78 hcvy132 rfl inA_X10 36 (by decide) q_1495 rfl (fv (F := Fvy132) (f := 36) hkvy132.2.2.2.2.2.1) dX10_snow_132 ?_
                  refine z_bipush (z := 59) C dX10_snow_135 (by decide) ?_
                  refine z_icmp_ne (tgt := 144) C dX10_snow_137 (by decide) (by omega) (by omega) (fun h => absurd h (by omega)) (fun _ => ?_)
                  refine z_iconst (z := 1) C dX10_snow_140 rfl ?_
                  refine z_goto (tgt := 145) C dX10_snow_141 (by decide) ?_
                  refine z_iconst (z := 1) C dX10_snow_145 rfl ?_
                  have h33vy137 : Fvy132 33 = (vvy132.2 : Int) := hkvy132.2.2.1
                  have h24vy137 : Fvy132 24 = (-1) := hbvy132
                  have htvy137 : tkR T n Fvy132 vvy132.2 := hkvy132
                  refine z_cV (As := [.int (zI (1)), .int (zI (1))]) (rest := []) (ci := 12) C (c_yWants l D A cs tt N ad _ i hN _ hcvy132 havy132 (1) (by omega) (1) (by omega)) (lt_A0 hN rfl) hay78 hcvy132 rfl rfl mv_yX10_wants q_1678 hd_yX10_wants (by decide) (Nat.le_of_ble_eq_true rfl) (by decide) dX10_snow_146 rfl (kI0 fun vy137 gvy137 hvy137 => ?_)
                  obtain ⟨⟨Fvy137, hcvy137, hqvy137, hFvy137⟩, hfvy137⟩ := hvy137
                  obtain ⟨rfl, hevy137, hbvy137⟩ : vy137 = 1 ∧ Fvy137 38 = 0 ∧ Fvy137 24 = (-1) := by omega
                  clear hqvy137 h33vy137 h24vy137
                  have hkvy137 : tkR T n Fvy137 vvy132.2 := tkR.w htvy137 hFvy137 (by omega)
                  refine z_if_eq (tgt := 97) C dX10_snow_149 (by decide) (by omega) (fun h => absurd h (by omega)) (fun _ => ?_)
                  refine z_aload_n C 0 dX10_snow_152 rfl ?_
                  have hgy138 := (hfvy132 (i + 13) (ne_o (i := i) (c := 13) (d := 0) rfl) (by omega)).trans ((f3L _ (by omega) (by omega)).trans ha13)
                  have hgy139 := (hfvy137 (i + 13) (ne_o (i := i) (c := 13) (d := 0) rfl)).trans hgy138
                  have htvy140 : tkR T n Fvy137 vvy132.2 := hkvy137
                  refine z_cV (As := []) (rest := []) (ci := 12) C (c_yGo l D A cs tt N ad _ i hN _ hcvy137 _ hgy139 T n hn hTb hTt htp (tk_to T n vvy132.2) (tk_to_b htvy140.1.1).2.1 htvy140.2.1 htvy140.2.2.2.1 htvy140.2.2.2.2.2.2.2) (lt_A0 hN rfl) hay78 hcvy137 rfl rfl mv_yX10_go q_1652 hd_yX10_go (by decide) (Nat.le_of_ble_eq_true rfl) (by decide) dX10_snow_153 rfl (kV0 fun gvy140 hvy140 => ?_)
                  obtain ⟨⟨Fvy140, hcvy140, hjvy140, hFvy140⟩, hfvy140⟩ := hvy140
                  have hkvy140 : tkR T n Fvy140 (tk_nx T n vvy132.2) := hjvy140
                  have hnbvy140 := tk_nx_s (T := T) (n := n) (f := vvy132.2) (so_ty (T := T) (n := n) (f := vvy132.2) (by omega)).1
                  clear hjvy140
                  have hsry141 := srt_b T n (tk_nx T n vvy132.2)
                  have hvly142 := vlu_b hTb (tk_nx T n vvy132.2)
                  have hwby143 := tk_w_b T n (tk_nx T n vvy132.2)
                  have hfny144 := hkvy140.1
                  have hstvy132 := ps_step_ok hvvy132 h3
                  have hf2vy132 : ∀ r9, (∃ k9, ps_run T n k9 vvy132.1 (tk_nx T n vvy132.2) = some r9) → ∃ k9, ps_run T n k9 (0, 0, 0, (fun _ => 0), st0, op0, ai0, fa0, mu0, tabZ, (fun _ => 0), L0) (tk_at T n 0) = some r9 := fun r9 ⟨k9, hk9⟩ => hf9 r9 ⟨k9 + 1, by simp only [ps_run]; rw [if_neg hso, hstvy132]; exact hk9⟩
                  refine z_goto (tgt := 97) C dX10_snow_156 (by decide) ?_
                  have hey145 : Fvy140 12 = 0 := ((hFvy140 12 (by decide) (by decide) (by decide) (by decide) (by decide)).trans ((hFvy137 12 (by decide) (by decide)).trans ((hFvy132 12 (by decide) (by decide) (by decide) (by decide) (by decide) (by decide) (by decide) (by decide) (by decide) (by decide)).trans hsL.2.2.2)))
                  have hey146 : Fvy140 23 = 0 := ((hFvy140 23 (by decide) (by decide) (by decide) (by decide) (by decide)).trans ((hFvy137 23 (by decide) (by decide)).trans ((hFvy132 23 (by decide) (by decide) (by decide) (by decide) (by decide) (by decide) (by decide) (by decide) (by decide) (by decide)).trans hsL.2.2.1)))
                  have hey147 : Fvy140 24 = (-1) := ((hFvy140 24 (by decide) (by decide) (by decide) (by decide) (by decide)).trans hbvy137)
                  have hey148 : Fvy140 32 = ((tk_to T n (tk_nx T n vvy132.2) : Nat) : Int) := hkvy140.2.1
                  have hey149 : Fvy140 38 = 0 := ((hFvy140 38 (by decide) (by decide) (by decide) (by decide) (by decide)).trans hevy137)
                  have hey150 : Fvy140 47 = Fvy132 47 := ((hFvy140 47 (by decide) (by decide) (by decide) (by decide) (by decide)).trans (hFvy137 47 (by decide) (by decide)))
                  have hey151 : Fvy140 48 = Fvy132 48 := ((hFvy140 48 (by decide) (by decide) (by decide) (by decide) (by decide)).trans (hFvy137 48 (by decide) (by decide)))
                  have hey152 : Fvy140 49 = Fvy132 49 := ((hFvy140 49 (by decide) (by decide) (by decide) (by decide) (by decide)).trans (hFvy137 49 (by decide) (by decide)))
                  have htky153 : tkR T n Fvy140 (tk_nx T n vvy132.2) := hkvy140
                  have htoy155 := tk_to_w (T := T) (n := n) (f := (tk_nx T n vvy132.2)) htky153.1.1
                  have h32y156 := htky153.2.1
                  have hxty154 : xTx cs gvy140 i Fvy140 vvy132.1 := hxvy132.mv (fun j a b => by rw [hfvy140 _ (by omega)]; rw [hfvy137 _ (by omega)]) ⟨by omega, by omega, by omega, by omega⟩
                  have hFy157 : ∀ f, f ≠ 24 → f ≠ 32 → f ≠ 33 → f ≠ 35 → f ≠ 36 → f ≠ 37 → f ≠ 38 → f ≠ 47 → f ≠ 48 → f ≠ 49 → Fvy140 f = F9 f := fun f n24 n32 n33 n35 n36 n37 n38 n47 n48 n49 => ((hFvy140 f n32 n33 n35 n36 n37).trans ((hFvy137 f n24 n38).trans (hFvy132 f n24 n32 n33 n35 n36 n37 n38 n47 n48 n49)))
                  have hFFy158 : (∀ f, f ≠ 12 → f ≠ 23 → f ≠ 24 → f ≠ 32 → f ≠ 33 → f ≠ 34 → f ≠ 35 → f ≠ 36 → f ≠ 37 → f ≠ 38 → f ≠ 47 → f ≠ 48 → f ≠ 49 → Fvy140 f = F f) := fun f n12 n23 n24 n32 n33 n34 n35 n36 n37 n38 n47 n48 n49 => (hFy157 f n24 n32 n33 n35 n36 n37 n38 n47 n48 n49).trans (fF f n12 n23 n24 n32 n33 n34 n35 n36 n37 n38 n47 n48 n49)
                  refine z_lv (lv' := [(0, .ref (ad i)), (1, .int (zI ((n : Int))))]) [0, 1] rfl ?_
                  exact ih_L _ (by omega) (tk_nx T n vvy132.2) vvy132.1 _ gvy140 rfl hcvy140 htky153 hxty154 hf2vy132 hFFy158 (fun j j1 j2 => by rw [hfvy140 _ (by omega)]; rw [hfvy137 _ (by omega)]; rw [hfvy132 _ (by omega) (by omega)]; rw [f3L _ (by omega) (by omega)]) (by omega)
                · refine z_aload_n C 0 dX10_snow_122 rfl ?_
                  refine z_aload_n C 0 dX10_snow_123 rfl ?_
                  refine z_get (v := .int (zI (srt (tk_so T n vvy132.2)))) C (lt_A0 hN rfl) hay78 hcvy132 rfl inA_X10 35 (by decide) q_1494 rfl (fv (F := Fvy132) (f := 35) hkvy132.2.2.2.2.1) dX10_snow_124 ?_
                  refine z_iconst (z := 3) C dX10_snow_127 rfl ?_
                  refine z_icmp_ne (tgt := 144) C dX10_snow_128 (by decide) (by omega) (by omega) (fun hby159 => ?_) (fun hby159 => ?_)
                  · refine z_iconst (z := 0) C dX10_snow_144 rfl ?_
                    refine z_iconst (z := 1) C dX10_snow_145 rfl ?_
                    have h33vy160 : Fvy132 33 = (vvy132.2 : Int) := hkvy132.2.2.1
                    have h24vy160 : Fvy132 24 = (-1) := hbvy132
                    have htvy160 : tkR T n Fvy132 vvy132.2 := hkvy132
                    refine z_cV (As := [.int (zI (0)), .int (zI (1))]) (rest := []) (ci := 12) C (c_yWants l D A cs tt N ad _ i hN _ hcvy132 havy132 (0) (by omega) (1) (by omega)) (lt_A0 hN rfl) hay78 hcvy132 rfl rfl mv_yX10_wants q_1678 hd_yX10_wants (by decide) (Nat.le_of_ble_eq_true rfl) (by decide) dX10_snow_146 rfl (kI0 fun vy160 gvy160 hvy160 => ?_)
                    obtain ⟨⟨Fvy160, hcvy160, hqvy160, hFvy160⟩, hfvy160⟩ := hvy160
                    obtain ⟨rfl, hevy160, hbvy160⟩ : vy160 = 0 ∧ Fvy160 38 = 1 ∧ Fvy160 24 = (vvy132.2 : Int) := by omega
                    clear hqvy160 h33vy160 h24vy160
                    have hkvy160 : tkR T n Fvy160 vvy132.2 := tkR.w htvy160 hFvy160 (by omega)
                    refine z_if_eq (tgt := 97) C dX10_snow_149 (by decide) (by omega) (fun _ => ?_) (fun h => absurd h (by omega))
                    refine z_aload_n C 0 dX10_snow_97 rfl ?_
                    refine z_get (v := .int (zI (1))) C (lt_A0 hN rfl) hay78 hcvy160 rfl inA_X10 38 (by decide) q_1497 rfl (fv (F := Fvy160) (f := 38) hevy160) dX10_snow_98 ?_
                    refine z_if_ne (tgt := 159) C dX10_snow_101 (by decide) (by omega) (fun _ => ?_) (fun h => absurd h (by omega))
                    refine z_aload_n C 0 dX10_snow_159 rfl ?_
                    refine z_get (v := .int (zI (1))) C (lt_A0 hN rfl) hay78 hcvy160 rfl inA_X10 38 (by decide) q_1497 rfl (fv (F := Fvy160) (f := 38) hevy160) dX10_snow_160 ?_
                    refine z_if_eq (tgt := 181) C dX10_snow_163 (by decide) (by omega) (fun h => absurd h (by omega)) (fun _ => ?_)
                    refine z_aload_n C 0 dX10_snow_166 rfl ?_
                    refine z_get (v := .ref (ad (i + 11))) C (lt_A0 hN rfl) hay78 hcvy160 rfl inA_X10 10 (by decide) q_1469 rfl rfl dX10_snow_167 ?_
                    refine z_iconst (z := 0) C dX10_snow_170 rfl ?_
                    refine z_dup2 C dX10_snow_171 rfl rfl ?_
                    have hgy161 := (hfvy132 (i + 11) (ne_o (i := i) (c := 11) (d := 0) rfl) (by omega)).trans ((f3L _ (by omega) (by omega)).trans hrr)
                    have hgy162 := (hfvy160 (i + 11) (ne_o (i := i) (c := 11) (d := 0) rfl)).trans hgy161
                    refine z_iald C (lt_A (c := 11) hN rfl) hay89 hgy162 (0) (by omega) (by omega) (by decide) dX10_snow_172 ?_
                    refine z_iconst (z := 1) C dX10_snow_173 rfl ?_
                    refine z_iadd C dX10_snow_174 ?_
                    refine z_iast C (lt_A (c := 11) hN rfl) hay89 hgy162 (0) (by omega) (by omega) (by decide) dX10_snow_175 (fun gy163 egy164 => ?_)
                    have hgy165 := up_s egy164
                    refine z_aload_n C 0 dX10_snow_176 rfl ?_
                    have hgy166 := up_n egy164 hcvy160 (ne_o (i := i) (c := 0) (d := 11) rfl)
                    refine z_get (v := .int (zI (1))) C (lt_A0 hN rfl) hay78 hgy166 rfl inA_X10 38 (by decide) q_1497 rfl (fv (F := Fvy160) (f := 38) hevy160) dX10_snow_177 ?_
                    have hey167 : Fvy160 13 = F 13 := ((hFvy160 13 (by decide) (by decide)).trans ((hFvy132 13 (by decide) (by decide) (by decide) (by decide) (by decide) (by decide) (by decide) (by decide) (by decide) (by decide)).trans (fF 13 (by decide) (by decide) (by decide) (by decide) (by decide) (by decide) (by decide) (by decide) (by decide) (by decide) (by decide) (by decide) (by decide))))
                    have hey168 : Fvy160 14 = F 14 := ((hFvy160 14 (by decide) (by decide)).trans ((hFvy132 14 (by decide) (by decide) (by decide) (by decide) (by decide) (by decide) (by decide) (by decide) (by decide) (by decide)).trans (fF 14 (by decide) (by decide) (by decide) (by decide) (by decide) (by decide) (by decide) (by decide) (by decide) (by decide) (by decide) (by decide) (by decide))))
                    have hey169 : Fvy160 15 = F 15 := ((hFvy160 15 (by decide) (by decide)).trans ((hFvy132 15 (by decide) (by decide) (by decide) (by decide) (by decide) (by decide) (by decide) (by decide) (by decide) (by decide)).trans (fF 15 (by decide) (by decide) (by decide) (by decide) (by decide) (by decide) (by decide) (by decide) (by decide) (by decide) (by decide) (by decide) (by decide))))
                    have hey170 : Fvy160 16 = F 16 := ((hFvy160 16 (by decide) (by decide)).trans ((hFvy132 16 (by decide) (by decide) (by decide) (by decide) (by decide) (by decide) (by decide) (by decide) (by decide) (by decide)).trans (fF 16 (by decide) (by decide) (by decide) (by decide) (by decide) (by decide) (by decide) (by decide) (by decide) (by decide) (by decide) (by decide) (by decide))))
                    have hey171 : Fvy160 17 = F 17 := ((hFvy160 17 (by decide) (by decide)).trans ((hFvy132 17 (by decide) (by decide) (by decide) (by decide) (by decide) (by decide) (by decide) (by decide) (by decide) (by decide)).trans (fF 17 (by decide) (by decide) (by decide) (by decide) (by decide) (by decide) (by decide) (by decide) (by decide) (by decide) (by decide) (by decide) (by decide))))
                    have hey172 : Fvy160 18 = F 18 := ((hFvy160 18 (by decide) (by decide)).trans ((hFvy132 18 (by decide) (by decide) (by decide) (by decide) (by decide) (by decide) (by decide) (by decide) (by decide) (by decide)).trans (fF 18 (by decide) (by decide) (by decide) (by decide) (by decide) (by decide) (by decide) (by decide) (by decide) (by decide) (by decide) (by decide) (by decide))))
                    have hey173 : Fvy160 19 = F 19 := ((hFvy160 19 (by decide) (by decide)).trans ((hFvy132 19 (by decide) (by decide) (by decide) (by decide) (by decide) (by decide) (by decide) (by decide) (by decide) (by decide)).trans (fF 19 (by decide) (by decide) (by decide) (by decide) (by decide) (by decide) (by decide) (by decide) (by decide) (by decide) (by decide) (by decide) (by decide))))
                    have hey174 : Fvy160 20 = F 20 := ((hFvy160 20 (by decide) (by decide)).trans ((hFvy132 20 (by decide) (by decide) (by decide) (by decide) (by decide) (by decide) (by decide) (by decide) (by decide) (by decide)).trans (fF 20 (by decide) (by decide) (by decide) (by decide) (by decide) (by decide) (by decide) (by decide) (by decide) (by decide) (by decide) (by decide) (by decide))))
                    have hey175 : Fvy160 21 = F 21 := ((hFvy160 21 (by decide) (by decide)).trans ((hFvy132 21 (by decide) (by decide) (by decide) (by decide) (by decide) (by decide) (by decide) (by decide) (by decide) (by decide)).trans (fF 21 (by decide) (by decide) (by decide) (by decide) (by decide) (by decide) (by decide) (by decide) (by decide) (by decide) (by decide) (by decide) (by decide))))
                    have hey176 : Fvy160 23 = 0 := ((hFvy160 23 (by decide) (by decide)).trans ((hFvy132 23 (by decide) (by decide) (by decide) (by decide) (by decide) (by decide) (by decide) (by decide) (by decide) (by decide)).trans hsL.2.2.1))
                    have hey177 : Fvy160 25 = F 25 := ((hFvy160 25 (by decide) (by decide)).trans ((hFvy132 25 (by decide) (by decide) (by decide) (by decide) (by decide) (by decide) (by decide) (by decide) (by decide) (by decide)).trans (fF 25 (by decide) (by decide) (by decide) (by decide) (by decide) (by decide) (by decide) (by decide) (by decide) (by decide) (by decide) (by decide) (by decide))))
                    have hey178 : Fvy160 27 = F 27 := ((hFvy160 27 (by decide) (by decide)).trans ((hFvy132 27 (by decide) (by decide) (by decide) (by decide) (by decide) (by decide) (by decide) (by decide) (by decide) (by decide)).trans (fF 27 (by decide) (by decide) (by decide) (by decide) (by decide) (by decide) (by decide) (by decide) (by decide) (by decide) (by decide) (by decide) (by decide))))
                    have hey179 : Fvy160 28 = F 28 := ((hFvy160 28 (by decide) (by decide)).trans ((hFvy132 28 (by decide) (by decide) (by decide) (by decide) (by decide) (by decide) (by decide) (by decide) (by decide) (by decide)).trans (fF 28 (by decide) (by decide) (by decide) (by decide) (by decide) (by decide) (by decide) (by decide) (by decide) (by decide) (by decide) (by decide) (by decide))))
                    have hey180 : Fvy160 29 = F 29 := ((hFvy160 29 (by decide) (by decide)).trans ((hFvy132 29 (by decide) (by decide) (by decide) (by decide) (by decide) (by decide) (by decide) (by decide) (by decide) (by decide)).trans (fF 29 (by decide) (by decide) (by decide) (by decide) (by decide) (by decide) (by decide) (by decide) (by decide) (by decide) (by decide) (by decide) (by decide))))
                    have hey181 : Fvy160 24 = (vvy132.2 : Int) := hbvy160
                    have hey182 : Fvy160 12 = 0 := ((hFvy160 12 (by decide) (by decide)).trans ((hFvy132 12 (by decide) (by decide) (by decide) (by decide) (by decide) (by decide) (by decide) (by decide) (by decide) (by decide)).trans hsL.2.2.2))
                    have hey183 : Fvy160 32 = ((tk_to T n vvy132.2 : Nat) : Int) := ((hFvy160 32 (by decide) (by decide)).trans hkvy132.2.1)
                    have hey184 : Fvy160 38 = 1 := hevy160
                    have hey185 : Fvy160 47 = Fvy132 47 := (hFvy160 47 (by decide) (by decide))
                    have hey186 : Fvy160 48 = Fvy132 48 := (hFvy160 48 (by decide) (by decide))
                    have hey187 : Fvy160 49 = Fvy132 49 := (hFvy160 49 (by decide) (by decide))
                    have hey188 : Fvy160 26 = F 26 := ((hFvy160 26 (by decide) (by decide)).trans ((hFvy132 26 (by decide) (by decide) (by decide) (by decide) (by decide) (by decide) (by decide) (by decide) (by decide) (by decide)).trans (fF 26 (by decide) (by decide) (by decide) (by decide) (by decide) (by decide) (by decide) (by decide) (by decide) (by decide) (by decide) (by decide) (by decide))))
                    have hKy189 : okF Fvy160 := by unfold okF; omega
                    have htky190 : tkR T n Fvy160 vvy132.2 := hkvy160
                    have htxy191 : okTx cs gy163 i Fvy160 := hxvy132.ok.mv (fun j a b => by rw [egy164, va_up_ne _ _ (by omega)]; rw [hfvy160 _ (by omega)]) ⟨by omega, by omega, by omega, by omega⟩
                    have hgy192 := (hfvy132 (i + 1) (ne_o (i := i) (c := 1) (d := 0) rfl) (by omega)).trans ((f3L _ (by omega) (by omega)).trans ha1)
                    have hgy193 := (hfvy160 (i + 1) (ne_o (i := i) (c := 1) (d := 0) rfl)).trans hgy192
                    have hgy194 := up_n egy164 hgy193 (ne_o (i := i) (c := 1) (d := 11) rfl)
                    have hMy195 : okMr cs ad gy163 i x Fvy160 r st op ai fa mu tb tp := okMr.upd2 hM hgy166 hKy189 (htky190.rd hTb) htxy191 hgy194 hA (fun j a b c => by
                        by_cases e0 : j = i + 11
                        · exact Or.inr ⟨11, _, e0, lsP.l (by decide), by rw [e0]; exact hgy165⟩
                        exact Or.inl (by rw [egy164, va_up_ne _ _ (by omega)]; rw [hfvy160 _ (by omega)]; rw [hfvy132 _ (by omega) (by omega)]; rw [f3L _ (by omega) (by omega)]))
                    have hMx := okMr.mono (y := x + 1) hMy195 (by omega)
                    obtain ⟨k9, hk9⟩ := hf9 ((1, ((vvy132.2 : Nat) : Int)), s9) ⟨1, by simp only [ps_run]; rw [if_neg hso, ps_step_ns hvvy132 h3]⟩
                    have hkpy196 : Fvy160 13 = F 13 := ((hFvy160 13 (by decide) (by decide)).trans ((hFvy132 13 (by decide) (by decide) (by decide) (by decide) (by decide) (by decide) (by decide) (by decide) (by decide) (by decide)).trans (fF 13 (by decide) (by decide) (by decide) (by decide) (by decide) (by decide) (by decide) (by decide) (by decide) (by decide) (by decide) (by decide) (by decide))))
                    have hkpy197 : Fvy160 14 = F 14 := ((hFvy160 14 (by decide) (by decide)).trans ((hFvy132 14 (by decide) (by decide) (by decide) (by decide) (by decide) (by decide) (by decide) (by decide) (by decide) (by decide)).trans (fF 14 (by decide) (by decide) (by decide) (by decide) (by decide) (by decide) (by decide) (by decide) (by decide) (by decide) (by decide) (by decide) (by decide))))
                    have hkpy198 : Fvy160 15 = F 15 := ((hFvy160 15 (by decide) (by decide)).trans ((hFvy132 15 (by decide) (by decide) (by decide) (by decide) (by decide) (by decide) (by decide) (by decide) (by decide) (by decide)).trans (fF 15 (by decide) (by decide) (by decide) (by decide) (by decide) (by decide) (by decide) (by decide) (by decide) (by decide) (by decide) (by decide) (by decide))))
                    have hkpy199 : Fvy160 16 = F 16 := ((hFvy160 16 (by decide) (by decide)).trans ((hFvy132 16 (by decide) (by decide) (by decide) (by decide) (by decide) (by decide) (by decide) (by decide) (by decide) (by decide)).trans (fF 16 (by decide) (by decide) (by decide) (by decide) (by decide) (by decide) (by decide) (by decide) (by decide) (by decide) (by decide) (by decide) (by decide))))
                    have hkpy200 : Fvy160 17 = F 17 := ((hFvy160 17 (by decide) (by decide)).trans ((hFvy132 17 (by decide) (by decide) (by decide) (by decide) (by decide) (by decide) (by decide) (by decide) (by decide) (by decide)).trans (fF 17 (by decide) (by decide) (by decide) (by decide) (by decide) (by decide) (by decide) (by decide) (by decide) (by decide) (by decide) (by decide) (by decide))))
                    have hkpy201 : Fvy160 18 = F 18 := ((hFvy160 18 (by decide) (by decide)).trans ((hFvy132 18 (by decide) (by decide) (by decide) (by decide) (by decide) (by decide) (by decide) (by decide) (by decide) (by decide)).trans (fF 18 (by decide) (by decide) (by decide) (by decide) (by decide) (by decide) (by decide) (by decide) (by decide) (by decide) (by decide) (by decide) (by decide))))
                    have hkpy202 : Fvy160 19 = F 19 := ((hFvy160 19 (by decide) (by decide)).trans ((hFvy132 19 (by decide) (by decide) (by decide) (by decide) (by decide) (by decide) (by decide) (by decide) (by decide) (by decide)).trans (fF 19 (by decide) (by decide) (by decide) (by decide) (by decide) (by decide) (by decide) (by decide) (by decide) (by decide) (by decide) (by decide) (by decide))))
                    have hkpy203 : Fvy160 20 = F 20 := ((hFvy160 20 (by decide) (by decide)).trans ((hFvy132 20 (by decide) (by decide) (by decide) (by decide) (by decide) (by decide) (by decide) (by decide) (by decide) (by decide)).trans (fF 20 (by decide) (by decide) (by decide) (by decide) (by decide) (by decide) (by decide) (by decide) (by decide) (by decide) (by decide) (by decide) (by decide))))
                    have hkpy204 : Fvy160 21 = F 21 := ((hFvy160 21 (by decide) (by decide)).trans ((hFvy132 21 (by decide) (by decide) (by decide) (by decide) (by decide) (by decide) (by decide) (by decide) (by decide) (by decide)).trans (fF 21 (by decide) (by decide) (by decide) (by decide) (by decide) (by decide) (by decide) (by decide) (by decide) (by decide) (by decide) (by decide) (by decide))))
                    have hkpy205 : Fvy160 23 = 0 := ((hFvy160 23 (by decide) (by decide)).trans ((hFvy132 23 (by decide) (by decide) (by decide) (by decide) (by decide) (by decide) (by decide) (by decide) (by decide) (by decide)).trans hsL.2.2.1))
                    have hkpy206 : Fvy160 24 = (vvy132.2 : Int) := hbvy160
                    have hkpy207 : Fvy160 25 = F 25 := ((hFvy160 25 (by decide) (by decide)).trans ((hFvy132 25 (by decide) (by decide) (by decide) (by decide) (by decide) (by decide) (by decide) (by decide) (by decide) (by decide)).trans (fF 25 (by decide) (by decide) (by decide) (by decide) (by decide) (by decide) (by decide) (by decide) (by decide) (by decide) (by decide) (by decide) (by decide))))
                    have hkpy208 : Fvy160 26 = F 26 := ((hFvy160 26 (by decide) (by decide)).trans ((hFvy132 26 (by decide) (by decide) (by decide) (by decide) (by decide) (by decide) (by decide) (by decide) (by decide) (by decide)).trans (fF 26 (by decide) (by decide) (by decide) (by decide) (by decide) (by decide) (by decide) (by decide) (by decide) (by decide) (by decide) (by decide) (by decide))))
                    have hkpy209 : Fvy160 27 = F 27 := ((hFvy160 27 (by decide) (by decide)).trans ((hFvy132 27 (by decide) (by decide) (by decide) (by decide) (by decide) (by decide) (by decide) (by decide) (by decide) (by decide)).trans (fF 27 (by decide) (by decide) (by decide) (by decide) (by decide) (by decide) (by decide) (by decide) (by decide) (by decide) (by decide) (by decide) (by decide))))
                    have hkpy210 : Fvy160 29 = F 29 := ((hFvy160 29 (by decide) (by decide)).trans ((hFvy132 29 (by decide) (by decide) (by decide) (by decide) (by decide) (by decide) (by decide) (by decide) (by decide) (by decide)).trans (fF 29 (by decide) (by decide) (by decide) (by decide) (by decide) (by decide) (by decide) (by decide) (by decide) (by decide) (by decide) (by decide) (by decide))))
                    exact z_iret C hr hlk dX10_snow_180 (by decide) (by decide) ⟨1, rfl, rfl, rfl, by omega, ⟨k9, _, s9, hk9, Or.inr ⟨by omega, _, _, hMx, by omega, by omega, by omega, rfl⟩⟩, ⟨_, hgy165, (if_neg (by omega)).symm⟩, fun j j1 => by rw [egy164, va_up_ne _ _ (by omega)]; rw [hfvy160 _ (by omega)]; rw [hfvy132 _ (by omega) (by omega)]; rw [f3L _ (by omega) (by omega)], fun j j1 j2 j3 => by rw [egy164, va_up_ne _ _ (by omega)]; rw [hfvy160 _ (by omega)]; rw [hfvy132 _ (by omega) (by omega)]; rw [f3L _ (by omega) (by omega)]⟩
                  · refine z_aload_n C 0 dX10_snow_131 rfl ?_
                    refine z_get (v := .int (zI (vlu T n vvy132.2))) C (lt_A0 hN rfl) hay78 hcvy132 rfl inA_X10 36 (by decide) q_1495 rfl (fv (F := Fvy132) (f := 36) hkvy132.2.2.2.2.2.1) dX10_snow_132 ?_
                    refine z_bipush (z := 59) C dX10_snow_135 (by decide) ?_
                    refine z_icmp_ne (tgt := 144) C dX10_snow_137 (by decide) (by omega) (by omega) (fun hby211 => ?_) (fun hby211 => ?_)
                    · refine z_iconst (z := 0) C dX10_snow_144 rfl ?_
                      refine z_iconst (z := 1) C dX10_snow_145 rfl ?_
                      have h33vy212 : Fvy132 33 = (vvy132.2 : Int) := hkvy132.2.2.1
                      have h24vy212 : Fvy132 24 = (-1) := hbvy132
                      have htvy212 : tkR T n Fvy132 vvy132.2 := hkvy132
                      refine z_cV (As := [.int (zI (0)), .int (zI (1))]) (rest := []) (ci := 12) C (c_yWants l D A cs tt N ad _ i hN _ hcvy132 havy132 (0) (by omega) (1) (by omega)) (lt_A0 hN rfl) hay78 hcvy132 rfl rfl mv_yX10_wants q_1678 hd_yX10_wants (by decide) (Nat.le_of_ble_eq_true rfl) (by decide) dX10_snow_146 rfl (kI0 fun vy212 gvy212 hvy212 => ?_)
                      obtain ⟨⟨Fvy212, hcvy212, hqvy212, hFvy212⟩, hfvy212⟩ := hvy212
                      obtain ⟨rfl, hevy212, hbvy212⟩ : vy212 = 0 ∧ Fvy212 38 = 1 ∧ Fvy212 24 = (vvy132.2 : Int) := by omega
                      clear hqvy212 h33vy212 h24vy212
                      have hkvy212 : tkR T n Fvy212 vvy132.2 := tkR.w htvy212 hFvy212 (by omega)
                      refine z_if_eq (tgt := 97) C dX10_snow_149 (by decide) (by omega) (fun _ => ?_) (fun h => absurd h (by omega))
                      refine z_aload_n C 0 dX10_snow_97 rfl ?_
                      refine z_get (v := .int (zI (1))) C (lt_A0 hN rfl) hay78 hcvy212 rfl inA_X10 38 (by decide) q_1497 rfl (fv (F := Fvy212) (f := 38) hevy212) dX10_snow_98 ?_
                      refine z_if_ne (tgt := 159) C dX10_snow_101 (by decide) (by omega) (fun _ => ?_) (fun h => absurd h (by omega))
                      refine z_aload_n C 0 dX10_snow_159 rfl ?_
                      refine z_get (v := .int (zI (1))) C (lt_A0 hN rfl) hay78 hcvy212 rfl inA_X10 38 (by decide) q_1497 rfl (fv (F := Fvy212) (f := 38) hevy212) dX10_snow_160 ?_
                      refine z_if_eq (tgt := 181) C dX10_snow_163 (by decide) (by omega) (fun h => absurd h (by omega)) (fun _ => ?_)
                      refine z_aload_n C 0 dX10_snow_166 rfl ?_
                      refine z_get (v := .ref (ad (i + 11))) C (lt_A0 hN rfl) hay78 hcvy212 rfl inA_X10 10 (by decide) q_1469 rfl rfl dX10_snow_167 ?_
                      refine z_iconst (z := 0) C dX10_snow_170 rfl ?_
                      refine z_dup2 C dX10_snow_171 rfl rfl ?_
                      have hgy213 := (hfvy132 (i + 11) (ne_o (i := i) (c := 11) (d := 0) rfl) (by omega)).trans ((f3L _ (by omega) (by omega)).trans hrr)
                      have hgy214 := (hfvy212 (i + 11) (ne_o (i := i) (c := 11) (d := 0) rfl)).trans hgy213
                      refine z_iald C (lt_A (c := 11) hN rfl) hay89 hgy214 (0) (by omega) (by omega) (by decide) dX10_snow_172 ?_
                      refine z_iconst (z := 1) C dX10_snow_173 rfl ?_
                      refine z_iadd C dX10_snow_174 ?_
                      refine z_iast C (lt_A (c := 11) hN rfl) hay89 hgy214 (0) (by omega) (by omega) (by decide) dX10_snow_175 (fun gy215 egy216 => ?_)
                      have hgy217 := up_s egy216
                      refine z_aload_n C 0 dX10_snow_176 rfl ?_
                      have hgy218 := up_n egy216 hcvy212 (ne_o (i := i) (c := 0) (d := 11) rfl)
                      refine z_get (v := .int (zI (1))) C (lt_A0 hN rfl) hay78 hgy218 rfl inA_X10 38 (by decide) q_1497 rfl (fv (F := Fvy212) (f := 38) hevy212) dX10_snow_177 ?_
                      have hey219 : Fvy212 13 = F 13 := ((hFvy212 13 (by decide) (by decide)).trans ((hFvy132 13 (by decide) (by decide) (by decide) (by decide) (by decide) (by decide) (by decide) (by decide) (by decide) (by decide)).trans (fF 13 (by decide) (by decide) (by decide) (by decide) (by decide) (by decide) (by decide) (by decide) (by decide) (by decide) (by decide) (by decide) (by decide))))
                      have hey220 : Fvy212 14 = F 14 := ((hFvy212 14 (by decide) (by decide)).trans ((hFvy132 14 (by decide) (by decide) (by decide) (by decide) (by decide) (by decide) (by decide) (by decide) (by decide) (by decide)).trans (fF 14 (by decide) (by decide) (by decide) (by decide) (by decide) (by decide) (by decide) (by decide) (by decide) (by decide) (by decide) (by decide) (by decide))))
                      have hey221 : Fvy212 15 = F 15 := ((hFvy212 15 (by decide) (by decide)).trans ((hFvy132 15 (by decide) (by decide) (by decide) (by decide) (by decide) (by decide) (by decide) (by decide) (by decide) (by decide)).trans (fF 15 (by decide) (by decide) (by decide) (by decide) (by decide) (by decide) (by decide) (by decide) (by decide) (by decide) (by decide) (by decide) (by decide))))
                      have hey222 : Fvy212 16 = F 16 := ((hFvy212 16 (by decide) (by decide)).trans ((hFvy132 16 (by decide) (by decide) (by decide) (by decide) (by decide) (by decide) (by decide) (by decide) (by decide) (by decide)).trans (fF 16 (by decide) (by decide) (by decide) (by decide) (by decide) (by decide) (by decide) (by decide) (by decide) (by decide) (by decide) (by decide) (by decide))))
                      have hey223 : Fvy212 17 = F 17 := ((hFvy212 17 (by decide) (by decide)).trans ((hFvy132 17 (by decide) (by decide) (by decide) (by decide) (by decide) (by decide) (by decide) (by decide) (by decide) (by decide)).trans (fF 17 (by decide) (by decide) (by decide) (by decide) (by decide) (by decide) (by decide) (by decide) (by decide) (by decide) (by decide) (by decide) (by decide))))
                      have hey224 : Fvy212 18 = F 18 := ((hFvy212 18 (by decide) (by decide)).trans ((hFvy132 18 (by decide) (by decide) (by decide) (by decide) (by decide) (by decide) (by decide) (by decide) (by decide) (by decide)).trans (fF 18 (by decide) (by decide) (by decide) (by decide) (by decide) (by decide) (by decide) (by decide) (by decide) (by decide) (by decide) (by decide) (by decide))))
                      have hey225 : Fvy212 19 = F 19 := ((hFvy212 19 (by decide) (by decide)).trans ((hFvy132 19 (by decide) (by decide) (by decide) (by decide) (by decide) (by decide) (by decide) (by decide) (by decide) (by decide)).trans (fF 19 (by decide) (by decide) (by decide) (by decide) (by decide) (by decide) (by decide) (by decide) (by decide) (by decide) (by decide) (by decide) (by decide))))
                      have hey226 : Fvy212 20 = F 20 := ((hFvy212 20 (by decide) (by decide)).trans ((hFvy132 20 (by decide) (by decide) (by decide) (by decide) (by decide) (by decide) (by decide) (by decide) (by decide) (by decide)).trans (fF 20 (by decide) (by decide) (by decide) (by decide) (by decide) (by decide) (by decide) (by decide) (by decide) (by decide) (by decide) (by decide) (by decide))))
                      have hey227 : Fvy212 21 = F 21 := ((hFvy212 21 (by decide) (by decide)).trans ((hFvy132 21 (by decide) (by decide) (by decide) (by decide) (by decide) (by decide) (by decide) (by decide) (by decide) (by decide)).trans (fF 21 (by decide) (by decide) (by decide) (by decide) (by decide) (by decide) (by decide) (by decide) (by decide) (by decide) (by decide) (by decide) (by decide))))
                      have hey228 : Fvy212 23 = 0 := ((hFvy212 23 (by decide) (by decide)).trans ((hFvy132 23 (by decide) (by decide) (by decide) (by decide) (by decide) (by decide) (by decide) (by decide) (by decide) (by decide)).trans hsL.2.2.1))
                      have hey229 : Fvy212 25 = F 25 := ((hFvy212 25 (by decide) (by decide)).trans ((hFvy132 25 (by decide) (by decide) (by decide) (by decide) (by decide) (by decide) (by decide) (by decide) (by decide) (by decide)).trans (fF 25 (by decide) (by decide) (by decide) (by decide) (by decide) (by decide) (by decide) (by decide) (by decide) (by decide) (by decide) (by decide) (by decide))))
                      have hey230 : Fvy212 27 = F 27 := ((hFvy212 27 (by decide) (by decide)).trans ((hFvy132 27 (by decide) (by decide) (by decide) (by decide) (by decide) (by decide) (by decide) (by decide) (by decide) (by decide)).trans (fF 27 (by decide) (by decide) (by decide) (by decide) (by decide) (by decide) (by decide) (by decide) (by decide) (by decide) (by decide) (by decide) (by decide))))
                      have hey231 : Fvy212 28 = F 28 := ((hFvy212 28 (by decide) (by decide)).trans ((hFvy132 28 (by decide) (by decide) (by decide) (by decide) (by decide) (by decide) (by decide) (by decide) (by decide) (by decide)).trans (fF 28 (by decide) (by decide) (by decide) (by decide) (by decide) (by decide) (by decide) (by decide) (by decide) (by decide) (by decide) (by decide) (by decide))))
                      have hey232 : Fvy212 29 = F 29 := ((hFvy212 29 (by decide) (by decide)).trans ((hFvy132 29 (by decide) (by decide) (by decide) (by decide) (by decide) (by decide) (by decide) (by decide) (by decide) (by decide)).trans (fF 29 (by decide) (by decide) (by decide) (by decide) (by decide) (by decide) (by decide) (by decide) (by decide) (by decide) (by decide) (by decide) (by decide))))
                      have hey233 : Fvy212 24 = (vvy132.2 : Int) := hbvy212
                      have hey234 : Fvy212 12 = 0 := ((hFvy212 12 (by decide) (by decide)).trans ((hFvy132 12 (by decide) (by decide) (by decide) (by decide) (by decide) (by decide) (by decide) (by decide) (by decide) (by decide)).trans hsL.2.2.2))
                      have hey235 : Fvy212 32 = ((tk_to T n vvy132.2 : Nat) : Int) := ((hFvy212 32 (by decide) (by decide)).trans hkvy132.2.1)
                      have hey236 : Fvy212 38 = 1 := hevy212
                      have hey237 : Fvy212 47 = Fvy132 47 := (hFvy212 47 (by decide) (by decide))
                      have hey238 : Fvy212 48 = Fvy132 48 := (hFvy212 48 (by decide) (by decide))
                      have hey239 : Fvy212 49 = Fvy132 49 := (hFvy212 49 (by decide) (by decide))
                      have hey240 : Fvy212 26 = F 26 := ((hFvy212 26 (by decide) (by decide)).trans ((hFvy132 26 (by decide) (by decide) (by decide) (by decide) (by decide) (by decide) (by decide) (by decide) (by decide) (by decide)).trans (fF 26 (by decide) (by decide) (by decide) (by decide) (by decide) (by decide) (by decide) (by decide) (by decide) (by decide) (by decide) (by decide) (by decide))))
                      have hKy241 : okF Fvy212 := by unfold okF; omega
                      have htky242 : tkR T n Fvy212 vvy132.2 := hkvy212
                      have htxy243 : okTx cs gy215 i Fvy212 := hxvy132.ok.mv (fun j a b => by rw [egy216, va_up_ne _ _ (by omega)]; rw [hfvy212 _ (by omega)]) ⟨by omega, by omega, by omega, by omega⟩
                      have hgy244 := (hfvy132 (i + 1) (ne_o (i := i) (c := 1) (d := 0) rfl) (by omega)).trans ((f3L _ (by omega) (by omega)).trans ha1)
                      have hgy245 := (hfvy212 (i + 1) (ne_o (i := i) (c := 1) (d := 0) rfl)).trans hgy244
                      have hgy246 := up_n egy216 hgy245 (ne_o (i := i) (c := 1) (d := 11) rfl)
                      have hMy247 : okMr cs ad gy215 i x Fvy212 r st op ai fa mu tb tp := okMr.upd2 hM hgy218 hKy241 (htky242.rd hTb) htxy243 hgy246 hA (fun j a b c => by
                          by_cases e0 : j = i + 11
                          · exact Or.inr ⟨11, _, e0, lsP.l (by decide), by rw [e0]; exact hgy217⟩
                          exact Or.inl (by rw [egy216, va_up_ne _ _ (by omega)]; rw [hfvy212 _ (by omega)]; rw [hfvy132 _ (by omega) (by omega)]; rw [f3L _ (by omega) (by omega)]))
                      have hMx := okMr.mono (y := x + 1) hMy247 (by omega)
                      obtain ⟨k9, hk9⟩ := hf9 ((1, ((vvy132.2 : Nat) : Int)), s9) ⟨1, by simp only [ps_run]; rw [if_neg hso, ps_step_ns hvvy132 h3]⟩
                      have hkpy248 : Fvy212 13 = F 13 := ((hFvy212 13 (by decide) (by decide)).trans ((hFvy132 13 (by decide) (by decide) (by decide) (by decide) (by decide) (by decide) (by decide) (by decide) (by decide) (by decide)).trans (fF 13 (by decide) (by decide) (by decide) (by decide) (by decide) (by decide) (by decide) (by decide) (by decide) (by decide) (by decide) (by decide) (by decide))))
                      have hkpy249 : Fvy212 14 = F 14 := ((hFvy212 14 (by decide) (by decide)).trans ((hFvy132 14 (by decide) (by decide) (by decide) (by decide) (by decide) (by decide) (by decide) (by decide) (by decide) (by decide)).trans (fF 14 (by decide) (by decide) (by decide) (by decide) (by decide) (by decide) (by decide) (by decide) (by decide) (by decide) (by decide) (by decide) (by decide))))
                      have hkpy250 : Fvy212 15 = F 15 := ((hFvy212 15 (by decide) (by decide)).trans ((hFvy132 15 (by decide) (by decide) (by decide) (by decide) (by decide) (by decide) (by decide) (by decide) (by decide) (by decide)).trans (fF 15 (by decide) (by decide) (by decide) (by decide) (by decide) (by decide) (by decide) (by decide) (by decide) (by decide) (by decide) (by decide) (by decide))))
                      have hkpy251 : Fvy212 16 = F 16 := ((hFvy212 16 (by decide) (by decide)).trans ((hFvy132 16 (by decide) (by decide) (by decide) (by decide) (by decide) (by decide) (by decide) (by decide) (by decide) (by decide)).trans (fF 16 (by decide) (by decide) (by decide) (by decide) (by decide) (by decide) (by decide) (by decide) (by decide) (by decide) (by decide) (by decide) (by decide))))
                      have hkpy252 : Fvy212 17 = F 17 := ((hFvy212 17 (by decide) (by decide)).trans ((hFvy132 17 (by decide) (by decide) (by decide) (by decide) (by decide) (by decide) (by decide) (by decide) (by decide) (by decide)).trans (fF 17 (by decide) (by decide) (by decide) (by decide) (by decide) (by decide) (by decide) (by decide) (by decide) (by decide) (by decide) (by decide) (by decide))))
                      have hkpy253 : Fvy212 18 = F 18 := ((hFvy212 18 (by decide) (by decide)).trans ((hFvy132 18 (by decide) (by decide) (by decide) (by decide) (by decide) (by decide) (by decide) (by decide) (by decide) (by decide)).trans (fF 18 (by decide) (by decide) (by decide) (by decide) (by decide) (by decide) (by decide) (by decide) (by decide) (by decide) (by decide) (by decide) (by decide))))
                      have hkpy254 : Fvy212 19 = F 19 := ((hFvy212 19 (by decide) (by decide)).trans ((hFvy132 19 (by decide) (by decide) (by decide) (by decide) (by decide) (by decide) (by decide) (by decide) (by decide) (by decide)).trans (fF 19 (by decide) (by decide) (by decide) (by decide) (by decide) (by decide) (by decide) (by decide) (by decide) (by decide) (by decide) (by decide) (by decide))))
                      have hkpy255 : Fvy212 20 = F 20 := ((hFvy212 20 (by decide) (by decide)).trans ((hFvy132 20 (by decide) (by decide) (by decide) (by decide) (by decide) (by decide) (by decide) (by decide) (by decide) (by decide)).trans (fF 20 (by decide) (by decide) (by decide) (by decide) (by decide) (by decide) (by decide) (by decide) (by decide) (by decide) (by decide) (by decide) (by decide))))
                      have hkpy256 : Fvy212 21 = F 21 := ((hFvy212 21 (by decide) (by decide)).trans ((hFvy132 21 (by decide) (by decide) (by decide) (by decide) (by decide) (by decide) (by decide) (by decide) (by decide) (by decide)).trans (fF 21 (by decide) (by decide) (by decide) (by decide) (by decide) (by decide) (by decide) (by decide) (by decide) (by decide) (by decide) (by decide) (by decide))))
                      have hkpy257 : Fvy212 23 = 0 := ((hFvy212 23 (by decide) (by decide)).trans ((hFvy132 23 (by decide) (by decide) (by decide) (by decide) (by decide) (by decide) (by decide) (by decide) (by decide) (by decide)).trans hsL.2.2.1))
                      have hkpy258 : Fvy212 24 = (vvy132.2 : Int) := hbvy212
                      have hkpy259 : Fvy212 25 = F 25 := ((hFvy212 25 (by decide) (by decide)).trans ((hFvy132 25 (by decide) (by decide) (by decide) (by decide) (by decide) (by decide) (by decide) (by decide) (by decide) (by decide)).trans (fF 25 (by decide) (by decide) (by decide) (by decide) (by decide) (by decide) (by decide) (by decide) (by decide) (by decide) (by decide) (by decide) (by decide))))
                      have hkpy260 : Fvy212 26 = F 26 := ((hFvy212 26 (by decide) (by decide)).trans ((hFvy132 26 (by decide) (by decide) (by decide) (by decide) (by decide) (by decide) (by decide) (by decide) (by decide) (by decide)).trans (fF 26 (by decide) (by decide) (by decide) (by decide) (by decide) (by decide) (by decide) (by decide) (by decide) (by decide) (by decide) (by decide) (by decide))))
                      have hkpy261 : Fvy212 27 = F 27 := ((hFvy212 27 (by decide) (by decide)).trans ((hFvy132 27 (by decide) (by decide) (by decide) (by decide) (by decide) (by decide) (by decide) (by decide) (by decide) (by decide)).trans (fF 27 (by decide) (by decide) (by decide) (by decide) (by decide) (by decide) (by decide) (by decide) (by decide) (by decide) (by decide) (by decide) (by decide))))
                      have hkpy262 : Fvy212 29 = F 29 := ((hFvy212 29 (by decide) (by decide)).trans ((hFvy132 29 (by decide) (by decide) (by decide) (by decide) (by decide) (by decide) (by decide) (by decide) (by decide) (by decide)).trans (fF 29 (by decide) (by decide) (by decide) (by decide) (by decide) (by decide) (by decide) (by decide) (by decide) (by decide) (by decide) (by decide) (by decide))))
                      exact z_iret C hr hlk dX10_snow_180 (by decide) (by decide) ⟨1, rfl, rfl, rfl, by omega, ⟨k9, _, s9, hk9, Or.inr ⟨by omega, _, _, hMx, by omega, by omega, by omega, rfl⟩⟩, ⟨_, hgy217, (if_neg (by omega)).symm⟩, fun j j1 => by rw [egy216, va_up_ne _ _ (by omega)]; rw [hfvy212 _ (by omega)]; rw [hfvy132 _ (by omega) (by omega)]; rw [f3L _ (by omega) (by omega)], fun j j1 j2 j3 => by rw [egy216, va_up_ne _ _ (by omega)]; rw [hfvy212 _ (by omega)]; rw [hfvy132 _ (by omega) (by omega)]; rw [f3L _ (by omega) (by omega)]⟩
                    · exact absurd ((vlu3 (T := T) (n := n) (f := vvy132.2) (by omega) 59 3 (by omega)).mp (by omega)) h3
              · obtain ⟨evy132, hv0vy132, havy132, hbvy132, hlvy132, ⟨f9vy132, hkvy132⟩, hxvy132⟩ := hqvy132
                have hvvy132 : ps_cl T n s9 f = .error evy132 := hv0vy132
                have hsry263 := srt_b T n f9vy132
                have hvly264 := vlu_b hTb f9vy132
                have hwby265 := tk_w_b T n f9vy132
                have hfny266 := hkvy132.1
                have hzvy132 := hkvy132.2.1
                refine z_aload_n C 0 dX10_snow_115 rfl ?_
                refine z_get (v := .int (zI (evy132.1))) C (lt_A0 hN rfl) hay78 hcvy132 rfl inA_X10 38 (by decide) q_1497 rfl (fv (F := Fvy132) (f := 38) havy132) dX10_snow_116 ?_
                refine z_if_ne (tgt := 97) C dX10_snow_119 (by decide) (by omega) (fun _ => ?_) (fun h => absurd h (by omega))
                refine z_aload_n C 0 dX10_snow_97 rfl ?_
                refine z_get (v := .int (zI (evy132.1))) C (lt_A0 hN rfl) hay78 hcvy132 rfl inA_X10 38 (by decide) q_1497 rfl (fv (F := Fvy132) (f := 38) havy132) dX10_snow_98 ?_
                refine z_if_ne (tgt := 159) C dX10_snow_101 (by decide) (by omega) (fun _ => ?_) (fun h => absurd h (by omega))
                refine z_aload_n C 0 dX10_snow_159 rfl ?_
                refine z_get (v := .int (zI (evy132.1))) C (lt_A0 hN rfl) hay78 hcvy132 rfl inA_X10 38 (by decide) q_1497 rfl (fv (F := Fvy132) (f := 38) havy132) dX10_snow_160 ?_
                refine z_if_eq (tgt := 181) C dX10_snow_163 (by decide) (by omega) (fun h => absurd h (by omega)) (fun _ => ?_)
                refine z_aload_n C 0 dX10_snow_166 rfl ?_
                refine z_get (v := .ref (ad (i + 11))) C (lt_A0 hN rfl) hay78 hcvy132 rfl inA_X10 10 (by decide) q_1469 rfl rfl dX10_snow_167 ?_
                refine z_iconst (z := 0) C dX10_snow_170 rfl ?_
                refine z_dup2 C dX10_snow_171 rfl rfl ?_
                have hgy267 := (hfvy132 (i + 11) (ne_o (i := i) (c := 11) (d := 0) rfl) (by omega)).trans ((f3L _ (by omega) (by omega)).trans hrr)
                refine z_iald C (lt_A (c := 11) hN rfl) hay89 hgy267 (0) (by omega) (by omega) (by decide) dX10_snow_172 ?_
                refine z_iconst (z := 1) C dX10_snow_173 rfl ?_
                refine z_iadd C dX10_snow_174 ?_
                refine z_iast C (lt_A (c := 11) hN rfl) hay89 hgy267 (0) (by omega) (by omega) (by decide) dX10_snow_175 (fun gy268 egy269 => ?_)
                have hgy270 := up_s egy269
                refine z_aload_n C 0 dX10_snow_176 rfl ?_
                have hgy271 := up_n egy269 hcvy132 (ne_o (i := i) (c := 0) (d := 11) rfl)
                refine z_get (v := .int (zI (evy132.1))) C (lt_A0 hN rfl) hay78 hgy271 rfl inA_X10 38 (by decide) q_1497 rfl (fv (F := Fvy132) (f := 38) havy132) dX10_snow_177 ?_
                have hey272 : Fvy132 13 = F 13 := ((hFvy132 13 (by decide) (by decide) (by decide) (by decide) (by decide) (by decide) (by decide) (by decide) (by decide) (by decide)).trans (fF 13 (by decide) (by decide) (by decide) (by decide) (by decide) (by decide) (by decide) (by decide) (by decide) (by decide) (by decide) (by decide) (by decide)))
                have hey273 : Fvy132 14 = F 14 := ((hFvy132 14 (by decide) (by decide) (by decide) (by decide) (by decide) (by decide) (by decide) (by decide) (by decide) (by decide)).trans (fF 14 (by decide) (by decide) (by decide) (by decide) (by decide) (by decide) (by decide) (by decide) (by decide) (by decide) (by decide) (by decide) (by decide)))
                have hey274 : Fvy132 15 = F 15 := ((hFvy132 15 (by decide) (by decide) (by decide) (by decide) (by decide) (by decide) (by decide) (by decide) (by decide) (by decide)).trans (fF 15 (by decide) (by decide) (by decide) (by decide) (by decide) (by decide) (by decide) (by decide) (by decide) (by decide) (by decide) (by decide) (by decide)))
                have hey275 : Fvy132 16 = F 16 := ((hFvy132 16 (by decide) (by decide) (by decide) (by decide) (by decide) (by decide) (by decide) (by decide) (by decide) (by decide)).trans (fF 16 (by decide) (by decide) (by decide) (by decide) (by decide) (by decide) (by decide) (by decide) (by decide) (by decide) (by decide) (by decide) (by decide)))
                have hey276 : Fvy132 17 = F 17 := ((hFvy132 17 (by decide) (by decide) (by decide) (by decide) (by decide) (by decide) (by decide) (by decide) (by decide) (by decide)).trans (fF 17 (by decide) (by decide) (by decide) (by decide) (by decide) (by decide) (by decide) (by decide) (by decide) (by decide) (by decide) (by decide) (by decide)))
                have hey277 : Fvy132 18 = F 18 := ((hFvy132 18 (by decide) (by decide) (by decide) (by decide) (by decide) (by decide) (by decide) (by decide) (by decide) (by decide)).trans (fF 18 (by decide) (by decide) (by decide) (by decide) (by decide) (by decide) (by decide) (by decide) (by decide) (by decide) (by decide) (by decide) (by decide)))
                have hey278 : Fvy132 19 = F 19 := ((hFvy132 19 (by decide) (by decide) (by decide) (by decide) (by decide) (by decide) (by decide) (by decide) (by decide) (by decide)).trans (fF 19 (by decide) (by decide) (by decide) (by decide) (by decide) (by decide) (by decide) (by decide) (by decide) (by decide) (by decide) (by decide) (by decide)))
                have hey279 : Fvy132 20 = F 20 := ((hFvy132 20 (by decide) (by decide) (by decide) (by decide) (by decide) (by decide) (by decide) (by decide) (by decide) (by decide)).trans (fF 20 (by decide) (by decide) (by decide) (by decide) (by decide) (by decide) (by decide) (by decide) (by decide) (by decide) (by decide) (by decide) (by decide)))
                have hey280 : Fvy132 21 = F 21 := ((hFvy132 21 (by decide) (by decide) (by decide) (by decide) (by decide) (by decide) (by decide) (by decide) (by decide) (by decide)).trans (fF 21 (by decide) (by decide) (by decide) (by decide) (by decide) (by decide) (by decide) (by decide) (by decide) (by decide) (by decide) (by decide) (by decide)))
                have hey281 : Fvy132 23 = 0 := ((hFvy132 23 (by decide) (by decide) (by decide) (by decide) (by decide) (by decide) (by decide) (by decide) (by decide) (by decide)).trans hsL.2.2.1)
                have hey282 : Fvy132 25 = F 25 := ((hFvy132 25 (by decide) (by decide) (by decide) (by decide) (by decide) (by decide) (by decide) (by decide) (by decide) (by decide)).trans (fF 25 (by decide) (by decide) (by decide) (by decide) (by decide) (by decide) (by decide) (by decide) (by decide) (by decide) (by decide) (by decide) (by decide)))
                have hey283 : Fvy132 27 = F 27 := ((hFvy132 27 (by decide) (by decide) (by decide) (by decide) (by decide) (by decide) (by decide) (by decide) (by decide) (by decide)).trans (fF 27 (by decide) (by decide) (by decide) (by decide) (by decide) (by decide) (by decide) (by decide) (by decide) (by decide) (by decide) (by decide) (by decide)))
                have hey284 : Fvy132 28 = F 28 := ((hFvy132 28 (by decide) (by decide) (by decide) (by decide) (by decide) (by decide) (by decide) (by decide) (by decide) (by decide)).trans (fF 28 (by decide) (by decide) (by decide) (by decide) (by decide) (by decide) (by decide) (by decide) (by decide) (by decide) (by decide) (by decide) (by decide)))
                have hey285 : Fvy132 29 = F 29 := ((hFvy132 29 (by decide) (by decide) (by decide) (by decide) (by decide) (by decide) (by decide) (by decide) (by decide) (by decide)).trans (fF 29 (by decide) (by decide) (by decide) (by decide) (by decide) (by decide) (by decide) (by decide) (by decide) (by decide) (by decide) (by decide) (by decide)))
                have hey286 : Fvy132 24 = (evy132.2 : Int) := hbvy132
                have hey287 : Fvy132 12 = 0 := ((hFvy132 12 (by decide) (by decide) (by decide) (by decide) (by decide) (by decide) (by decide) (by decide) (by decide) (by decide)).trans hsL.2.2.2)
                have hey288 : Fvy132 32 = ((tk_to T n f9vy132 : Nat) : Int) := hkvy132.2.1
                have hey289 : Fvy132 38 = evy132.1 := havy132
                have hey290 : Fvy132 47 = Fvy132 47 := rfl
                have hey291 : Fvy132 48 = Fvy132 48 := rfl
                have hey292 : Fvy132 49 = Fvy132 49 := rfl
                have hey293 : Fvy132 26 = F 26 := ((hFvy132 26 (by decide) (by decide) (by decide) (by decide) (by decide) (by decide) (by decide) (by decide) (by decide) (by decide)).trans (fF 26 (by decide) (by decide) (by decide) (by decide) (by decide) (by decide) (by decide) (by decide) (by decide) (by decide) (by decide) (by decide) (by decide)))
                have hKy294 : okF Fvy132 := by unfold okF; omega
                have htky295 : tkR T n Fvy132 f9vy132 := hkvy132
                have htxy296 : okTx cs gy268 i Fvy132 := hxvy132.mv (fun j a b => by rw [egy269, va_up_ne _ _ (by omega)]) ⟨by omega, by omega, by omega, by omega⟩
                have hgy297 := (hfvy132 (i + 1) (ne_o (i := i) (c := 1) (d := 0) rfl) (by omega)).trans ((f3L _ (by omega) (by omega)).trans ha1)
                have hgy298 := up_n egy269 hgy297 (ne_o (i := i) (c := 1) (d := 11) rfl)
                have hMy299 : okMr cs ad gy268 i x Fvy132 r st op ai fa mu tb tp := okMr.upd2 hM hgy271 hKy294 (htky295.rd hTb) htxy296 hgy298 hA (fun j a b c => by
                    by_cases e0 : j = i + 11
                    · exact Or.inr ⟨11, _, e0, lsP.l (by decide), by rw [e0]; exact hgy270⟩
                    exact Or.inl (by rw [egy269, va_up_ne _ _ (by omega)]; rw [hfvy132 _ (by omega) (by omega)]; rw [f3L _ (by omega) (by omega)]))
                have hMx := okMr.mono (y := x + 1) hMy299 (by omega)
                obtain ⟨k9, hk9⟩ := hf9 ((evy132.1, (evy132.2 : Int)), s9) ⟨1, by simp only [ps_run]; rw [if_neg hso, ps_step_er hvvy132]⟩
                have hkpy300 : Fvy132 13 = F 13 := ((hFvy132 13 (by decide) (by decide) (by decide) (by decide) (by decide) (by decide) (by decide) (by decide) (by decide) (by decide)).trans (fF 13 (by decide) (by decide) (by decide) (by decide) (by decide) (by decide) (by decide) (by decide) (by decide) (by decide) (by decide) (by decide) (by decide)))
                have hkpy301 : Fvy132 14 = F 14 := ((hFvy132 14 (by decide) (by decide) (by decide) (by decide) (by decide) (by decide) (by decide) (by decide) (by decide) (by decide)).trans (fF 14 (by decide) (by decide) (by decide) (by decide) (by decide) (by decide) (by decide) (by decide) (by decide) (by decide) (by decide) (by decide) (by decide)))
                have hkpy302 : Fvy132 15 = F 15 := ((hFvy132 15 (by decide) (by decide) (by decide) (by decide) (by decide) (by decide) (by decide) (by decide) (by decide) (by decide)).trans (fF 15 (by decide) (by decide) (by decide) (by decide) (by decide) (by decide) (by decide) (by decide) (by decide) (by decide) (by decide) (by decide) (by decide)))
                have hkpy303 : Fvy132 16 = F 16 := ((hFvy132 16 (by decide) (by decide) (by decide) (by decide) (by decide) (by decide) (by decide) (by decide) (by decide) (by decide)).trans (fF 16 (by decide) (by decide) (by decide) (by decide) (by decide) (by decide) (by decide) (by decide) (by decide) (by decide) (by decide) (by decide) (by decide)))
                have hkpy304 : Fvy132 17 = F 17 := ((hFvy132 17 (by decide) (by decide) (by decide) (by decide) (by decide) (by decide) (by decide) (by decide) (by decide) (by decide)).trans (fF 17 (by decide) (by decide) (by decide) (by decide) (by decide) (by decide) (by decide) (by decide) (by decide) (by decide) (by decide) (by decide) (by decide)))
                have hkpy305 : Fvy132 18 = F 18 := ((hFvy132 18 (by decide) (by decide) (by decide) (by decide) (by decide) (by decide) (by decide) (by decide) (by decide) (by decide)).trans (fF 18 (by decide) (by decide) (by decide) (by decide) (by decide) (by decide) (by decide) (by decide) (by decide) (by decide) (by decide) (by decide) (by decide)))
                have hkpy306 : Fvy132 19 = F 19 := ((hFvy132 19 (by decide) (by decide) (by decide) (by decide) (by decide) (by decide) (by decide) (by decide) (by decide) (by decide)).trans (fF 19 (by decide) (by decide) (by decide) (by decide) (by decide) (by decide) (by decide) (by decide) (by decide) (by decide) (by decide) (by decide) (by decide)))
                have hkpy307 : Fvy132 20 = F 20 := ((hFvy132 20 (by decide) (by decide) (by decide) (by decide) (by decide) (by decide) (by decide) (by decide) (by decide) (by decide)).trans (fF 20 (by decide) (by decide) (by decide) (by decide) (by decide) (by decide) (by decide) (by decide) (by decide) (by decide) (by decide) (by decide) (by decide)))
                have hkpy308 : Fvy132 21 = F 21 := ((hFvy132 21 (by decide) (by decide) (by decide) (by decide) (by decide) (by decide) (by decide) (by decide) (by decide) (by decide)).trans (fF 21 (by decide) (by decide) (by decide) (by decide) (by decide) (by decide) (by decide) (by decide) (by decide) (by decide) (by decide) (by decide) (by decide)))
                have hkpy309 : Fvy132 23 = 0 := ((hFvy132 23 (by decide) (by decide) (by decide) (by decide) (by decide) (by decide) (by decide) (by decide) (by decide) (by decide)).trans hsL.2.2.1)
                have hkpy310 : Fvy132 24 = (evy132.2 : Int) := hbvy132
                have hkpy311 : Fvy132 25 = F 25 := ((hFvy132 25 (by decide) (by decide) (by decide) (by decide) (by decide) (by decide) (by decide) (by decide) (by decide) (by decide)).trans (fF 25 (by decide) (by decide) (by decide) (by decide) (by decide) (by decide) (by decide) (by decide) (by decide) (by decide) (by decide) (by decide) (by decide)))
                have hkpy312 : Fvy132 26 = F 26 := ((hFvy132 26 (by decide) (by decide) (by decide) (by decide) (by decide) (by decide) (by decide) (by decide) (by decide) (by decide)).trans (fF 26 (by decide) (by decide) (by decide) (by decide) (by decide) (by decide) (by decide) (by decide) (by decide) (by decide) (by decide) (by decide) (by decide)))
                have hkpy313 : Fvy132 27 = F 27 := ((hFvy132 27 (by decide) (by decide) (by decide) (by decide) (by decide) (by decide) (by decide) (by decide) (by decide) (by decide)).trans (fF 27 (by decide) (by decide) (by decide) (by decide) (by decide) (by decide) (by decide) (by decide) (by decide) (by decide) (by decide) (by decide) (by decide)))
                have hkpy314 : Fvy132 29 = F 29 := ((hFvy132 29 (by decide) (by decide) (by decide) (by decide) (by decide) (by decide) (by decide) (by decide) (by decide) (by decide)).trans (fF 29 (by decide) (by decide) (by decide) (by decide) (by decide) (by decide) (by decide) (by decide) (by decide) (by decide) (by decide) (by decide) (by decide)))
                exact z_iret C hr hlk dX10_snow_180 (by decide) (by decide) ⟨evy132.1, rfl, rfl, rfl, by omega, ⟨k9, _, s9, hk9, Or.inr ⟨by omega, _, _, hMx, by omega, by omega, by omega, rfl⟩⟩, ⟨_, hgy270, (if_neg (by omega)).symm⟩, fun j j1 => by rw [egy269, va_up_ne _ _ (by omega)]; rw [hfvy132 _ (by omega) (by omega)]; rw [f3L _ (by omega) (by omega)], fun j j1 j2 j3 => by rw [egy269, va_up_ne _ _ (by omega)]; rw [hfvy132 _ (by omega) (by omega)]; rw [f3L _ (by omega) (by omega)]⟩
        have hey315 : Fvy73 12 = 0 := ((hFvy73 12 (by decide) (by decide) (by decide) (by decide) (by decide)).trans (fn (fn (fn (fn (fn (fn (fn (fn hevy35 (by decide)) (by decide)) (by decide)) (by decide)) (by decide)) (by decide)) (by decide)) (by decide)))
        have hey316 : Fvy73 23 = 0 := ((hFvy73 23 (by decide) (by decide) (by decide) (by decide) (by decide)).trans (fn (fn (fn (fn (fn (fn (fn (uZ_s _ _ _) (by decide)) (by decide)) (by decide)) (by decide)) (by decide)) (by decide)) (by decide)))
        have hey317 : Fvy73 24 = -1 := ((hFvy73 24 (by decide) (by decide) (by decide) (by decide) (by decide)).trans (fn (fn (fn (uZ_s _ _ _) (by decide)) (by decide)) (by decide)))
        have hey318 : Fvy73 32 = ((tk_to T n (tk_at T n 0) : Nat) : Int) := hkvy73.2.1
        have hey319 : Fvy73 38 = 0 := ((hFvy73 38 (by decide) (by decide) (by decide) (by decide) (by decide)).trans (fn (fn (fn (fn (uZ_s _ _ _) (by decide)) (by decide)) (by decide)) (by decide)))
        have hey320 : Fvy73 47 = 0 := ((hFvy73 47 (by decide) (by decide) (by decide) (by decide) (by decide)).trans (uZ_s _ _ _))
        have hey321 : Fvy73 48 = 0 := ((hFvy73 48 (by decide) (by decide) (by decide) (by decide) (by decide)).trans (fn (uZ_s _ _ _) (by decide)))
        have hey322 : Fvy73 49 = 0 := ((hFvy73 49 (by decide) (by decide) (by decide) (by decide) (by decide)).trans (fn (fn (uZ_s _ _ _) (by decide)) (by decide)))
        have htky323 : tkR T n Fvy73 (tk_at T n 0) := hkvy73
        have hgy325 := up_n egy33 ha16 (ne_o (i := i) (c := 16) (d := 0) rfl)
        have hgy326 := (hfvy35 (i + 16) (ne_o (i := i) (c := 16) (d := 0) rfl)).trans hgy325
        have hgy327 := up_n egy37 hgy326 (ne_o (i := i) (c := 16) (d := 0) rfl)
        have hgy328 := up_n egy40 hgy327 (ne_o (i := i) (c := 16) (d := 0) rfl)
        have hgy329 := up_n egy43 hgy328 (ne_o (i := i) (c := 16) (d := 0) rfl)
        have hgy330 := up_n egy46 hgy329 (ne_o (i := i) (c := 16) (d := 0) rfl)
        have hgy331 := up_n egy49 hgy330 (ne_o (i := i) (c := 16) (d := 0) rfl)
        have hgy332 := up_n egy52 hgy331 (ne_o (i := i) (c := 16) (d := 0) rfl)
        have hgy333 := up_n egy55 hgy332 (ne_o (i := i) (c := 16) (d := 0) rfl)
        have hgy334 := up_n egy58 hgy333 (ne_o (i := i) (c := 16) (d := 0) rfl)
        have hgy335 := (f3A (i + 16) (ne_o (i := i) (c := 16) (d := 22) rfl)).trans hgy334
        have hgy336 := (hfvy73 (i + 16) (ne_o (i := i) (c := 16) (d := 0) rfl)).trans hgy335
        have hgy337 := up_n egy33 ha17 (ne_o (i := i) (c := 17) (d := 0) rfl)
        have hgy338 := (hfvy35 (i + 17) (ne_o (i := i) (c := 17) (d := 0) rfl)).trans hgy337
        have hgy339 := up_n egy37 hgy338 (ne_o (i := i) (c := 17) (d := 0) rfl)
        have hgy340 := up_n egy40 hgy339 (ne_o (i := i) (c := 17) (d := 0) rfl)
        have hgy341 := up_n egy43 hgy340 (ne_o (i := i) (c := 17) (d := 0) rfl)
        have hgy342 := up_n egy46 hgy341 (ne_o (i := i) (c := 17) (d := 0) rfl)
        have hgy343 := up_n egy49 hgy342 (ne_o (i := i) (c := 17) (d := 0) rfl)
        have hgy344 := up_n egy52 hgy343 (ne_o (i := i) (c := 17) (d := 0) rfl)
        have hgy345 := up_n egy55 hgy344 (ne_o (i := i) (c := 17) (d := 0) rfl)
        have hgy346 := up_n egy58 hgy345 (ne_o (i := i) (c := 17) (d := 0) rfl)
        have hgy347 := (f3A (i + 17) (ne_o (i := i) (c := 17) (d := 22) rfl)).trans hgy346
        have hgy348 := (hfvy73 (i + 17) (ne_o (i := i) (c := 17) (d := 0) rfl)).trans hgy347
        have hgy349 := up_n egy33 ha18 (ne_o (i := i) (c := 18) (d := 0) rfl)
        have hgy350 := (hfvy35 (i + 18) (ne_o (i := i) (c := 18) (d := 0) rfl)).trans hgy349
        have hgy351 := up_n egy37 hgy350 (ne_o (i := i) (c := 18) (d := 0) rfl)
        have hgy352 := up_n egy40 hgy351 (ne_o (i := i) (c := 18) (d := 0) rfl)
        have hgy353 := up_n egy43 hgy352 (ne_o (i := i) (c := 18) (d := 0) rfl)
        have hgy354 := up_n egy46 hgy353 (ne_o (i := i) (c := 18) (d := 0) rfl)
        have hgy355 := up_n egy49 hgy354 (ne_o (i := i) (c := 18) (d := 0) rfl)
        have hgy356 := up_n egy52 hgy355 (ne_o (i := i) (c := 18) (d := 0) rfl)
        have hgy357 := up_n egy55 hgy356 (ne_o (i := i) (c := 18) (d := 0) rfl)
        have hgy358 := up_n egy58 hgy357 (ne_o (i := i) (c := 18) (d := 0) rfl)
        have hgy359 := (f3A (i + 18) (ne_o (i := i) (c := 18) (d := 22) rfl)).trans hgy358
        have hgy360 := (hfvy73 (i + 18) (ne_o (i := i) (c := 18) (d := 0) rfl)).trans hgy359
        have hgy361 := up_n egy33 ha19 (ne_o (i := i) (c := 19) (d := 0) rfl)
        have hgy362 := (hfvy35 (i + 19) (ne_o (i := i) (c := 19) (d := 0) rfl)).trans hgy361
        have hgy363 := up_n egy37 hgy362 (ne_o (i := i) (c := 19) (d := 0) rfl)
        have hgy364 := up_n egy40 hgy363 (ne_o (i := i) (c := 19) (d := 0) rfl)
        have hgy365 := up_n egy43 hgy364 (ne_o (i := i) (c := 19) (d := 0) rfl)
        have hgy366 := up_n egy46 hgy365 (ne_o (i := i) (c := 19) (d := 0) rfl)
        have hgy367 := up_n egy49 hgy366 (ne_o (i := i) (c := 19) (d := 0) rfl)
        have hgy368 := up_n egy52 hgy367 (ne_o (i := i) (c := 19) (d := 0) rfl)
        have hgy369 := up_n egy55 hgy368 (ne_o (i := i) (c := 19) (d := 0) rfl)
        have hgy370 := up_n egy58 hgy369 (ne_o (i := i) (c := 19) (d := 0) rfl)
        have hgy371 := (f3A (i + 19) (ne_o (i := i) (c := 19) (d := 22) rfl)).trans hgy370
        have hgy372 := (hfvy73 (i + 19) (ne_o (i := i) (c := 19) (d := 0) rfl)).trans hgy371
        have hgy373 := up_n egy33 ha20 (ne_o (i := i) (c := 20) (d := 0) rfl)
        have hgy374 := (hfvy35 (i + 20) (ne_o (i := i) (c := 20) (d := 0) rfl)).trans hgy373
        have hgy375 := up_n egy37 hgy374 (ne_o (i := i) (c := 20) (d := 0) rfl)
        have hgy376 := up_n egy40 hgy375 (ne_o (i := i) (c := 20) (d := 0) rfl)
        have hgy377 := up_n egy43 hgy376 (ne_o (i := i) (c := 20) (d := 0) rfl)
        have hgy378 := up_n egy46 hgy377 (ne_o (i := i) (c := 20) (d := 0) rfl)
        have hgy379 := up_n egy49 hgy378 (ne_o (i := i) (c := 20) (d := 0) rfl)
        have hgy380 := up_n egy52 hgy379 (ne_o (i := i) (c := 20) (d := 0) rfl)
        have hgy381 := up_n egy55 hgy380 (ne_o (i := i) (c := 20) (d := 0) rfl)
        have hgy382 := up_n egy58 hgy381 (ne_o (i := i) (c := 20) (d := 0) rfl)
        have hgy383 := (f3A (i + 20) (ne_o (i := i) (c := 20) (d := 22) rfl)).trans hgy382
        have hgy384 := (hfvy73 (i + 20) (ne_o (i := i) (c := 20) (d := 0) rfl)).trans hgy383
        have hgy385 := up_n egy33 ha21 (ne_o (i := i) (c := 21) (d := 0) rfl)
        have hgy386 := (hfvy35 (i + 21) (ne_o (i := i) (c := 21) (d := 0) rfl)).trans hgy385
        have hgy387 := up_n egy37 hgy386 (ne_o (i := i) (c := 21) (d := 0) rfl)
        have hgy388 := up_n egy40 hgy387 (ne_o (i := i) (c := 21) (d := 0) rfl)
        have hgy389 := up_n egy43 hgy388 (ne_o (i := i) (c := 21) (d := 0) rfl)
        have hgy390 := up_n egy46 hgy389 (ne_o (i := i) (c := 21) (d := 0) rfl)
        have hgy391 := up_n egy49 hgy390 (ne_o (i := i) (c := 21) (d := 0) rfl)
        have hgy392 := up_n egy52 hgy391 (ne_o (i := i) (c := 21) (d := 0) rfl)
        have hgy393 := up_n egy55 hgy392 (ne_o (i := i) (c := 21) (d := 0) rfl)
        have hgy394 := up_n egy58 hgy393 (ne_o (i := i) (c := 21) (d := 0) rfl)
        have hgy395 := (f3A (i + 21) (ne_o (i := i) (c := 21) (d := 22) rfl)).trans hgy394
        have hgy396 := (hfvy73 (i + 21) (ne_o (i := i) (c := 21) (d := 0) rfl)).trans hgy395
        have hgy397 := (hfvy73 (i + 22) (ne_o (i := i) (c := 22) (d := 0) rfl)).trans f2A_t9
        have hgy398 := up_n egy33 ha23 (ne_o (i := i) (c := 23) (d := 0) rfl)
        have hgy399 := (hfvy35 (i + 23) (ne_o (i := i) (c := 23) (d := 0) rfl)).trans hgy398
        have hgy400 := up_n egy37 hgy399 (ne_o (i := i) (c := 23) (d := 0) rfl)
        have hgy401 := up_n egy40 hgy400 (ne_o (i := i) (c := 23) (d := 0) rfl)
        have hgy402 := up_n egy43 hgy401 (ne_o (i := i) (c := 23) (d := 0) rfl)
        have hgy403 := up_n egy46 hgy402 (ne_o (i := i) (c := 23) (d := 0) rfl)
        have hgy404 := up_n egy49 hgy403 (ne_o (i := i) (c := 23) (d := 0) rfl)
        have hgy405 := up_n egy52 hgy404 (ne_o (i := i) (c := 23) (d := 0) rfl)
        have hgy406 := up_n egy55 hgy405 (ne_o (i := i) (c := 23) (d := 0) rfl)
        have hgy407 := up_n egy58 hgy406 (ne_o (i := i) (c := 23) (d := 0) rfl)
        have hgy408 := (f3A (i + 23) (ne_o (i := i) (c := 23) (d := 22) rfl)).trans hgy407
        have hgy409 := (hfvy73 (i + 23) (ne_o (i := i) (c := 23) (d := 0) rfl)).trans hgy408
        have htoy410 := tk_to_w (T := T) (n := n) (f := (tk_at T n 0)) htky323.1.1
        have h32y411 := htky323.2.1
        have hxty324 : xTx cs gvy73 i Fvy73 (0, 0, 0, (fun _ => 0), st0, op0, ai0, fa0, mu0, tabZ, (fun _ => 0), L0) := ⟨_, _, _, _, _, _, _, _, ⟨hgy336, hgy348, hgy360, hgy372, hgy384, hgy396, hgy397, hgy409⟩, ⟨⟨by omega, by omega, by omega⟩, hop1, hmn1, hai1, hfa1, (fun k hk => Or.inl (fTa k (by omega))), fun s l h1 h2 => absurd h1 (by omega)⟩, ⟨⟨by show Fvy73 47 = 0; omega, by show Fvy73 48 = 0; omega, by show Fvy73 49 = 0; omega⟩, fun k hk => absurd (show (k : Int) < 0 from hk) (by omega), fun k hk => absurd (show (k : Int) < 0 from hk) (by omega), fun k hk => Or.inl ⟨fTa k (by omega), rfl, rfl⟩, fun j l hj _ _ _ => absurd (show (j : Int) < 0 from hj) (by omega), fun _ _ => rfl⟩⟩
        have hFy412 : ∀ f, f ≠ 12 → f ≠ 23 → f ≠ 24 → f ≠ 32 → f ≠ 33 → f ≠ 34 → f ≠ 35 → f ≠ 36 → f ≠ 37 → f ≠ 38 → f ≠ 47 → f ≠ 48 → f ≠ 49 → Fvy73 f = F f := fun f n12 n23 n24 n32 n33 n34 n35 n36 n37 n38 n47 n48 n49 => ((hFvy73 f n32 n33 n35 n36 n37).trans ((uZ_n _ _ n47).trans ((uZ_n _ _ n48).trans ((uZ_n _ _ n49).trans ((uZ_n _ _ n24).trans ((uZ_n _ _ n38).trans ((uZ_n _ _ n32).trans ((uZ_n _ _ n34).trans ((uZ_n _ _ n23).trans ((hFvy35 f n12).trans ((uZ_n _ _ n12).trans rfl)))))))))))
        refine z_lv (lv' := [(0, .ref (ad i)), (1, .int (zI ((n : Int))))]) [0, 1] rfl ?_
        exact L _ (tk_at T n 0) (0, 0, 0, (fun _ => 0), st0, op0, ai0, fa0, mu0, tabZ, (fun _ => 0), L0) _ gvy73 rfl hcvy73 htky323 hxty324 (fun r9 h9 => h9) hFy412 (fun j j1 j2 => by rw [hfvy73 _ (by omega)]; rw [f3A _ (by omega)]; rw [egy58, va_up_ne _ _ (by omega)]; rw [egy55, va_up_ne _ _ (by omega)]; rw [egy52, va_up_ne _ _ (by omega)]; rw [egy49, va_up_ne _ _ (by omega)]; rw [egy46, va_up_ne _ _ (by omega)]; rw [egy43, va_up_ne _ _ (by omega)]; rw [egy40, va_up_ne _ _ (by omega)]; rw [egy37, va_up_ne _ _ (by omega)]; rw [hfvy35 _ (by omega)]; rw [egy33, va_up_ne _ _ (by omega)]) (by omega)
      · refine z_aload_n C 0 dX10_snow_80 rfl ?_
        have hgy413 := (f3A (i) (ne_o (i := i) (c := 0) (d := 22) rfl)).trans hgy59
        refine z_get (v := .ref (ad (i + 22))) C (lt_A0 hN rfl) hay1 hgy413 rfl inA_X10 45 (by decide) q_1504 rfl rfl dX10_snow_81 ?_
        refine z_iload_n C 2 dX10_snow_84 rfl ?_
        refine z_iconst (z := -1) C dX10_snow_85 rfl ?_
        refine z_iast C (lt_A (c := 22) hN rfl) hay30 f2A_t9 (nkA) (by omega) (by omega) (by decide) dX10_snow_86 (fun gy414 egy415 => ?_)
        have hgy416 := up_s egy415
        obtain ⟨ry417, hvy418⟩ : ∃ rZ9 : Nat → Int, rZ9 = uZ t9 (nkA) (-1) := ⟨_, rfl⟩
        rw [← hvy418] at hgy416
        refine z_iinc (z := ka + 1) (lv' := [(2, .int (zI (ka + 1))), (0, .ref (ad i)), (1, .int (zI ((n : Int))))]) (j := 2) C dX10_snow_87 rfl rfl (by decide) rfl ?_
        refine z_goto (tgt := 74) C dX10_snow_90 (by decide) ?_
        refine z_lv (lv' := [(0, .ref (ad i)), (1, .int (zI ((n : Int)))), (2, .int (zI (ka + 1)))]) [1, 2, 0] rfl ?_
        exact ih_A _ (by omega) (ka + 1) ry417 gy414 rfl hgy416 (fun j j1 => by rw [egy415, va_up_ne _ _ (by omega)]; exact f3A j j1) (fun j hj => by rw [hvy418]; by_cases e : j = nkA; (rw [e, uZ_s]); (rw [uZ_n _ _ e]; exact fTa j (by omega))) (by omega)
  have hgy419 := up_n egy33 ha22 (ne_o (i := i) (c := 22) (d := 0) rfl)
  have hgy420 := (hfvy35 (i + 22) (ne_o (i := i) (c := 22) (d := 0) rfl)).trans hgy419
  have hgy421 := up_n egy37 hgy420 (ne_o (i := i) (c := 22) (d := 0) rfl)
  have hgy422 := up_n egy40 hgy421 (ne_o (i := i) (c := 22) (d := 0) rfl)
  have hgy423 := up_n egy43 hgy422 (ne_o (i := i) (c := 22) (d := 0) rfl)
  have hgy424 := up_n egy46 hgy423 (ne_o (i := i) (c := 22) (d := 0) rfl)
  have hgy425 := up_n egy49 hgy424 (ne_o (i := i) (c := 22) (d := 0) rfl)
  have hgy426 := up_n egy52 hgy425 (ne_o (i := i) (c := 22) (d := 0) rfl)
  have hgy427 := up_n egy55 hgy426 (ne_o (i := i) (c := 22) (d := 0) rfl)
  have hgy428 := up_n egy58 hgy427 (ne_o (i := i) (c := 22) (d := 0) rfl)
  refine z_lv (lv' := [(0, .ref (ad i)), (1, .int (zI ((n : Int)))), (2, .int (zI (0)))]) [1, 2, 0] rfl ?_
  exact A _ (0) tb1 gy57 rfl hgy428 (fun j _ => rfl) (fun k a => absurd a (by omega)) (by omega)
end
section
-- 99x.refcast.lean.txt
set_option maxRecDepth 100000 in
set_option maxHeartbeats 4000000 in
theorem c_yForecast (l : Launch) (D : va_G) (A : Nat → Prop) (cs : Nat → ClassId) (tt : Nat) (N : Nat) (ad : Nat → Nat) (g : Nat → va_E) (i : Nat) (hN : i + 30 ≤ N) (x : Int) (hx : 0 ≤ x ∧ x ≤ 512) (F r : Nat → Int) {st op ai fa mu tb tp : Nat → Int} (hM : okMr cs ad g i x F r st op ai fa mu tb tp) (hPl : F 25 = 0 ∧ F 26 = -1 ∧ F 27 = -1 ∧ F 29 = 0) (z : Int) (hz : -2147483648 ≤ z ∧ z ≤ 2147483647) (z1 : Int) (hz1 : -2147483648 ≤ z1 ∧ z1 ≤ 2147483647) : zM l yX10_forecast cX10_forecast 3 (some .int) ({ frames := 2, cells := 0, slots := 0, locals := 120 } : Room) D A cs tt N ad g [.ref (ad i), .int (zI (z)), .int (zI (z1))] (rI0 N ad fun q g' => (∃ F' r' : Nat → Int, okMr cs ad g' i (x + 1) F' r' st op ai fa mu tb tp ∧ ((((0 ≤ z ∧ z < F 14) ∧ 0 ≤ z1 ∧ z1 ≤ 2) ∧ F' 12 = 0 ∧ (-2147483648 ≤ q ∧ q ≤ 2147483647) ∧ ((z1 = 0 ∧ zI (ai (z).toNat) = zI q) ∨ (z1 = 1 ∧ zI (fa (z).toNat) = zI q) ∨ (z1 = 2 ∧ zI (mu (z).toNat) = zI q))) ∨ (¬ ((0 ≤ z ∧ z < F 14) ∧ 0 ≤ z1 ∧ z1 ≤ 2) ∧ F' 12 = 1)) ∧ (F' 13 = F 13 ∧ F' 14 = F 14 ∧ F' 15 = F 15 ∧ F' 16 = F 16 ∧ F' 17 = F 17 ∧ F' 18 = F 18 ∧ F' 19 = F 19 ∧ F' 20 = F 20 ∧ F' 21 = F 21 ∧ F' 23 = F 23 ∧ F' 24 = F 24) ∧ (F' 25 = 0 ∧ F' 26 = -1 ∧ F' 27 = -1 ∧ F' 29 = 0) ∧ (∀ j, j < 350 ∨ 700 ≤ j → r' j = r j)) ∧ ∀ j, j < i ∨ i + 30 ≤ j ∨ (i + 8 ≤ j ∧ j ≤ i + 12) → g' j = g j) := by
  obtain ⟨hg, ⟨⟨e13, e14, e25, e27, e29⟩, k15, k16, k17, k18, k19, k20, k23, k21⟩, hRD, hTx, hA, ns, nh, nd, rf, pi, te, ki, li, ok1, ok2, fo, dd, dps, ⟨ha1, ha2, ha3, ha4, ha5, ha6, ha7, ha8, ha9, ha10, ha11, ha12, ha13, ha14, ha15, ha24, ha25, ha26, ha27, ha28, ha29⟩, hEv, hPt, hns, htp⟩ := id hM
  obtain ⟨-, hop, hai, hfa, hT, hT1⟩ := id hEv
  have hay1 : zAt ad (i) (ad i) := rfl
  have hay2 : zAt ad (i + 1) (ad (i + 1)) := rfl
  have hay3 : zAt ad (i + 2) (ad (i + 2)) := rfl
  have hay4 : zAt ad (i + 3) (ad (i + 3)) := rfl
  have hay5 : zAt ad (i + 4) (ad (i + 4)) := rfl
  have hay6 : zAt ad (i + 5) (ad (i + 5)) := rfl
  have hay7 : zAt ad (i + 6) (ad (i + 6)) := rfl
  have hay8 : zAt ad (i + 7) (ad (i + 7)) := rfl
  have hay9 : zAt ad (i + 8) (ad (i + 8)) := rfl
  have hay10 : zAt ad (i + 9) (ad (i + 9)) := rfl
  have hay11 : zAt ad (i + 10) (ad (i + 10)) := rfl
  have hay12 : zAt ad (i + 11) (ad (i + 11)) := rfl
  have hay13 : zAt ad (i + 12) (ad (i + 12)) := rfl
  have hay14 : zAt ad (i + 13) (ad (i + 13)) := rfl
  have hay15 : zAt ad (i + 14) (ad (i + 14)) := rfl
  have hay16 : zAt ad (i + 15) (ad (i + 15)) := rfl
  have hay17 : zAt ad (i + 24) (ad (i + 24)) := rfl
  have hay18 : zAt ad (i + 25) (ad (i + 25)) := rfl
  have hay19 : zAt ad (i + 26) (ad (i + 26)) := rfl
  have hay20 : zAt ad (i + 27) (ad (i + 27)) := rfl
  have hay21 : zAt ad (i + 28) (ad (i + 28)) := rfl
  have hay22 : zAt ad (i + 29) (ad (i + 29)) := rfl
  obtain ⟨⟨hsyy23, htyy23, hnyy23, hpyy23⟩, hlyy23⟩ := okA.at0 hA
  simp only [Nat.zero_add] at hsyy23 hnyy23 hpyy23
  have hmn : ∀ s, s < 4 → 0 ≤ r (6 + 86 * s) ∧ r (6 + 86 * s) ≤ 12 := fun s hs => (hsyy23 s hs).1
  have h5 : 0 ≤ r 5 ∧ r 5 ≤ 6 := hpyy23
  obtain ⟨hp25, hp26, hp27, hp29⟩ := id hPl
  refine z_of (by decide) (Nat.le_of_ble_eq_true rfl) ?_
  intro pZ eZ sZ mZ below meth cZ C hr hlk hnm
  refine z_lv (lv' := [(0, .ref (ad i)), (1, .int (zI (z))), (2, .int (zI (z1)))]) [0, 1, 2] rfl ?_
  refine z_aload_n C 0 dX10_forecast_0 rfl ?_
  refine z_iconst (z := 0) C dX10_forecast_1 rfl ?_
  refine z_put (fs' := mF ad (i) (uZ F 12 (0))) C (lt_A0 hN rfl) hay1 hg tyX10 tyX10_ok nmX10 rfl inA_X10 12 (by decide) q_1471 rfl rfl rfl rfl (Nat.le_of_ble_eq_true rfl) rfl dX10_forecast_2 (fun gy24 egy25 => ?_)
  have hgy26 := up_s egy25
  refine z_aload_n C 0 dX10_forecast_5 rfl ?_
  refine z_iload_n C 1 dX10_forecast_6 rfl ?_
  refine z_iconst (z := 0) C dX10_forecast_7 rfl ?_
  refine z_aload_n C 0 dX10_forecast_8 rfl ?_
  refine z_get (v := .int (zI (F 14))) C (lt_A0 hN rfl) hay1 hgy26 rfl inA_X10 14 (by decide) q_1473 rfl (fv (F := (uZ F 12 (0))) (f := 14) (fn rfl (by decide))) dX10_forecast_9 ?_
  refine z_iconst (z := 1) C dX10_forecast_12 rfl ?_
  refine z_isub C dX10_forecast_13 ?_
  refine z_cS (As := [.int (zI (z)), .int (zI (0)), .int (zI ((F 14) - 1))]) (rest := [.ref (ad i)]) C (c_X10_within l D A cs tt N ad _ (z) (by omega) (0) (by omega) ((F 14) - 1) (by omega)) ms_yX10_within q_1686 hd_yX10_within (by decide) (Nat.le_of_ble_eq_true rfl) (by decide) dX10_forecast_14 rfl (kI0 fun vy27 gvy27 hvy27 => ?_)
  obtain ⟨hvy27, rfl⟩ := hvy27
  rcases hvy27 with ⟨rfl, hxvy27⟩ | ⟨rfl, hxvy27⟩
  · refine z_if_eq (tgt := 33) C dX10_forecast_17 (by decide) (by omega) (fun h => absurd h (by omega)) (fun _ => ?_)
    refine z_iload_n C 2 dX10_forecast_20 rfl ?_
    refine z_iconst (z := 0) C dX10_forecast_21 rfl ?_
    refine z_iconst (z := 2) C dX10_forecast_22 rfl ?_
    refine z_cS (As := [.int (zI (z1)), .int (zI (0)), .int (zI (2))]) (rest := [.ref (ad i)]) C (c_X10_within l D A cs tt N ad _ (z1) (by omega) (0) (by omega) (2) (by omega)) ms_yX10_within q_1686 hd_yX10_within (by decide) (Nat.le_of_ble_eq_true rfl) (by decide) dX10_forecast_23 rfl (kI0 fun vy28 gvy28 hvy28 => ?_)
    obtain ⟨hvy28, rfl⟩ := hvy28
    rcases hvy28 with ⟨rfl, hxvy28⟩ | ⟨rfl, hxvy28⟩
    · refine z_if_eq (tgt := 33) C dX10_forecast_26 (by decide) (by omega) (fun h => absurd h (by omega)) (fun _ => ?_)
      refine z_iconst (z := 1) C dX10_forecast_29 rfl ?_
      refine z_goto (tgt := 34) C dX10_forecast_30 (by decide) ?_
      refine z_iconst (z := 1) C dX10_forecast_34 rfl ?_
      refine z_cV (As := [.int (zI (1)), .int (zI (1))]) (rest := []) (ci := 12) C (c_yRight l D A cs tt N ad _ i hN _ hgy26 (uZ_s _ _ _) (1) (by omega) (1) (by omega)) (lt_A0 hN rfl) hay1 hgy26 rfl rfl mv_yX10_right q_1648 hd_yX10_right (by decide) (Nat.le_of_ble_eq_true rfl) (by decide) dX10_forecast_35 rfl (kI0 fun vy29 gvy29 hvy29 => ?_)
      obtain ⟨⟨Fvy29, hcvy29, hqvy29, hFvy29⟩, hfvy29⟩ := hvy29
      obtain ⟨rfl, hevy29⟩ : vy29 = 1 ∧ Fvy29 12 = 0 := by omega
      clear hqvy29
      refine z_if_ne (tgt := 43) C dX10_forecast_38 (by decide) (by omega) (fun _ => ?_) (fun h => absurd h (by omega))
      refine z_iload_n C 2 dX10_forecast_43 rfl ?_
      refine z_if_ne (tgt := 56) C dX10_forecast_44 (by decide) (by omega) (fun hby30 => ?_) (fun hby30 => ?_)
      · refine z_iload_n C 2 dX10_forecast_56 rfl ?_
        refine z_iconst (z := 1) C dX10_forecast_57 rfl ?_
        refine z_icmp_ne (tgt := 70) C dX10_forecast_58 (by decide) (by omega) (by omega) (fun hby31 => ?_) (fun hby31 => ?_)
        · refine z_aload_n C 0 dX10_forecast_70 rfl ?_
          refine z_get (v := .ref (ad (i + 6))) C (lt_A0 hN rfl) hay1 hcvy29 rfl inA_X10 5 (by decide) q_1464 rfl rfl dX10_forecast_71 ?_
          refine z_iload_n C 1 dX10_forecast_74 rfl ?_
          have hgy32 := up_n egy25 ha6 (ne_o (i := i) (c := 6) (d := 0) rfl)
          have hgy33 := (hfvy29 (i + 6) (ne_o (i := i) (c := 6) (d := 0) rfl)).trans hgy32
          refine z_iald C (lt_A (c := 6) hN rfl) hay7 hgy33 ((z).toNat) (by omega) (by omega) (by decide) dX10_forecast_75 ?_
          obtain ⟨r9, e9, h9⟩ := zI_of (zI (mu ((z).toNat)))
          rw [e9]
          have hgy34 := up_n egy25 ha1 (ne_o (i := i) (c := 1) (d := 0) rfl)
          have hgy35 := (hfvy29 (i + 1) (ne_o (i := i) (c := 1) (d := 0) rfl)).trans hgy34
          have hFy36 : ∀ f, f ≠ 12 → Fvy29 f = F f := fun f n12 => ((hFvy29 f n12).trans ((uZ_n _ _ n12).trans rfl))
          have hey37 : Fvy29 13 = F 13 := ((hFvy29 13 (by decide)).trans (fn rfl (by decide)))
          have hey38 : Fvy29 14 = F 14 := ((hFvy29 14 (by decide)).trans (fn rfl (by decide)))
          have hey39 : Fvy29 15 = F 15 := ((hFvy29 15 (by decide)).trans (fn rfl (by decide)))
          have hey40 : Fvy29 16 = F 16 := ((hFvy29 16 (by decide)).trans (fn rfl (by decide)))
          have hey41 : Fvy29 17 = F 17 := ((hFvy29 17 (by decide)).trans (fn rfl (by decide)))
          have hey42 : Fvy29 18 = F 18 := ((hFvy29 18 (by decide)).trans (fn rfl (by decide)))
          have hey43 : Fvy29 19 = F 19 := ((hFvy29 19 (by decide)).trans (fn rfl (by decide)))
          have hey44 : Fvy29 20 = F 20 := ((hFvy29 20 (by decide)).trans (fn rfl (by decide)))
          have hey45 : Fvy29 21 = F 21 := ((hFvy29 21 (by decide)).trans (fn rfl (by decide)))
          have hey46 : Fvy29 23 = F 23 := ((hFvy29 23 (by decide)).trans (fn rfl (by decide)))
          have hey47 : Fvy29 25 = F 25 := ((hFvy29 25 (by decide)).trans (fn rfl (by decide)))
          have hey48 : Fvy29 27 = F 27 := ((hFvy29 27 (by decide)).trans (fn rfl (by decide)))
          have hey49 : Fvy29 28 = F 28 := ((hFvy29 28 (by decide)).trans (fn rfl (by decide)))
          have hey50 : Fvy29 29 = F 29 := ((hFvy29 29 (by decide)).trans (fn rfl (by decide)))
          have hKy51 : okF Fvy29 := okF.mv hM.2.1 hey37 hey38 hey39 hey40 hey41 hey42 hey43 hey44 hey45 hey46 hey47 hey48 hey49 hey50
          have hMy52 : okMr cs ad gvy29 i (x + 1) Fvy29 r st op ai fa mu tb tp := okMr.upd hM hcvy29 hKy51 (fun f a => hFy36 f (by omega)) hgy35 (hA.mono (by omega)) (fun j a b => by
              exact Or.inl (by rw [hfvy29 _ (by omega)]; rw [egy25, va_up_ne _ _ (by omega)]))
          have hkpy53 : Fvy29 13 = F 13 := ((hFvy29 13 (by decide)).trans (fn rfl (by decide)))
          have hkpy54 : Fvy29 14 = F 14 := ((hFvy29 14 (by decide)).trans (fn rfl (by decide)))
          have hkpy55 : Fvy29 15 = F 15 := ((hFvy29 15 (by decide)).trans (fn rfl (by decide)))
          have hkpy56 : Fvy29 16 = F 16 := ((hFvy29 16 (by decide)).trans (fn rfl (by decide)))
          have hkpy57 : Fvy29 17 = F 17 := ((hFvy29 17 (by decide)).trans (fn rfl (by decide)))
          have hkpy58 : Fvy29 18 = F 18 := ((hFvy29 18 (by decide)).trans (fn rfl (by decide)))
          have hkpy59 : Fvy29 19 = F 19 := ((hFvy29 19 (by decide)).trans (fn rfl (by decide)))
          have hkpy60 : Fvy29 20 = F 20 := ((hFvy29 20 (by decide)).trans (fn rfl (by decide)))
          have hkpy61 : Fvy29 21 = F 21 := ((hFvy29 21 (by decide)).trans (fn rfl (by decide)))
          have hkpy62 : Fvy29 23 = F 23 := ((hFvy29 23 (by decide)).trans (fn rfl (by decide)))
          have hkpy63 : Fvy29 24 = F 24 := ((hFvy29 24 (by decide)).trans (fn rfl (by decide)))
          have hkpy64 : Fvy29 25 = F 25 := ((hFvy29 25 (by decide)).trans (fn rfl (by decide)))
          have hkpy65 : Fvy29 26 = F 26 := ((hFvy29 26 (by decide)).trans (fn rfl (by decide)))
          have hkpy66 : Fvy29 27 = F 27 := ((hFvy29 27 (by decide)).trans (fn rfl (by decide)))
          have hkpy67 : Fvy29 29 = F 29 := ((hFvy29 29 (by decide)).trans (fn rfl (by decide)))
          have h12 : Fvy29 12 = 0 := hevy29
          exact z_iret C hr hlk dX10_forecast_76 (by decide) (by decide) ⟨r9, rfl, rfl, rfl, ⟨_, _, hMy52, Or.inl ⟨by omega, by omega, by omega, Or.inr (Or.inr ⟨by omega, (by first | rfl | exact e9)⟩)⟩, ⟨hkpy53, hkpy54, hkpy55, hkpy56, hkpy57, hkpy58, hkpy59, hkpy60, hkpy61, hkpy62, hkpy63⟩, ⟨(hkpy64.trans hp25), (hkpy65.trans hp26), (hkpy66.trans hp27), (hkpy67.trans hp29)⟩, (fun j _ => rfl)⟩, fun j j1 => by rw [hfvy29 _ (by omega)]; rw [egy25, va_up_ne _ _ (by omega)]⟩
        · refine z_aload_n C 0 dX10_forecast_61 rfl ?_
          refine z_get (v := .ref (ad (i + 5))) C (lt_A0 hN rfl) hay1 hcvy29 rfl inA_X10 4 (by decide) q_1463 rfl rfl dX10_forecast_62 ?_
          refine z_iload_n C 1 dX10_forecast_65 rfl ?_
          have hgy68 := up_n egy25 ha5 (ne_o (i := i) (c := 5) (d := 0) rfl)
          have hgy69 := (hfvy29 (i + 5) (ne_o (i := i) (c := 5) (d := 0) rfl)).trans hgy68
          refine z_iald C (lt_A (c := 5) hN rfl) hay6 hgy69 ((z).toNat) (by omega) (by omega) (by decide) dX10_forecast_66 ?_
          refine z_goto (tgt := 76) C dX10_forecast_67 (by decide) ?_
          obtain ⟨r9, e9, h9⟩ := zI_of (zI (fa ((z).toNat)))
          rw [e9]
          have hgy70 := up_n egy25 ha1 (ne_o (i := i) (c := 1) (d := 0) rfl)
          have hgy71 := (hfvy29 (i + 1) (ne_o (i := i) (c := 1) (d := 0) rfl)).trans hgy70
          have hFy72 : ∀ f, f ≠ 12 → Fvy29 f = F f := fun f n12 => ((hFvy29 f n12).trans ((uZ_n _ _ n12).trans rfl))
          have hey73 : Fvy29 13 = F 13 := ((hFvy29 13 (by decide)).trans (fn rfl (by decide)))
          have hey74 : Fvy29 14 = F 14 := ((hFvy29 14 (by decide)).trans (fn rfl (by decide)))
          have hey75 : Fvy29 15 = F 15 := ((hFvy29 15 (by decide)).trans (fn rfl (by decide)))
          have hey76 : Fvy29 16 = F 16 := ((hFvy29 16 (by decide)).trans (fn rfl (by decide)))
          have hey77 : Fvy29 17 = F 17 := ((hFvy29 17 (by decide)).trans (fn rfl (by decide)))
          have hey78 : Fvy29 18 = F 18 := ((hFvy29 18 (by decide)).trans (fn rfl (by decide)))
          have hey79 : Fvy29 19 = F 19 := ((hFvy29 19 (by decide)).trans (fn rfl (by decide)))
          have hey80 : Fvy29 20 = F 20 := ((hFvy29 20 (by decide)).trans (fn rfl (by decide)))
          have hey81 : Fvy29 21 = F 21 := ((hFvy29 21 (by decide)).trans (fn rfl (by decide)))
          have hey82 : Fvy29 23 = F 23 := ((hFvy29 23 (by decide)).trans (fn rfl (by decide)))
          have hey83 : Fvy29 25 = F 25 := ((hFvy29 25 (by decide)).trans (fn rfl (by decide)))
          have hey84 : Fvy29 27 = F 27 := ((hFvy29 27 (by decide)).trans (fn rfl (by decide)))
          have hey85 : Fvy29 28 = F 28 := ((hFvy29 28 (by decide)).trans (fn rfl (by decide)))
          have hey86 : Fvy29 29 = F 29 := ((hFvy29 29 (by decide)).trans (fn rfl (by decide)))
          have hKy87 : okF Fvy29 := okF.mv hM.2.1 hey73 hey74 hey75 hey76 hey77 hey78 hey79 hey80 hey81 hey82 hey83 hey84 hey85 hey86
          have hMy88 : okMr cs ad gvy29 i (x + 1) Fvy29 r st op ai fa mu tb tp := okMr.upd hM hcvy29 hKy87 (fun f a => hFy72 f (by omega)) hgy71 (hA.mono (by omega)) (fun j a b => by
              exact Or.inl (by rw [hfvy29 _ (by omega)]; rw [egy25, va_up_ne _ _ (by omega)]))
          have hkpy89 : Fvy29 13 = F 13 := ((hFvy29 13 (by decide)).trans (fn rfl (by decide)))
          have hkpy90 : Fvy29 14 = F 14 := ((hFvy29 14 (by decide)).trans (fn rfl (by decide)))
          have hkpy91 : Fvy29 15 = F 15 := ((hFvy29 15 (by decide)).trans (fn rfl (by decide)))
          have hkpy92 : Fvy29 16 = F 16 := ((hFvy29 16 (by decide)).trans (fn rfl (by decide)))
          have hkpy93 : Fvy29 17 = F 17 := ((hFvy29 17 (by decide)).trans (fn rfl (by decide)))
          have hkpy94 : Fvy29 18 = F 18 := ((hFvy29 18 (by decide)).trans (fn rfl (by decide)))
          have hkpy95 : Fvy29 19 = F 19 := ((hFvy29 19 (by decide)).trans (fn rfl (by decide)))
          have hkpy96 : Fvy29 20 = F 20 := ((hFvy29 20 (by decide)).trans (fn rfl (by decide)))
          have hkpy97 : Fvy29 21 = F 21 := ((hFvy29 21 (by decide)).trans (fn rfl (by decide)))
          have hkpy98 : Fvy29 23 = F 23 := ((hFvy29 23 (by decide)).trans (fn rfl (by decide)))
          have hkpy99 : Fvy29 24 = F 24 := ((hFvy29 24 (by decide)).trans (fn rfl (by decide)))
          have hkpy100 : Fvy29 25 = F 25 := ((hFvy29 25 (by decide)).trans (fn rfl (by decide)))
          have hkpy101 : Fvy29 26 = F 26 := ((hFvy29 26 (by decide)).trans (fn rfl (by decide)))
          have hkpy102 : Fvy29 27 = F 27 := ((hFvy29 27 (by decide)).trans (fn rfl (by decide)))
          have hkpy103 : Fvy29 29 = F 29 := ((hFvy29 29 (by decide)).trans (fn rfl (by decide)))
          have h12 : Fvy29 12 = 0 := hevy29
          exact z_iret C hr hlk dX10_forecast_76 (by decide) (by decide) ⟨r9, rfl, rfl, rfl, ⟨_, _, hMy88, Or.inl ⟨by omega, by omega, by omega, Or.inr (Or.inl ⟨by omega, (by first | rfl | exact e9)⟩)⟩, ⟨hkpy89, hkpy90, hkpy91, hkpy92, hkpy93, hkpy94, hkpy95, hkpy96, hkpy97, hkpy98, hkpy99⟩, ⟨(hkpy100.trans hp25), (hkpy101.trans hp26), (hkpy102.trans hp27), (hkpy103.trans hp29)⟩, (fun j _ => rfl)⟩, fun j j1 => by rw [hfvy29 _ (by omega)]; rw [egy25, va_up_ne _ _ (by omega)]⟩
      · refine z_aload_n C 0 dX10_forecast_47 rfl ?_
        refine z_get (v := .ref (ad (i + 4))) C (lt_A0 hN rfl) hay1 hcvy29 rfl inA_X10 3 (by decide) q_1462 rfl rfl dX10_forecast_48 ?_
        refine z_iload_n C 1 dX10_forecast_51 rfl ?_
        have hgy104 := up_n egy25 ha4 (ne_o (i := i) (c := 4) (d := 0) rfl)
        have hgy105 := (hfvy29 (i + 4) (ne_o (i := i) (c := 4) (d := 0) rfl)).trans hgy104
        refine z_iald C (lt_A (c := 4) hN rfl) hay5 hgy105 ((z).toNat) (by omega) (by omega) (by decide) dX10_forecast_52 ?_
        have hrfy106 := hai ((z).toNat) (by omega)
        refine z_goto (tgt := 76) C dX10_forecast_53 (by decide) ?_
        obtain ⟨r9, e9, h9⟩ := zI_of (zI (ai ((z).toNat)))
        rw [e9]
        have hgy107 := up_n egy25 ha1 (ne_o (i := i) (c := 1) (d := 0) rfl)
        have hgy108 := (hfvy29 (i + 1) (ne_o (i := i) (c := 1) (d := 0) rfl)).trans hgy107
        have hFy109 : ∀ f, f ≠ 12 → Fvy29 f = F f := fun f n12 => ((hFvy29 f n12).trans ((uZ_n _ _ n12).trans rfl))
        have hey110 : Fvy29 13 = F 13 := ((hFvy29 13 (by decide)).trans (fn rfl (by decide)))
        have hey111 : Fvy29 14 = F 14 := ((hFvy29 14 (by decide)).trans (fn rfl (by decide)))
        have hey112 : Fvy29 15 = F 15 := ((hFvy29 15 (by decide)).trans (fn rfl (by decide)))
        have hey113 : Fvy29 16 = F 16 := ((hFvy29 16 (by decide)).trans (fn rfl (by decide)))
        have hey114 : Fvy29 17 = F 17 := ((hFvy29 17 (by decide)).trans (fn rfl (by decide)))
        have hey115 : Fvy29 18 = F 18 := ((hFvy29 18 (by decide)).trans (fn rfl (by decide)))
        have hey116 : Fvy29 19 = F 19 := ((hFvy29 19 (by decide)).trans (fn rfl (by decide)))
        have hey117 : Fvy29 20 = F 20 := ((hFvy29 20 (by decide)).trans (fn rfl (by decide)))
        have hey118 : Fvy29 21 = F 21 := ((hFvy29 21 (by decide)).trans (fn rfl (by decide)))
        have hey119 : Fvy29 23 = F 23 := ((hFvy29 23 (by decide)).trans (fn rfl (by decide)))
        have hey120 : Fvy29 25 = F 25 := ((hFvy29 25 (by decide)).trans (fn rfl (by decide)))
        have hey121 : Fvy29 27 = F 27 := ((hFvy29 27 (by decide)).trans (fn rfl (by decide)))
        have hey122 : Fvy29 28 = F 28 := ((hFvy29 28 (by decide)).trans (fn rfl (by decide)))
        have hey123 : Fvy29 29 = F 29 := ((hFvy29 29 (by decide)).trans (fn rfl (by decide)))
        have hKy124 : okF Fvy29 := okF.mv hM.2.1 hey110 hey111 hey112 hey113 hey114 hey115 hey116 hey117 hey118 hey119 hey120 hey121 hey122 hey123
        have hMy125 : okMr cs ad gvy29 i (x + 1) Fvy29 r st op ai fa mu tb tp := okMr.upd hM hcvy29 hKy124 (fun f a => hFy109 f (by omega)) hgy108 (hA.mono (by omega)) (fun j a b => by
            exact Or.inl (by rw [hfvy29 _ (by omega)]; rw [egy25, va_up_ne _ _ (by omega)]))
        have hkpy126 : Fvy29 13 = F 13 := ((hFvy29 13 (by decide)).trans (fn rfl (by decide)))
        have hkpy127 : Fvy29 14 = F 14 := ((hFvy29 14 (by decide)).trans (fn rfl (by decide)))
        have hkpy128 : Fvy29 15 = F 15 := ((hFvy29 15 (by decide)).trans (fn rfl (by decide)))
        have hkpy129 : Fvy29 16 = F 16 := ((hFvy29 16 (by decide)).trans (fn rfl (by decide)))
        have hkpy130 : Fvy29 17 = F 17 := ((hFvy29 17 (by decide)).trans (fn rfl (by decide)))
        have hkpy131 : Fvy29 18 = F 18 := ((hFvy29 18 (by decide)).trans (fn rfl (by decide)))
        have hkpy132 : Fvy29 19 = F 19 := ((hFvy29 19 (by decide)).trans (fn rfl (by decide)))
        have hkpy133 : Fvy29 20 = F 20 := ((hFvy29 20 (by decide)).trans (fn rfl (by decide)))
        have hkpy134 : Fvy29 21 = F 21 := ((hFvy29 21 (by decide)).trans (fn rfl (by decide)))
        have hkpy135 : Fvy29 23 = F 23 := ((hFvy29 23 (by decide)).trans (fn rfl (by decide)))
        have hkpy136 : Fvy29 24 = F 24 := ((hFvy29 24 (by decide)).trans (fn rfl (by decide)))
        have hkpy137 : Fvy29 25 = F 25 := ((hFvy29 25 (by decide)).trans (fn rfl (by decide)))
        have hkpy138 : Fvy29 26 = F 26 := ((hFvy29 26 (by decide)).trans (fn rfl (by decide)))
        have hkpy139 : Fvy29 27 = F 27 := ((hFvy29 27 (by decide)).trans (fn rfl (by decide)))
        have hkpy140 : Fvy29 29 = F 29 := ((hFvy29 29 (by decide)).trans (fn rfl (by decide)))
        have h12 : Fvy29 12 = 0 := hevy29
        exact z_iret C hr hlk dX10_forecast_76 (by decide) (by decide) ⟨r9, rfl, rfl, rfl, ⟨_, _, hMy125, Or.inl ⟨by omega, by omega, by omega, Or.inl ⟨by omega, (by first | rfl | exact e9)⟩⟩, ⟨hkpy126, hkpy127, hkpy128, hkpy129, hkpy130, hkpy131, hkpy132, hkpy133, hkpy134, hkpy135, hkpy136⟩, ⟨(hkpy137.trans hp25), (hkpy138.trans hp26), (hkpy139.trans hp27), (hkpy140.trans hp29)⟩, (fun j _ => rfl)⟩, fun j j1 => by rw [hfvy29 _ (by omega)]; rw [egy25, va_up_ne _ _ (by omega)]⟩
    · refine z_if_eq (tgt := 33) C dX10_forecast_26 (by decide) (by omega) (fun _ => ?_) (fun h => absurd h (by omega))
      refine z_iconst (z := 0) C dX10_forecast_33 rfl ?_
      refine z_iconst (z := 1) C dX10_forecast_34 rfl ?_
      refine z_cV (As := [.int (zI (0)), .int (zI (1))]) (rest := []) (ci := 12) C (c_yRight l D A cs tt N ad _ i hN _ hgy26 (uZ_s _ _ _) (0) (by omega) (1) (by omega)) (lt_A0 hN rfl) hay1 hgy26 rfl rfl mv_yX10_right q_1648 hd_yX10_right (by decide) (Nat.le_of_ble_eq_true rfl) (by decide) dX10_forecast_35 rfl (kI0 fun vy141 gvy141 hvy141 => ?_)
      obtain ⟨⟨Fvy141, hcvy141, hqvy141, hFvy141⟩, hfvy141⟩ := hvy141
      obtain ⟨rfl, hevy141⟩ : vy141 = 0 ∧ Fvy141 12 = 1 := by omega
      clear hqvy141
      refine z_if_ne (tgt := 43) C dX10_forecast_38 (by decide) (by omega) (fun h => absurd h (by omega)) (fun _ => ?_)
      refine z_iconst (z := 0) C dX10_forecast_41 rfl ?_
      have hgy142 := up_n egy25 ha1 (ne_o (i := i) (c := 1) (d := 0) rfl)
      have hgy143 := (hfvy141 (i + 1) (ne_o (i := i) (c := 1) (d := 0) rfl)).trans hgy142
      have hFy144 : ∀ f, f ≠ 12 → Fvy141 f = F f := fun f n12 => ((hFvy141 f n12).trans ((uZ_n _ _ n12).trans rfl))
      have hey145 : Fvy141 13 = F 13 := ((hFvy141 13 (by decide)).trans (fn rfl (by decide)))
      have hey146 : Fvy141 14 = F 14 := ((hFvy141 14 (by decide)).trans (fn rfl (by decide)))
      have hey147 : Fvy141 15 = F 15 := ((hFvy141 15 (by decide)).trans (fn rfl (by decide)))
      have hey148 : Fvy141 16 = F 16 := ((hFvy141 16 (by decide)).trans (fn rfl (by decide)))
      have hey149 : Fvy141 17 = F 17 := ((hFvy141 17 (by decide)).trans (fn rfl (by decide)))
      have hey150 : Fvy141 18 = F 18 := ((hFvy141 18 (by decide)).trans (fn rfl (by decide)))
      have hey151 : Fvy141 19 = F 19 := ((hFvy141 19 (by decide)).trans (fn rfl (by decide)))
      have hey152 : Fvy141 20 = F 20 := ((hFvy141 20 (by decide)).trans (fn rfl (by decide)))
      have hey153 : Fvy141 21 = F 21 := ((hFvy141 21 (by decide)).trans (fn rfl (by decide)))
      have hey154 : Fvy141 23 = F 23 := ((hFvy141 23 (by decide)).trans (fn rfl (by decide)))
      have hey155 : Fvy141 25 = F 25 := ((hFvy141 25 (by decide)).trans (fn rfl (by decide)))
      have hey156 : Fvy141 27 = F 27 := ((hFvy141 27 (by decide)).trans (fn rfl (by decide)))
      have hey157 : Fvy141 28 = F 28 := ((hFvy141 28 (by decide)).trans (fn rfl (by decide)))
      have hey158 : Fvy141 29 = F 29 := ((hFvy141 29 (by decide)).trans (fn rfl (by decide)))
      have hKy159 : okF Fvy141 := okF.mv hM.2.1 hey145 hey146 hey147 hey148 hey149 hey150 hey151 hey152 hey153 hey154 hey155 hey156 hey157 hey158
      have hMy160 : okMr cs ad gvy141 i (x + 1) Fvy141 r st op ai fa mu tb tp := okMr.upd hM hcvy141 hKy159 (fun f a => hFy144 f (by omega)) hgy143 (hA.mono (by omega)) (fun j a b => by
          exact Or.inl (by rw [hfvy141 _ (by omega)]; rw [egy25, va_up_ne _ _ (by omega)]))
      have hkpy161 : Fvy141 13 = F 13 := ((hFvy141 13 (by decide)).trans (fn rfl (by decide)))
      have hkpy162 : Fvy141 14 = F 14 := ((hFvy141 14 (by decide)).trans (fn rfl (by decide)))
      have hkpy163 : Fvy141 15 = F 15 := ((hFvy141 15 (by decide)).trans (fn rfl (by decide)))
      have hkpy164 : Fvy141 16 = F 16 := ((hFvy141 16 (by decide)).trans (fn rfl (by decide)))
      have hkpy165 : Fvy141 17 = F 17 := ((hFvy141 17 (by decide)).trans (fn rfl (by decide)))
      have hkpy166 : Fvy141 18 = F 18 := ((hFvy141 18 (by decide)).trans (fn rfl (by decide)))
      have hkpy167 : Fvy141 19 = F 19 := ((hFvy141 19 (by decide)).trans (fn rfl (by decide)))
      have hkpy168 : Fvy141 20 = F 20 := ((hFvy141 20 (by decide)).trans (fn rfl (by decide)))
      have hkpy169 : Fvy141 21 = F 21 := ((hFvy141 21 (by decide)).trans (fn rfl (by decide)))
      have hkpy170 : Fvy141 23 = F 23 := ((hFvy141 23 (by decide)).trans (fn rfl (by decide)))
      have hkpy171 : Fvy141 24 = F 24 := ((hFvy141 24 (by decide)).trans (fn rfl (by decide)))
      have hkpy172 : Fvy141 25 = F 25 := ((hFvy141 25 (by decide)).trans (fn rfl (by decide)))
      have hkpy173 : Fvy141 26 = F 26 := ((hFvy141 26 (by decide)).trans (fn rfl (by decide)))
      have hkpy174 : Fvy141 27 = F 27 := ((hFvy141 27 (by decide)).trans (fn rfl (by decide)))
      have hkpy175 : Fvy141 29 = F 29 := ((hFvy141 29 (by decide)).trans (fn rfl (by decide)))
      have h12 : Fvy141 12 = 1 := hevy141
      exact z_iret C hr hlk dX10_forecast_42 (by decide) (by decide) ⟨0, rfl, rfl, rfl, ⟨_, _, hMy160, Or.inr ⟨by omega, by omega⟩, ⟨hkpy161, hkpy162, hkpy163, hkpy164, hkpy165, hkpy166, hkpy167, hkpy168, hkpy169, hkpy170, hkpy171⟩, ⟨(hkpy172.trans hp25), (hkpy173.trans hp26), (hkpy174.trans hp27), (hkpy175.trans hp29)⟩, (fun j _ => rfl)⟩, fun j j1 => by rw [hfvy141 _ (by omega)]; rw [egy25, va_up_ne _ _ (by omega)]⟩
  · refine z_if_eq (tgt := 33) C dX10_forecast_17 (by decide) (by omega) (fun _ => ?_) (fun h => absurd h (by omega))
    refine z_iconst (z := 0) C dX10_forecast_33 rfl ?_
    refine z_iconst (z := 1) C dX10_forecast_34 rfl ?_
    refine z_cV (As := [.int (zI (0)), .int (zI (1))]) (rest := []) (ci := 12) C (c_yRight l D A cs tt N ad _ i hN _ hgy26 (uZ_s _ _ _) (0) (by omega) (1) (by omega)) (lt_A0 hN rfl) hay1 hgy26 rfl rfl mv_yX10_right q_1648 hd_yX10_right (by decide) (Nat.le_of_ble_eq_true rfl) (by decide) dX10_forecast_35 rfl (kI0 fun vy176 gvy176 hvy176 => ?_)
    obtain ⟨⟨Fvy176, hcvy176, hqvy176, hFvy176⟩, hfvy176⟩ := hvy176
    obtain ⟨rfl, hevy176⟩ : vy176 = 0 ∧ Fvy176 12 = 1 := by omega
    clear hqvy176
    refine z_if_ne (tgt := 43) C dX10_forecast_38 (by decide) (by omega) (fun h => absurd h (by omega)) (fun _ => ?_)
    refine z_iconst (z := 0) C dX10_forecast_41 rfl ?_
    have hgy177 := up_n egy25 ha1 (ne_o (i := i) (c := 1) (d := 0) rfl)
    have hgy178 := (hfvy176 (i + 1) (ne_o (i := i) (c := 1) (d := 0) rfl)).trans hgy177
    have hFy179 : ∀ f, f ≠ 12 → Fvy176 f = F f := fun f n12 => ((hFvy176 f n12).trans ((uZ_n _ _ n12).trans rfl))
    have hey180 : Fvy176 13 = F 13 := ((hFvy176 13 (by decide)).trans (fn rfl (by decide)))
    have hey181 : Fvy176 14 = F 14 := ((hFvy176 14 (by decide)).trans (fn rfl (by decide)))
    have hey182 : Fvy176 15 = F 15 := ((hFvy176 15 (by decide)).trans (fn rfl (by decide)))
    have hey183 : Fvy176 16 = F 16 := ((hFvy176 16 (by decide)).trans (fn rfl (by decide)))
    have hey184 : Fvy176 17 = F 17 := ((hFvy176 17 (by decide)).trans (fn rfl (by decide)))
    have hey185 : Fvy176 18 = F 18 := ((hFvy176 18 (by decide)).trans (fn rfl (by decide)))
    have hey186 : Fvy176 19 = F 19 := ((hFvy176 19 (by decide)).trans (fn rfl (by decide)))
    have hey187 : Fvy176 20 = F 20 := ((hFvy176 20 (by decide)).trans (fn rfl (by decide)))
    have hey188 : Fvy176 21 = F 21 := ((hFvy176 21 (by decide)).trans (fn rfl (by decide)))
    have hey189 : Fvy176 23 = F 23 := ((hFvy176 23 (by decide)).trans (fn rfl (by decide)))
    have hey190 : Fvy176 25 = F 25 := ((hFvy176 25 (by decide)).trans (fn rfl (by decide)))
    have hey191 : Fvy176 27 = F 27 := ((hFvy176 27 (by decide)).trans (fn rfl (by decide)))
    have hey192 : Fvy176 28 = F 28 := ((hFvy176 28 (by decide)).trans (fn rfl (by decide)))
    have hey193 : Fvy176 29 = F 29 := ((hFvy176 29 (by decide)).trans (fn rfl (by decide)))
    have hKy194 : okF Fvy176 := okF.mv hM.2.1 hey180 hey181 hey182 hey183 hey184 hey185 hey186 hey187 hey188 hey189 hey190 hey191 hey192 hey193
    have hMy195 : okMr cs ad gvy176 i (x + 1) Fvy176 r st op ai fa mu tb tp := okMr.upd hM hcvy176 hKy194 (fun f a => hFy179 f (by omega)) hgy178 (hA.mono (by omega)) (fun j a b => by
        exact Or.inl (by rw [hfvy176 _ (by omega)]; rw [egy25, va_up_ne _ _ (by omega)]))
    have hkpy196 : Fvy176 13 = F 13 := ((hFvy176 13 (by decide)).trans (fn rfl (by decide)))
    have hkpy197 : Fvy176 14 = F 14 := ((hFvy176 14 (by decide)).trans (fn rfl (by decide)))
    have hkpy198 : Fvy176 15 = F 15 := ((hFvy176 15 (by decide)).trans (fn rfl (by decide)))
    have hkpy199 : Fvy176 16 = F 16 := ((hFvy176 16 (by decide)).trans (fn rfl (by decide)))
    have hkpy200 : Fvy176 17 = F 17 := ((hFvy176 17 (by decide)).trans (fn rfl (by decide)))
    have hkpy201 : Fvy176 18 = F 18 := ((hFvy176 18 (by decide)).trans (fn rfl (by decide)))
    have hkpy202 : Fvy176 19 = F 19 := ((hFvy176 19 (by decide)).trans (fn rfl (by decide)))
    have hkpy203 : Fvy176 20 = F 20 := ((hFvy176 20 (by decide)).trans (fn rfl (by decide)))
    have hkpy204 : Fvy176 21 = F 21 := ((hFvy176 21 (by decide)).trans (fn rfl (by decide)))
    have hkpy205 : Fvy176 23 = F 23 := ((hFvy176 23 (by decide)).trans (fn rfl (by decide)))
    have hkpy206 : Fvy176 24 = F 24 := ((hFvy176 24 (by decide)).trans (fn rfl (by decide)))
    have hkpy207 : Fvy176 25 = F 25 := ((hFvy176 25 (by decide)).trans (fn rfl (by decide)))
    have hkpy208 : Fvy176 26 = F 26 := ((hFvy176 26 (by decide)).trans (fn rfl (by decide)))
    have hkpy209 : Fvy176 27 = F 27 := ((hFvy176 27 (by decide)).trans (fn rfl (by decide)))
    have hkpy210 : Fvy176 29 = F 29 := ((hFvy176 29 (by decide)).trans (fn rfl (by decide)))
    have h12 : Fvy176 12 = 1 := hevy176
    exact z_iret C hr hlk dX10_forecast_42 (by decide) (by decide) ⟨0, rfl, rfl, rfl, ⟨_, _, hMy195, Or.inr ⟨by omega, by omega⟩, ⟨hkpy196, hkpy197, hkpy198, hkpy199, hkpy200, hkpy201, hkpy202, hkpy203, hkpy204, hkpy205, hkpy206⟩, ⟨(hkpy207.trans hp25), (hkpy208.trans hp26), (hkpy209.trans hp27), (hkpy210.trans hp29)⟩, (fun j _ => rfl)⟩, fun j j1 => by rw [hfvy176 _ (by omega)]; rw [egy25, va_up_ne _ _ (by omega)]⟩
end
