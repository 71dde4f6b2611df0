def okF (F : Nat → Int) : Prop := ((0 ≤ F 13 ∧ F 13 ≤ 4) ∧ (0 ≤ F 14 ∧ F 14 ≤ 24) ∧ (0 ≤ F 25 ∧ F 25 ≤ 50) ∧ ((0 ≤ F 28 ∧ F 28 ≤ 50) ∧ (-1 ≤ F 27 ∧ F 27 ≤ 23) ∧ (F 27 = -1 ∨ 1 ≤ F 28)) ∧ (0 ≤ F 29 ∧ F 29 ≤ 1)) ∧ (0 ≤ F 15 ∧ F 15 ≤ 40) ∧ (0 ≤ F 16 ∧ F 16 ≤ 39) ∧ (0 ≤ F 17 ∧ F 17 ≤ 8) ∧ (0 ≤ F 18 ∧ F 18 ≤ 40) ∧ (0 ≤ F 19 ∧ F 19 ≤ 39) ∧ (0 ≤ F 20 ∧ F 20 ≤ 8) ∧ (0 ≤ F 23 ∧ F 23 ≤ 900)
/-- what the reader has told, without the TABLE (which each reading clears at its start) -/
def okTy (cs : Nat → ClassId) (g : Nat → va_E) (i : Nat) (F : Nat → Int) : Prop := ∃ st1 op1 mn1 ai1 fa1 mu1 tb1 ly1 : Nat → Int, (g (i + 16) = iA cs 4 st1 ∧ g (i + 17) = iA cs 4 op1 ∧ g (i + 18) = iA cs 4 mn1 ∧ g (i + 19) = iA cs 24 ai1 ∧ g (i + 20) = iA cs 24 fa1 ∧ g (i + 21) = iA cs 24 mu1 ∧ g (i + 22) = iA cs 15 tb1 ∧ g (i + 23) = iA cs 336 ly1) ∧ ((0 ≤ F 47 ∧ F 47 ≤ 4) ∧ (0 ≤ F 48 ∧ F 48 ≤ 24) ∧ (0 ≤ F 49 ∧ F 49 ≤ F 32)) ∧ (∀ k, k < 4 → 0 ≤ op1 k ∧ op1 k ≤ 20) ∧ (∀ k, k < 4 → 0 ≤ mn1 k ∧ mn1 k ≤ 12) ∧ (∀ k, k < 24 → -300 ≤ ai1 k ∧ ai1 k ≤ 100) ∧ (∀ k, k < 24 → (0 ≤ fa1 k ∧ fa1 k ≤ 3) ∧ (0 ≤ mu1 k ∧ mu1 k ≤ 50) ∧ (fa1 k = 1 ∨ fa1 k = 2 → 1 ≤ mu1 k)) ∧ (∀ s l : Nat, (s : Int) < F 47 → (l : Int) < mn1 s → lyT ly1 (84 * s + 7 * l))
theorem okTx.weak {cs : Nat → ClassId} {g : Nat → va_E} {i : Nat} {F : Nat → Int} (h : okTx cs g i F) : okTy cs g i F := by
  obtain ⟨st1, op1, mn1, ai1, fa1, mu1, tb1, ly1, h1, a1, a4, a5, a6, a7, a8, a9⟩ := h
  exact ⟨st1, op1, mn1, ai1, fa1, mu1, tb1, ly1, h1, a1, a4, a5, a6, a7, a9⟩
theorem okTy.mv {cs : Nat → ClassId} {g g' : Nat → va_E} {i : Nat} {F F' : Nat → Int} (h : okTy cs g i F) (hG : ∀ j, i + 16 ≤ j → j ≤ i + 23 → g' j = g j) (hF : F' 47 = F 47 ∧ F' 48 = F 48 ∧ F' 49 = F 49 ∧ F 32 ≤ F' 32) : okTy cs g' i F' := by
  obtain ⟨st1, op1, mn1, ai1, fa1, mu1, tb1, ly1, ⟨h1, h2, h3, h4, h5, h6, h7, h8⟩, ⟨a1, a2, a3⟩, a4, a5, a6, a7, a9⟩ := h
  obtain ⟨f1, f2, f3, f4⟩ := hF
  refine ⟨st1, op1, mn1, ai1, fa1, mu1, tb1, ly1, ⟨by rw [hG _ (by omega) (by omega)]; exact h1, by rw [hG _ (by omega) (by omega)]; exact h2, by rw [hG _ (by omega) (by omega)]; exact h3, by rw [hG _ (by omega) (by omega)]; exact h4, by rw [hG _ (by omega) (by omega)]; exact h5, by rw [hG _ (by omega) (by omega)]; exact h6, by rw [hG _ (by omega) (by omega)]; exact h7, by rw [hG _ (by omega) (by omega)]; exact h8⟩, ⟨by rw [f1]; exact a1, by rw [f2]; exact a2, by rw [f3]; omega⟩, a4, a5, a6, a7, fun s l h => a9 s l (by rw [f1] at h; exact h)⟩
/-- the reference between calls: its fields F, its rows r; x calls were -/
def okMr (cs : Nat → ClassId) (ad : Nat → Nat) (g : Nat → va_E) (i : Nat) (x : Int) (F r : Nat → Int) : Prop := g i = mC ad i F ∧ okF F ∧ RD F ∧ okTy cs g i F ∧ okA r x ∧ ∃ st op ai fa mu tb ns nh nd rf pi tp te ki li ok1 ok2 fo dd dps : Nat → Int, (g (i + 1) = iA cs 29200 r ∧ g (i + 2) = iA cs 4 st ∧ g (i + 3) = iA cs 4 op ∧ g (i + 4) = iA cs 24 ai ∧ g (i + 5) = iA cs 24 fa ∧ g (i + 6) = iA cs 24 mu ∧ g (i + 7) = iA cs 15 tb ∧ g (i + 8) = iA cs 16 ns ∧ g (i + 9) = iA cs 16 nh ∧ g (i + 10) = iA cs 16 nd ∧ g (i + 11) = iA cs 6 rf ∧ g (i + 12) = iA cs 1080 pi ∧ g (i + 13) = iA cs 900 tp ∧ g (i + 14) = iA cs 14 te ∧ g (i + 15) = iA cs 12 ki ∧ g (i + 24) = iA cs 64 li ∧ g (i + 25) = iA cs 12 ok1 ∧ g (i + 26) = iA cs 12 ok2 ∧ g (i + 27) = iA cs 169 fo ∧ g (i + 28) = iA cs 4 dd ∧ g (i + 29) = iA cs 4800 dps) ∧ okEnv F op ai fa mu tb ∧ okPt pi ∧ (∀ k, k < 16 → 0 ≤ ns k ∧ ns k ≤ 3) ∧ (∀ k, k < 900 → 0 ≤ tp k ∧ tp k ≤ 255)
/-- an array that may change, and how -/
def lsP (k : Nat) (t : Nat → Int) : Prop := (k = 2 ∨ k = 9 ∨ k = 10 ∨ k = 11 ∨ k = 14 ∨ k = 15 ∨ (24 ≤ k ∧ k ≤ 29)) ∨ (k = 8 ∧ ∀ n, n < 16 → 0 ≤ t n ∧ t n ≤ 3) ∨ (k = 12 ∧ okPt t) ∨ (k = 13 ∧ ∀ n, n < 900 → 0 ≤ t n ∧ t n ≤ 255)
theorem lsP.l {k : Nat} {t : Nat → Int} (h : k = 2 ∨ k = 9 ∨ k = 10 ∨ k = 11 ∨ k = 14 ∨ k = 15 ∨ (24 ≤ k ∧ k ≤ 29)) : lsP k t := Or.inl h
theorem okMr.arr {cs : Nat → ClassId} {g g' : Nat → va_E} {i n : Nat} (k : Nat) (hk : 1 < k ∧ k < 30) {P : (Nat → Int) → Prop} (h : ∃ t : Nat → Int, g (i + k) = iA cs n t ∧ P t) (hn : mLen k = n) (hG : ∀ j, i + 1 < j → j < i + 30 → g' j = g j ∨ ∃ (k : Nat) (t : Nat → Int), j = i + k ∧ lsP k t ∧ g' j = iA cs (mLen k) t) (hP : ∀ t, lsP k t → P t) : ∃ t : Nat → Int, g' (i + k) = iA cs n t ∧ P t := by
  obtain ⟨t, h1, h2⟩ := h
  rcases hG (i + k) (by omega) (by omega) with e | ⟨k2, t2, e1, e2, e3⟩
  · exact ⟨t, by rw [e]; exact h1, h2⟩
  · have e4 : k2 = k := by omega
    subst e4
    exact ⟨t2, by rw [e3, hn], hP t2 e2⟩
theorem okMr.upd {cs : Nat → ClassId} {ad : Nat → Nat} {g g' : Nat → va_E} {i : Nat} {x x' : Int} {F F' r r' : Nat → Int} (h : okMr cs ad g i x F r) (hi : g' i = mC ad i F') (hK : okF F') (hR : ∀ f, (32 ≤ f ∧ f ≤ 38) ∨ (47 ≤ f ∧ f ≤ 49) → F' f = F f) (hr : g' (i + 1) = iA cs 29200 r') (hA : okA r' x') (hG : ∀ j, i + 1 < j → j < i + 30 → g' j = g j ∨ ∃ (k : Nat) (t : Nat → Int), j = i + k ∧ lsP k t ∧ g' j = iA cs (mLen k) t) : okMr cs ad g' i x' F' r' := by
  obtain ⟨h1, h2, h3, h4, h5, st, op, ai, fa, mu, tb, ns, nh, nd, rf, pi, tp, te, ki, li, ok1, ok2, fo, dd, dps, ⟨b1, b2, b3, b4, b5, b6, b7, b8, b9, b10, b11, b12, b13, b14, b15, b24, b25, b26, b27, b28, b29⟩, h6, h7, h8, h9⟩ := h
  have hT : ∀ j, i + 16 ≤ j → j ≤ i + 23 → g' j = g j := fun j a b => (hG j (by omega) (by omega)).elim (fun e => e) (fun ⟨k, t, e1, e2, e3⟩ => by
    exfalso
    unfold lsP at e2
    rcases e2 with e2 | ⟨e2, _⟩ | ⟨e2, _⟩ | ⟨e2, _⟩ <;> omega)
  have hS : ∀ (k n : Nat) (t : Nat → Int), (3 ≤ k ∧ k ≤ 7) → g (i + k) = iA cs n t → g' (i + k) = iA cs n t := fun k n t a b => (hG (i + k) (by omega) (by omega)).elim (fun e => by rw [e]; exact b) (fun ⟨k2, t, e1, e2, e3⟩ => by
    exfalso
    unfold lsP at e2
    rcases e2 with e2 | ⟨e2, _⟩ | ⟨e2, _⟩ | ⟨e2, _⟩ <;> omega)
  have t1 : ∀ k, (k = 2 ∨ k = 9 ∨ k = 10 ∨ k = 11 ∨ k = 14 ∨ k = 15 ∨ (24 ≤ k ∧ k ≤ 29)) → ∀ t : Nat → Int, g (i + k) = iA cs (mLen k) t → ∃ t2 : Nat → Int, g' (i + k) = iA cs (mLen k) t2 := fun k a t b => by
    obtain ⟨t2, e, _⟩ := okMr.arr (P := fun _ => True) k (by omega) ⟨t, b, trivial⟩ rfl hG (fun _ _ => trivial)
    exact ⟨t2, e⟩
  obtain ⟨u2, v2⟩ := t1 2 (by omega) _ b2
  obtain ⟨u9, v9⟩ := t1 9 (by omega) _ b9
  obtain ⟨u10, v10⟩ := t1 10 (by omega) _ b10
  obtain ⟨u11, v11⟩ := t1 11 (by omega) _ b11
  obtain ⟨u14, v14⟩ := t1 14 (by omega) _ b14
  obtain ⟨u15, v15⟩ := t1 15 (by omega) _ b15
  obtain ⟨u24, v24⟩ := t1 24 (by omega) _ b24
  obtain ⟨u25, v25⟩ := t1 25 (by omega) _ b25
  obtain ⟨u26, v26⟩ := t1 26 (by omega) _ b26
  obtain ⟨u27, v27⟩ := t1 27 (by omega) _ b27
  obtain ⟨u28, v28⟩ := t1 28 (by omega) _ b28
  obtain ⟨u29, v29⟩ := t1 29 (by omega) _ b29
  obtain ⟨u8, v8, w8⟩ := okMr.arr (P := fun t => ∀ k, k < 16 → 0 ≤ t k ∧ t k ≤ 3) 8 (by omega) ⟨ns, b8, h8⟩ rfl hG (fun t e => by
    rcases e with e | ⟨_, e⟩ | ⟨e, _⟩ | ⟨e, _⟩
    · omega
    · exact e
    · omega
    · omega)
  obtain ⟨u12, v12, w12⟩ := okMr.arr (P := okPt) 12 (by omega) ⟨pi, b12, h7⟩ rfl hG (fun t e => by
    rcases e with e | ⟨e, _⟩ | ⟨_, e⟩ | ⟨e, _⟩
    · omega
    · omega
    · exact e
    · omega)
  obtain ⟨u13, v13, w13⟩ := okMr.arr (P := fun t => ∀ k, k < 900 → 0 ≤ t k ∧ t k ≤ 255) 13 (by omega) ⟨tp, b13, h9⟩ rfl hG (fun t e => by
    rcases e with e | ⟨e, _⟩ | ⟨e, _⟩ | ⟨_, e⟩
    · omega
    · omega
    · omega
    · exact e)
  obtain ⟨_, c2, c3, c4, c5, c6⟩ := h6
  refine ⟨hi, hK, ?_, h4.mv (fun j a b => hT j a b) ⟨hR 47 (by omega), hR 48 (by omega), hR 49 (by omega), Int.le_of_eq (hR 32 (by omega)).symm⟩, hA, u2, op, ai, fa, mu, tb, u8, u9, u10, u11, u12, u13, u14, u15, u24, u25, u26, u27, u28, u29, ⟨hr, v2, hS 3 _ _ (by omega) b3, hS 4 _ _ (by omega) b4, hS 5 _ _ (by omega) b5, hS 6 _ _ (by omega) b6, hS 7 _ _ (by omega) b7, v8, v9, v10, v11, v12, v13, v14, v15, v24, v25, v26, v27, v28, v29⟩, ⟨hK.1, c2, c3, c4, c5, c6⟩, w12, w8, w13⟩
  unfold RD at *
  rw [hR 32 (by omega), hR 33 (by omega), hR 34 (by omega), hR 35 (by omega), hR 36 (by omega), hR 37 (by omega), hR 38 (by omega)]
  exact h3

set_option maxRecDepth 100000 in
set_option maxHeartbeats 4000000 in
theorem c_X10_allLayers (l : Launch) (D : va_G) (A : Nat → Prop) (cs : Nat → ClassId) (tt : Nat) (N : Nat) (ad : Nat → Nat) (g : Nat → va_E) (i : Nat) (hN : i + 30 ≤ N) (x : Int) (hx : 0 ≤ x ∧ x ≤ 512) (F r : Nat → Int) (hM : okMr cs ad g i x F r) : zM l yX10_allLayers cX10_allLayers 3 (some .int) ({ frames := 5, cells := 0, slots := 0, locals := 300 } : Room) D A cs tt N ad g [.ref (ad i)] (rI0 N ad fun r g' => (-2147483648 ≤ r ∧ r ≤ 2147483647) ∧ g = g') := by
  obtain ⟨hg, ⟨⟨e13, e14, e25, e27, e29⟩, k15, k16, k17, k18, k19, k20, k23⟩, hRD, hTx, hA, st, op, ai, fa, mu, tb, ns, nh, nd, rf, pi, tp, te, ki, li, ok1, ok2, fo, dd, dps, ⟨ha1, ha2, ha3, ha4, ha5, ha6, ha7, ha8, ha9, ha10, ha11, ha12, ha13, ha14, ha15, ha24, ha25, ha26, ha27, ha28, ha29⟩, hEv, hPt, hns, htp⟩ := id hM
  obtain ⟨-, hop, hai, hfa, hT, hT1⟩ := id hEv
  have hay1 : zAt ad (i) (ad i) := rfl
  have hay2 : zAt ad (i + 1) (ad (i + 1)) := rfl
  have hay3 : zAt ad (i + 2) (ad (i + 2)) := rfl
  have hay4 : zAt ad (i + 3) (ad (i + 3)) := rfl
  have hay5 : zAt ad (i + 4) (ad (i + 4)) := rfl
  have hay6 : zAt ad (i + 5) (ad (i + 5)) := rfl
  have hay7 : zAt ad (i + 6) (ad (i + 6)) := rfl
  have hay8 : zAt ad (i + 7) (ad (i + 7)) := rfl
  have hay9 : zAt ad (i + 8) (ad (i + 8)) := rfl
  have hay10 : zAt ad (i + 9) (ad (i + 9)) := rfl
  have hay11 : zAt ad (i + 10) (ad (i + 10)) := rfl
  have hay12 : zAt ad (i + 11) (ad (i + 11)) := rfl
  have hay13 : zAt ad (i + 12) (ad (i + 12)) := rfl
  have hay14 : zAt ad (i + 13) (ad (i + 13)) := rfl
  have hay15 : zAt ad (i + 14) (ad (i + 14)) := rfl
  have hay16 : zAt ad (i + 15) (ad (i + 15)) := rfl
  have hay17 : zAt ad (i + 24) (ad (i + 24)) := rfl
  have hay18 : zAt ad (i + 25) (ad (i + 25)) := rfl
  have hay19 : zAt ad (i + 26) (ad (i + 26)) := rfl
  have hay20 : zAt ad (i + 27) (ad (i + 27)) := rfl
  have hay21 : zAt ad (i + 28) (ad (i + 28)) := rfl
  have hay22 : zAt ad (i + 29) (ad (i + 29)) := rfl
  obtain ⟨⟨hsyy23, htyy23, hnyy23, hpyy23⟩, hlyy23⟩ := okA.at0 hA
  simp only [Nat.zero_add] at hsyy23 hnyy23 hpyy23
  have hmn : ∀ s, s < 4 → 0 ≤ r (6 + 86 * s) ∧ r (6 + 86 * s) ≤ 12 := fun s hs => (hsyy23 s hs).1
  have h5 : 0 ≤ r 5 ∧ r 5 ≤ 6 := hpyy23
  refine z_of (by decide) (Nat.le_of_ble_eq_true rfl) ?_
  intro pZ eZ sZ mZ below meth cZ C hr hlk hnm
  refine z_lv (lv' := [(0, .ref (ad i))]) [0] rfl ?_
  have lp : ∀ (n9 : Nat) (al : Int) (ss : Int) (g1 : Nat → va_E), (5 - ss).toNat = n9 → (g1 = g) → (-2147483648 ≤ al ∧ al ≤ 2147483647) → (0 ≤ ss ∧ ss ≤ F 13) → zV pZ l eZ ({ frames := 5, cells := 0, slots := 0, locals := 300 } : Room) sZ mZ ([.ref (ad i)] : List Value).toArray below meth cZ (MQ below (zPost D A (rI0 N ad fun r g' => (-2147483648 ≤ r ∧ r ≤ 2147483647) ∧ g = g')) ([.ref (ad i)] : List Value).toArray sZ ({ frames := 5, cells := 0, slots := 0, locals := 300 } : Room).cells ({ frames := 5, cells := 0, slots := 0, locals := 300 } : Room).slots A) D A 3 (N) ad g1 (0) (0) 4 [(0, .ref (ad i)), (1, .int (zI (al))), (2, .int (zI (ss)))] [] := by
    intro n9
    induction n9 using Nat.strongRecOn with
    | ind n9 ih =>
      intro al ss g1 hm9 hg1 hv0 hv1
      subst hg1
      refine z_iload_n C 2 dX10_allLayers_4 rfl ?_
      refine z_aload_n C 0 dX10_allLayers_5 rfl ?_
      refine z_get (v := .int (zI (F 13))) C (by omega) hay1 hg rfl inA_X10 13 (by decide) q_1472 rfl (fv (F := F) (f := 13) rfl) dX10_allLayers_6 ?_
      refine z_icmp_ge (tgt := 27) C dX10_allLayers_9 (by decide) (by omega) (by omega) (fun hby24 => ?_) (fun hby24 => ?_)
      · refine z_iload_n C 1 dX10_allLayers_27 rfl ?_
        exact z_iret C hr hlk dX10_allLayers_28 (by decide) (by decide) ⟨al, rfl, rfl, rfl, by omega, rfl⟩
      · refine z_iload_n C 1 dX10_allLayers_12 rfl ?_
        refine z_aload_n C 0 dX10_allLayers_13 rfl ?_
        refine z_iconst (z := 0) C dX10_allLayers_14 rfl ?_
        refine z_iload_n C 2 dX10_allLayers_15 rfl ?_
        obtain ⟨ny25, hny25⟩ : ∃ n9 : Nat, ss = (n9 : Int) := ⟨(ss).toNat, by omega⟩
        rw [hny25]
        obtain ⟨py26, hpy26⟩ : ∃ p9 : Nat, 0 + 6 + 86 * ny25 = p9 := ⟨_, rfl⟩
        have hmyy27 := ((okA.at0 hA).1.1 ny25 (by omega)).1
        rw [hpy26] at hmyy27
        refine z_cV (As := [.int (zI (0)), .int (zI ((ny25 : Int)))]) (rest := [.int (zI (al))]) (ci := 12) C (c_X10_many l D A cs tt N ad _ i hN _ hg _ ha1 0 ny25 py26 hpy26 (by omega) (by omega)) (by omega) hay1 hg rfl rfl mv_yX10_many q_1733 hd_yX10_many (by decide) (Nat.le_of_ble_eq_true rfl) (by decide) dX10_allLayers_16 rfl (kI0 fun vy28 gvy28 hvy28 => ?_)
        obtain ⟨rfl, rfl⟩ := hvy28
        refine z_iadd C dX10_allLayers_19 ?_
        refine z_istore_n (lv' := [(1, .int (zI (al + (r (py26))))), (0, .ref (ad i)), (2, .int (zI ((ny25 : Int))))]) C dX10_allLayers_20 rfl (by decide) rfl ?_
        refine z_iinc (z := (ny25 : Int) + 1) (lv' := [(2, .int (zI ((ny25 : Int) + 1))), (1, .int (zI (al + (r (py26))))), (0, .ref (ad i))]) (j := 2) C dX10_allLayers_21 rfl rfl (by decide) rfl ?_
        refine z_goto (tgt := 4) C dX10_allLayers_24 (by decide) ?_
        obtain ⟨xy29, exy30, hxy31⟩ := zI_of (zI (al + (r (py26))))
        rw [exy30]
        refine z_lv (lv' := [(0, .ref (ad i)), (1, .int (zI (xy29))), (2, .int (zI ((ny25 : Int) + 1)))]) [2, 1, 0] rfl ?_
        exact ih _ (by omega) (xy29) ((ny25 : Int) + 1) _ rfl rfl (by omega) (by omega)
  refine z_iconst (z := 0) C dX10_allLayers_0 rfl ?_
  refine z_istore_n (lv' := [(1, .int (zI (0))), (0, .ref (ad i))]) C dX10_allLayers_1 rfl (by decide) rfl ?_
  refine z_iconst (z := 0) C dX10_allLayers_2 rfl ?_
  refine z_istore_n (lv' := [(2, .int (zI (0))), (1, .int (zI (0))), (0, .ref (ad i))]) C dX10_allLayers_3 rfl (by decide) rfl ?_
  refine z_lv (lv' := [(0, .ref (ad i)), (1, .int (zI (0))), (2, .int (zI (0)))]) [2, 1, 0] rfl ?_
  exact lp _ (0) (0) _ rfl rfl (by omega) (by omega)

set_option maxRecDepth 100000 in
set_option maxHeartbeats 4000000 in
theorem c_X10_allWeight (l : Launch) (D : va_G) (A : Nat → Prop) (cs : Nat → ClassId) (tt : Nat) (N : Nat) (ad : Nat → Nat) (g : Nat → va_E) (i : Nat) (hN : i + 30 ≤ N) (x : Int) (hx : 0 ≤ x ∧ x ≤ 512) (F r : Nat → Int) (hM : okMr cs ad g i x F r) : zM l yX10_allWeight cX10_allWeight 3 (some .int) ({ frames := 5, cells := 0, slots := 0, locals := 300 } : Room) D A cs tt N ad g [.ref (ad i)] (rI0 N ad fun r g' => (-2147483648 ≤ r ∧ r ≤ 2147483647) ∧ g = g') := by
  obtain ⟨hg, ⟨⟨e13, e14, e25, e27, e29⟩, k15, k16, k17, k18, k19, k20, k23⟩, hRD, hTx, hA, st, op, ai, fa, mu, tb, ns, nh, nd, rf, pi, tp, te, ki, li, ok1, ok2, fo, dd, dps, ⟨ha1, ha2, ha3, ha4, ha5, ha6, ha7, ha8, ha9, ha10, ha11, ha12, ha13, ha14, ha15, ha24, ha25, ha26, ha27, ha28, ha29⟩, hEv, hPt, hns, htp⟩ := id hM
  obtain ⟨-, hop, hai, hfa, hT, hT1⟩ := id hEv
  have hay1 : zAt ad (i) (ad i) := rfl
  have hay2 : zAt ad (i + 1) (ad (i + 1)) := rfl
  have hay3 : zAt ad (i + 2) (ad (i + 2)) := rfl
  have hay4 : zAt ad (i + 3) (ad (i + 3)) := rfl
  have hay5 : zAt ad (i + 4) (ad (i + 4)) := rfl
  have hay6 : zAt ad (i + 5) (ad (i + 5)) := rfl
  have hay7 : zAt ad (i + 6) (ad (i + 6)) := rfl
  have hay8 : zAt ad (i + 7) (ad (i + 7)) := rfl
  have hay9 : zAt ad (i + 8) (ad (i + 8)) := rfl
  have hay10 : zAt ad (i + 9) (ad (i + 9)) := rfl
  have hay11 : zAt ad (i + 10) (ad (i + 10)) := rfl
  have hay12 : zAt ad (i + 11) (ad (i + 11)) := rfl
  have hay13 : zAt ad (i + 12) (ad (i + 12)) := rfl
  have hay14 : zAt ad (i + 13) (ad (i + 13)) := rfl
  have hay15 : zAt ad (i + 14) (ad (i + 14)) := rfl
  have hay16 : zAt ad (i + 15) (ad (i + 15)) := rfl
  have hay17 : zAt ad (i + 24) (ad (i + 24)) := rfl
  have hay18 : zAt ad (i + 25) (ad (i + 25)) := rfl
  have hay19 : zAt ad (i + 26) (ad (i + 26)) := rfl
  have hay20 : zAt ad (i + 27) (ad (i + 27)) := rfl
  have hay21 : zAt ad (i + 28) (ad (i + 28)) := rfl
  have hay22 : zAt ad (i + 29) (ad (i + 29)) := rfl
  obtain ⟨⟨hsyy23, htyy23, hnyy23, hpyy23⟩, hlyy23⟩ := okA.at0 hA
  simp only [Nat.zero_add] at hsyy23 hnyy23 hpyy23
  have hmn : ∀ s, s < 4 → 0 ≤ r (6 + 86 * s) ∧ r (6 + 86 * s) ≤ 12 := fun s hs => (hsyy23 s hs).1
  have h5 : 0 ≤ r 5 ∧ r 5 ≤ 6 := hpyy23
  refine z_of (by decide) (Nat.le_of_ble_eq_true rfl) ?_
  intro pZ eZ sZ mZ below meth cZ C hr hlk hnm
  refine z_lv (lv' := [(0, .ref (ad i))]) [0] rfl ?_
  have lp : ∀ (n9 : Nat) (al : Int) (ss : Int) (g1 : Nat → va_E), (5 - ss).toNat = n9 → (g1 = g) → (-2147483648 ≤ al ∧ al ≤ 2147483647) → (0 ≤ ss ∧ ss ≤ F 13) → zV pZ l eZ ({ frames := 5, cells := 0, slots := 0, locals := 300 } : Room) sZ mZ ([.ref (ad i)] : List Value).toArray below meth cZ (MQ below (zPost D A (rI0 N ad fun r g' => (-2147483648 ≤ r ∧ r ≤ 2147483647) ∧ g = g')) ([.ref (ad i)] : List Value).toArray sZ ({ frames := 5, cells := 0, slots := 0, locals := 300 } : Room).cells ({ frames := 5, cells := 0, slots := 0, locals := 300 } : Room).slots A) D A 3 (N) ad g1 (0) (0) 4 [(0, .ref (ad i)), (1, .int (zI (al))), (2, .int (zI (ss)))] [] := by
    intro n9
    induction n9 using Nat.strongRecOn with
    | ind n9 ih =>
      intro al ss g1 hm9 hg1 hv0 hv1
      subst hg1
      refine z_iload_n C 2 dX10_allWeight_4 rfl ?_
      refine z_aload_n C 0 dX10_allWeight_5 rfl ?_
      refine z_get (v := .int (zI (F 13))) C (by omega) hay1 hg rfl inA_X10 13 (by decide) q_1472 rfl (fv (F := F) (f := 13) rfl) dX10_allWeight_6 ?_
      refine z_icmp_ge (tgt := 36) C dX10_allWeight_9 (by decide) (by omega) (by omega) (fun hby24 => ?_) (fun hby24 => ?_)
      · refine z_iload_n C 1 dX10_allWeight_36 rfl ?_
        exact z_iret C hr hlk dX10_allWeight_37 (by decide) (by decide) ⟨al, rfl, rfl, rfl, by omega, rfl⟩
      · refine z_iload_n C 1 dX10_allWeight_12 rfl ?_
        refine z_aload_n C 0 dX10_allWeight_13 rfl ?_
        refine z_iconst (z := 0) C dX10_allWeight_14 rfl ?_
        refine z_iload_n C 2 dX10_allWeight_15 rfl ?_
        refine z_iconst (z := 1) C dX10_allWeight_16 rfl ?_
        obtain ⟨ny25, hny25⟩ : ∃ n9 : Nat, ss = (n9 : Int) := ⟨(ss).toNat, by omega⟩
        rw [hny25]
        obtain ⟨py26, hpy26⟩ : ∃ p9 : Nat, 0 + 6 + 86 * ny25 = p9 := ⟨_, rfl⟩
        have hqy28 : qS r py26 := (((okA.at0 hA).1.1 ny25 (by omega)).of (p2 := py26) (by omega)).q (by have hb9 := mBb (t := r 0 + x) (by omega); omega)
        have hmky29 := hqy28.1
        refine z_cV (As := [.int (zI (0)), .int (zI ((ny25 : Int))), .int (zI (1))]) (rest := [.int (zI (al))]) (ci := 12) C (c_X10_sumA l D A cs tt N ad _ i hN _ hg _ ha1 0 ny25 py26 hpy26 (by omega) (by omega) hqy28 1 (by omega)) (by omega) hay1 hg rfl rfl mv_yX10_sum q_1745 hd_yX10_sum (by decide) (Nat.le_of_ble_eq_true rfl) (by decide) dX10_allWeight_17 rfl (kI0 fun vy27 gvy27 hvy27 => ?_)
        obtain ⟨hvy27, rfl⟩ := hvy27
        refine z_aload_n C 0 dX10_allWeight_20 rfl ?_
        refine z_iconst (z := 0) C dX10_allWeight_21 rfl ?_
        refine z_iload_n C 2 dX10_allWeight_22 rfl ?_
        refine z_iconst (z := 2) C dX10_allWeight_23 rfl ?_
        have hqy31 : qS r py26 := (((okA.at0 hA).1.1 ny25 (by omega)).of (p2 := py26) (by omega)).q (by have hb9 := mBb (t := r 0 + x) (by omega); omega)
        have hmky32 := hqy31.1
        refine z_cV (As := [.int (zI (0)), .int (zI ((ny25 : Int))), .int (zI (2))]) (rest := [.int (zI (vy27)), .int (zI (al))]) (ci := 12) C (c_X10_sumA l D A cs tt N ad _ i hN _ hg _ ha1 0 ny25 py26 hpy26 (by omega) (by omega) hqy31 2 (by omega)) (by omega) hay1 hg rfl rfl mv_yX10_sum q_1745 hd_yX10_sum (by decide) (Nat.le_of_ble_eq_true rfl) (by decide) dX10_allWeight_24 rfl (kI0 fun vy30 gvy30 hvy30 => ?_)
        obtain ⟨hvy30, rfl⟩ := hvy30
        refine z_iadd C dX10_allWeight_27 ?_
        refine z_iadd C dX10_allWeight_28 ?_
        refine z_istore_n (lv' := [(1, .int (zI (al + (vy27 + vy30)))), (0, .ref (ad i)), (2, .int (zI ((ny25 : Int))))]) C dX10_allWeight_29 rfl (by decide) rfl ?_
        refine z_iinc (z := (ny25 : Int) + 1) (lv' := [(2, .int (zI ((ny25 : Int) + 1))), (1, .int (zI (al + (vy27 + vy30)))), (0, .ref (ad i))]) (j := 2) C dX10_allWeight_30 rfl rfl (by decide) rfl ?_
        refine z_goto (tgt := 4) C dX10_allWeight_33 (by decide) ?_
        obtain ⟨xy33, exy34, hxy35⟩ := zI_of (zI (al + (vy27 + vy30)))
        rw [exy34]
        refine z_lv (lv' := [(0, .ref (ad i)), (1, .int (zI (xy33))), (2, .int (zI ((ny25 : Int) + 1)))]) [2, 1, 0] rfl ?_
        exact ih _ (by omega) (xy33) ((ny25 : Int) + 1) _ rfl rfl (by omega) (by omega)
  refine z_iconst (z := 0) C dX10_allWeight_0 rfl ?_
  refine z_istore_n (lv' := [(1, .int (zI (0))), (0, .ref (ad i))]) C dX10_allWeight_1 rfl (by decide) rfl ?_
  refine z_iconst (z := 0) C dX10_allWeight_2 rfl ?_
  refine z_istore_n (lv' := [(2, .int (zI (0))), (1, .int (zI (0))), (0, .ref (ad i))]) C dX10_allWeight_3 rfl (by decide) rfl ?_
  refine z_lv (lv' := [(0, .ref (ad i)), (1, .int (zI (0))), (2, .int (zI (0)))]) [2, 1, 0] rfl ?_
  exact lp _ (0) (0) _ rfl rfl (by omega) (by omega)

set_option maxRecDepth 100000 in
set_option maxHeartbeats 4000000 in
theorem c_X10_allRunoff (l : Launch) (D : va_G) (A : Nat → Prop) (cs : Nat → ClassId) (tt : Nat) (N : Nat) (ad : Nat → Nat) (g : Nat → va_E) (i : Nat) (hN : i + 30 ≤ N) (x : Int) (hx : 0 ≤ x ∧ x ≤ 512) (F r : Nat → Int) (hM : okMr cs ad g i x F r) : zM l yX10_allRunoff cX10_allRunoff 3 (some .int) ({ frames := 2, cells := 0, slots := 0, locals := 120 } : Room) D A cs tt N ad g [.ref (ad i)] (rI0 N ad fun r g' => (-2147483648 ≤ r ∧ r ≤ 2147483647) ∧ g = g') := by
  obtain ⟨hg, ⟨⟨e13, e14, e25, e27, e29⟩, k15, k16, k17, k18, k19, k20, k23⟩, hRD, hTx, hA, st, op, ai, fa, mu, tb, ns, nh, nd, rf, pi, tp, te, ki, li, ok1, ok2, fo, dd, dps, ⟨ha1, ha2, ha3, ha4, ha5, ha6, ha7, ha8, ha9, ha10, ha11, ha12, ha13, ha14, ha15, ha24, ha25, ha26, ha27, ha28, ha29⟩, hEv, hPt, hns, htp⟩ := id hM
  obtain ⟨-, hop, hai, hfa, hT, hT1⟩ := id hEv
  have hay1 : zAt ad (i) (ad i) := rfl
  have hay2 : zAt ad (i + 1) (ad (i + 1)) := rfl
  have hay3 : zAt ad (i + 2) (ad (i + 2)) := rfl
  have hay4 : zAt ad (i + 3) (ad (i + 3)) := rfl
  have hay5 : zAt ad (i + 4) (ad (i + 4)) := rfl
  have hay6 : zAt ad (i + 5) (ad (i + 5)) := rfl
  have hay7 : zAt ad (i + 6) (ad (i + 6)) := rfl
  have hay8 : zAt ad (i + 7) (ad (i + 7)) := rfl
  have hay9 : zAt ad (i + 8) (ad (i + 8)) := rfl
  have hay10 : zAt ad (i + 9) (ad (i + 9)) := rfl
  have hay11 : zAt ad (i + 10) (ad (i + 10)) := rfl
  have hay12 : zAt ad (i + 11) (ad (i + 11)) := rfl
  have hay13 : zAt ad (i + 12) (ad (i + 12)) := rfl
  have hay14 : zAt ad (i + 13) (ad (i + 13)) := rfl
  have hay15 : zAt ad (i + 14) (ad (i + 14)) := rfl
  have hay16 : zAt ad (i + 15) (ad (i + 15)) := rfl
  have hay17 : zAt ad (i + 24) (ad (i + 24)) := rfl
  have hay18 : zAt ad (i + 25) (ad (i + 25)) := rfl
  have hay19 : zAt ad (i + 26) (ad (i + 26)) := rfl
  have hay20 : zAt ad (i + 27) (ad (i + 27)) := rfl
  have hay21 : zAt ad (i + 28) (ad (i + 28)) := rfl
  have hay22 : zAt ad (i + 29) (ad (i + 29)) := rfl
  obtain ⟨⟨hsyy23, htyy23, hnyy23, hpyy23⟩, hlyy23⟩ := okA.at0 hA
  simp only [Nat.zero_add] at hsyy23 hnyy23 hpyy23
  have hmn : ∀ s, s < 4 → 0 ≤ r (6 + 86 * s) ∧ r (6 + 86 * s) ≤ 12 := fun s hs => (hsyy23 s hs).1
  have h5 : 0 ≤ r 5 ∧ r 5 ≤ 6 := hpyy23
  refine z_of (by decide) (Nat.le_of_ble_eq_true rfl) ?_
  intro pZ eZ sZ mZ below meth cZ C hr hlk hnm
  refine z_lv (lv' := [(0, .ref (ad i))]) [0] rfl ?_
  have lp : ∀ (n9 : Nat) (al : Int) (ss : Int) (g1 : Nat → va_E), (5 - ss).toNat = n9 → (g1 = g) → (-2147483648 ≤ al ∧ al ≤ 2147483647) → (0 ≤ ss ∧ ss ≤ F 13) → zV pZ l eZ ({ frames := 2, cells := 0, slots := 0, locals := 120 } : Room) sZ mZ ([.ref (ad i)] : List Value).toArray below meth cZ (MQ below (zPost D A (rI0 N ad fun r g' => (-2147483648 ≤ r ∧ r ≤ 2147483647) ∧ g = g')) ([.ref (ad i)] : List Value).toArray sZ ({ frames := 2, cells := 0, slots := 0, locals := 120 } : Room).cells ({ frames := 2, cells := 0, slots := 0, locals := 120 } : Room).slots A) D A 3 (N) ad g1 (0) (0) 4 [(0, .ref (ad i)), (1, .int (zI (al))), (2, .int (zI (ss)))] [] := by
    intro n9
    induction n9 using Nat.strongRecOn with
    | ind n9 ih =>
      intro al ss g1 hm9 hg1 hv0 hv1
      subst hg1
      refine z_iload_n C 2 dX10_allRunoff_4 rfl ?_
      refine z_aload_n C 0 dX10_allRunoff_5 rfl ?_
      refine z_get (v := .int (zI (F 13))) C (by omega) hay1 hg rfl inA_X10 13 (by decide) q_1472 rfl (fv (F := F) (f := 13) rfl) dX10_allRunoff_6 ?_
      refine z_icmp_ge (tgt := 35) C dX10_allRunoff_9 (by decide) (by omega) (by omega) (fun hby24 => ?_) (fun hby24 => ?_)
      · refine z_iload_n C 1 dX10_allRunoff_35 rfl ?_
        exact z_iret C hr hlk dX10_allRunoff_36 (by decide) (by decide) ⟨al, rfl, rfl, rfl, by omega, rfl⟩
      · refine z_iload_n C 1 dX10_allRunoff_12 rfl ?_
        refine z_aload_n C 0 dX10_allRunoff_13 rfl ?_
        refine z_get (v := .ref (ad (i + 1))) C (by omega) hay1 hg rfl inA_X10 0 (by decide) q_1459 rfl rfl dX10_allRunoff_14 ?_
        refine z_bipush (z := 6) C dX10_allRunoff_17 (by decide) ?_
        refine z_bipush (z := 86) C dX10_allRunoff_19 (by decide) ?_
        refine z_iload_n C 2 dX10_allRunoff_21 rfl ?_
        refine z_imul C dX10_allRunoff_22 ?_
        refine z_iadd C dX10_allRunoff_23 ?_
        refine z_iconst (z := 1) C dX10_allRunoff_24 rfl ?_
        refine z_iadd C dX10_allRunoff_25 ?_
        refine z_iald C (by omega) hay2 ha1 (((6 + (86 * ss)) + 1).toNat) (by omega) (by omega) (by decide) dX10_allRunoff_26 ?_
        refine z_iadd C dX10_allRunoff_27 ?_
        refine z_istore_n (lv' := [(1, .int (zI (al + (r (((6 + (86 * ss)) + 1).toNat))))), (0, .ref (ad i)), (2, .int (zI (ss)))]) C dX10_allRunoff_28 rfl (by decide) rfl ?_
        refine z_iinc (z := ss + 1) (lv' := [(2, .int (zI (ss + 1))), (1, .int (zI (al + (r (((6 + (86 * ss)) + 1).toNat))))), (0, .ref (ad i))]) (j := 2) C dX10_allRunoff_29 rfl rfl (by decide) rfl ?_
        refine z_goto (tgt := 4) C dX10_allRunoff_32 (by decide) ?_
        obtain ⟨xy25, exy26, hxy27⟩ := zI_of (zI (al + (r (((6 + (86 * ss)) + 1).toNat))))
        rw [exy26]
        refine z_lv (lv' := [(0, .ref (ad i)), (1, .int (zI (xy25))), (2, .int (zI (ss + 1)))]) [2, 1, 0] rfl ?_
        exact ih _ (by omega) (xy25) (ss + 1) _ rfl rfl (by omega) (by omega)
  refine z_iconst (z := 0) C dX10_allRunoff_0 rfl ?_
  refine z_istore_n (lv' := [(1, .int (zI (0))), (0, .ref (ad i))]) C dX10_allRunoff_1 rfl (by decide) rfl ?_
  refine z_iconst (z := 0) C dX10_allRunoff_2 rfl ?_
  refine z_istore_n (lv' := [(2, .int (zI (0))), (1, .int (zI (0))), (0, .ref (ad i))]) C dX10_allRunoff_3 rfl (by decide) rfl ?_
  refine z_lv (lv' := [(0, .ref (ad i)), (1, .int (zI (0))), (2, .int (zI (0)))]) [2, 1, 0] rfl ?_
  exact lp _ (0) (0) _ rfl rfl (by omega) (by omega)

set_option maxRecDepth 100000 in
set_option maxHeartbeats 4000000 in
theorem c_X10_worst (l : Launch) (D : va_G) (A : Nat → Prop) (cs : Nat → ClassId) (tt : Nat) (N : Nat) (ad : Nat → Nat) (g : Nat → va_E) (i : Nat) (hN : i + 30 ≤ N) (x : Int) (hx : 0 ≤ x ∧ x ≤ 512) (F r : Nat → Int) (hM : okMr cs ad g i x F r) : zM l yX10_worst cX10_worst 3 (some .int) ({ frames := 11, cells := 0, slots := 0, locals := 660 } : Room) D A cs tt N ad g [.ref (ad i)] (rI0 N ad fun q g' => (-1 ≤ q ∧ q ≤ 3) ∧ g = g') := by
  obtain ⟨hg, ⟨⟨e13, e14, e25, e27, e29⟩, k15, k16, k17, k18, k19, k20, k23⟩, hRD, hTx, hA, st, op, ai, fa, mu, tb, ns, nh, nd, rf, pi, tp, te, ki, li, ok1, ok2, fo, dd, dps, ⟨ha1, ha2, ha3, ha4, ha5, ha6, ha7, ha8, ha9, ha10, ha11, ha12, ha13, ha14, ha15, ha24, ha25, ha26, ha27, ha28, ha29⟩, hEv, hPt, hns, htp⟩ := id hM
  obtain ⟨-, hop, hai, hfa, hT, hT1⟩ := id hEv
  have hay1 : zAt ad (i) (ad i) := rfl
  have hay2 : zAt ad (i + 1) (ad (i + 1)) := rfl
  have hay3 : zAt ad (i + 2) (ad (i + 2)) := rfl
  have hay4 : zAt ad (i + 3) (ad (i + 3)) := rfl
  have hay5 : zAt ad (i + 4) (ad (i + 4)) := rfl
  have hay6 : zAt ad (i + 5) (ad (i + 5)) := rfl
  have hay7 : zAt ad (i + 6) (ad (i + 6)) := rfl
  have hay8 : zAt ad (i + 7) (ad (i + 7)) := rfl
  have hay9 : zAt ad (i + 8) (ad (i + 8)) := rfl
  have hay10 : zAt ad (i + 9) (ad (i + 9)) := rfl
  have hay11 : zAt ad (i + 10) (ad (i + 10)) := rfl
  have hay12 : zAt ad (i + 11) (ad (i + 11)) := rfl
  have hay13 : zAt ad (i + 12) (ad (i + 12)) := rfl
  have hay14 : zAt ad (i + 13) (ad (i + 13)) := rfl
  have hay15 : zAt ad (i + 14) (ad (i + 14)) := rfl
  have hay16 : zAt ad (i + 15) (ad (i + 15)) := rfl
  have hay17 : zAt ad (i + 24) (ad (i + 24)) := rfl
  have hay18 : zAt ad (i + 25) (ad (i + 25)) := rfl
  have hay19 : zAt ad (i + 26) (ad (i + 26)) := rfl
  have hay20 : zAt ad (i + 27) (ad (i + 27)) := rfl
  have hay21 : zAt ad (i + 28) (ad (i + 28)) := rfl
  have hay22 : zAt ad (i + 29) (ad (i + 29)) := rfl
  obtain ⟨⟨hsyy23, htyy23, hnyy23, hpyy23⟩, hlyy23⟩ := okA.at0 hA
  simp only [Nat.zero_add] at hsyy23 hnyy23 hpyy23
  have hmn : ∀ s, s < 4 → 0 ≤ r (6 + 86 * s) ∧ r (6 + 86 * s) ≤ 12 := fun s hs => (hsyy23 s hs).1
  have h5 : 0 ≤ r 5 ∧ r 5 ≤ 6 := hpyy23
  refine z_of (by decide) (Nat.le_of_ble_eq_true rfl) ?_
  intro pZ eZ sZ mZ below meth cZ C hr hlk hnm
  refine z_lv (lv' := [(0, .ref (ad i))]) [0] rfl ?_
  have lp : ∀ (n9 : Nat) (wh : Int) (ss : Int) (g1 : Nat → va_E), (5 - ss).toNat = n9 → (g1 = g) → (-1 ≤ wh ∧ wh < F 13) → (0 ≤ ss ∧ ss ≤ F 13) → zV pZ l eZ ({ frames := 11, cells := 0, slots := 0, locals := 660 } : Room) sZ mZ ([.ref (ad i)] : List Value).toArray below meth cZ (MQ below (zPost D A (rI0 N ad fun q g' => (-1 ≤ q ∧ q ≤ 3) ∧ g = g')) ([.ref (ad i)] : List Value).toArray sZ ({ frames := 11, cells := 0, slots := 0, locals := 660 } : Room).cells ({ frames := 11, cells := 0, slots := 0, locals := 660 } : Room).slots A) D A 3 (N) ad g1 (0) (0) 4 [(0, .ref (ad i)), (1, .int (zI (wh))), (2, .int (zI (ss)))] [] := by
    intro n9
    induction n9 using Nat.strongRecOn with
    | ind n9 ih =>
      intro wh ss g1 hm9 hg1 hv0 hv1
      subst hg1
      refine z_iload_n C 2 dX10_worst_4 rfl ?_
      refine z_aload_n C 0 dX10_worst_5 rfl ?_
      refine z_get (v := .int (zI (F 13))) C (by omega) hay1 hg rfl inA_X10 13 (by decide) q_1472 rfl (fv (F := F) (f := 13) rfl) dX10_worst_6 ?_
      refine z_icmp_ge (tgt := 40) C dX10_worst_9 (by decide) (by omega) (by omega) (fun hby24 => ?_) (fun hby24 => ?_)
      · refine z_iload_n C 1 dX10_worst_40 rfl ?_
        exact z_iret C hr hlk dX10_worst_41 (by decide) (by decide) ⟨wh, rfl, rfl, rfl, by omega, rfl⟩
      · refine z_iload_n C 1 dX10_worst_12 rfl ?_
        refine z_iconst (z := -1) C dX10_worst_13 rfl ?_
        refine z_icmp_eq (tgt := 32) C dX10_worst_14 (by decide) (by omega) (by omega) (fun hby25 => ?_) (fun hby25 => ?_)
        · refine z_iload_n C 2 dX10_worst_32 rfl ?_
          refine z_istore_n (lv' := [(1, .int (zI (ss))), (0, .ref (ad i)), (2, .int (zI (ss)))]) C dX10_worst_33 rfl (by decide) rfl ?_
          refine z_iinc (z := ss + 1) (lv' := [(2, .int (zI (ss + 1))), (1, .int (zI (ss))), (0, .ref (ad i))]) (j := 2) C dX10_worst_34 rfl rfl (by decide) rfl ?_
          refine z_goto (tgt := 4) C dX10_worst_37 (by decide) ?_
          refine z_lv (lv' := [(0, .ref (ad i)), (1, .int (zI (ss))), (2, .int (zI (ss + 1)))]) [2, 1, 0] rfl ?_
          exact ih _ (by omega) (ss) (ss + 1) _ rfl rfl (by omega) (by omega)
        · refine z_aload_n C 0 dX10_worst_17 rfl ?_
          refine z_iconst (z := 0) C dX10_worst_18 rfl ?_
          refine z_iload_n C 2 dX10_worst_19 rfl ?_
          obtain ⟨ny26, hny26⟩ : ∃ n9 : Nat, ss = (n9 : Int) := ⟨(ss).toNat, by omega⟩
          rw [hny26]
          obtain ⟨py27, hpy27⟩ : ∃ p9 : Nat, 0 + 6 + 86 * ny26 = p9 := ⟨_, rfl⟩
          have hqy29 : qS r py27 := (((okA.at0 hA).1.1 ny26 (by omega)).of (p2 := py27) (by omega)).q (by have hb9 := mBb (t := r 0 + x) (by omega); omega)
          have hmky30 := hqy29.1
          refine z_cV (As := [.int (zI (0)), .int (zI ((ny26 : Int)))]) (rest := []) (ci := 12) C (c_X10_leastRatio l D A cs tt N ad _ i hN _ hg _ ha1 _ ha2 _ ha7 0 ny26 py27 hpy27 (by omega) (by omega) hqy29) (by omega) hay1 hg rfl rfl mv_yX10_leastRatio q_1760 hd_yX10_leastRatio (by decide) (Nat.le_of_ble_eq_true rfl) (by decide) dX10_worst_20 rfl (kI0 fun vy28 gvy28 hvy28 => ?_)
          obtain ⟨hvy28, rfl⟩ := hvy28
          refine z_aload_n C 0 dX10_worst_23 rfl ?_
          refine z_iconst (z := 0) C dX10_worst_24 rfl ?_
          refine z_iload_n C 1 dX10_worst_25 rfl ?_
          obtain ⟨ny31, hny31⟩ : ∃ n9 : Nat, wh = (n9 : Int) := ⟨(wh).toNat, by omega⟩
          rw [hny31]
          obtain ⟨py32, hpy32⟩ : ∃ p9 : Nat, 0 + 6 + 86 * ny31 = p9 := ⟨_, rfl⟩
          have hqy34 : qS r py32 := (((okA.at0 hA).1.1 ny31 (by omega)).of (p2 := py32) (by omega)).q (by have hb9 := mBb (t := r 0 + x) (by omega); omega)
          have hmky35 := hqy34.1
          refine z_cV (As := [.int (zI (0)), .int (zI ((ny31 : Int)))]) (rest := [.int (zI (vy28))]) (ci := 12) C (c_X10_leastRatio l D A cs tt N ad _ i hN _ hg _ ha1 _ ha2 _ ha7 0 ny31 py32 hpy32 (by omega) (by omega) hqy34) (by omega) hay1 hg rfl rfl mv_yX10_leastRatio q_1760 hd_yX10_leastRatio (by decide) (Nat.le_of_ble_eq_true rfl) (by decide) dX10_worst_26 rfl (kI0 fun vy33 gvy33 hvy33 => ?_)
          obtain ⟨hvy33, rfl⟩ := hvy33
          refine z_icmp_ge (tgt := 34) C dX10_worst_29 (by decide) (by omega) (by omega) (fun hby36 => ?_) (fun hby36 => ?_)
          · refine z_iinc (z := (ny26 : Int) + 1) (lv' := [(2, .int (zI ((ny26 : Int) + 1))), (0, .ref (ad i)), (1, .int (zI ((ny31 : Int))))]) (j := 2) C dX10_worst_34 rfl rfl (by decide) rfl ?_
            refine z_goto (tgt := 4) C dX10_worst_37 (by decide) ?_
            refine z_lv (lv' := [(0, .ref (ad i)), (1, .int (zI ((ny31 : Int)))), (2, .int (zI ((ny26 : Int) + 1)))]) [1, 2, 0] rfl ?_
            exact ih _ (by omega) ((ny31 : Int)) ((ny26 : Int) + 1) _ rfl rfl (by omega) (by omega)
          · refine z_iload_n C 2 dX10_worst_32 rfl ?_
            refine z_istore_n (lv' := [(1, .int (zI ((ny26 : Int)))), (0, .ref (ad i)), (2, .int (zI ((ny26 : Int))))]) C dX10_worst_33 rfl (by decide) rfl ?_
            refine z_iinc (z := (ny26 : Int) + 1) (lv' := [(2, .int (zI ((ny26 : Int) + 1))), (1, .int (zI ((ny26 : Int)))), (0, .ref (ad i))]) (j := 2) C dX10_worst_34 rfl rfl (by decide) rfl ?_
            refine z_goto (tgt := 4) C dX10_worst_37 (by decide) ?_
            refine z_lv (lv' := [(0, .ref (ad i)), (1, .int (zI ((ny26 : Int)))), (2, .int (zI ((ny26 : Int) + 1)))]) [2, 1, 0] rfl ?_
            exact ih _ (by omega) ((ny26 : Int)) ((ny26 : Int) + 1) _ rfl rfl (by omega) (by omega)
  refine z_iconst (z := -1) C dX10_worst_0 rfl ?_
  refine z_istore_n (lv' := [(1, .int (zI (-1))), (0, .ref (ad i))]) C dX10_worst_1 rfl (by decide) rfl ?_
  refine z_iconst (z := 0) C dX10_worst_2 rfl ?_
  refine z_istore_n (lv' := [(2, .int (zI (0))), (1, .int (zI (-1))), (0, .ref (ad i))]) C dX10_worst_3 rfl (by decide) rfl ?_
  refine z_lv (lv' := [(0, .ref (ad i)), (1, .int (zI (-1))), (2, .int (zI (0)))]) [2, 1, 0] rfl ?_
  exact lp _ (-1) (0) _ rfl rfl (by omega) (by omega)

set_option maxRecDepth 100000 in
set_option maxHeartbeats 4000000 in
theorem c_X10_fault (l : Launch) (D : va_G) (A : Nat → Prop) (cs : Nat → ClassId) (tt : Nat) (N : Nat) (ad : Nat → Nat) (g : Nat → va_E) (i : Nat) (hN : i + 30 ≤ N) (x : Int) (hx : 0 ≤ x ∧ x ≤ 512) (F r : Nat → Int) (hM : okMr cs ad g i x F r) : zM l yX10_fault cX10_fault 1 (some .int) ({ frames := 1, cells := 0, slots := 0, locals := 60 } : Room) D A cs tt N ad g [.ref (ad i)] (rI0 N ad fun q g' => (-2147483648 ≤ q ∧ q ≤ 2147483647) ∧ (∃ F' r' : Nat → Int, okMr cs ad g' i (x + 1) F' r' ∧ F' 23 = F 23) ∧ ∀ j, j < i ∨ i + 30 ≤ j → g' j = g j) := by
  obtain ⟨hg, ⟨⟨e13, e14, e25, e27, e29⟩, k15, k16, k17, k18, k19, k20, k23⟩, hRD, hTx, hA, st, op, ai, fa, mu, tb, ns, nh, nd, rf, pi, tp, te, ki, li, ok1, ok2, fo, dd, dps, ⟨ha1, ha2, ha3, ha4, ha5, ha6, ha7, ha8, ha9, ha10, ha11, ha12, ha13, ha14, ha15, ha24, ha25, ha26, ha27, ha28, ha29⟩, hEv, hPt, hns, htp⟩ := id hM
  obtain ⟨-, hop, hai, hfa, hT, hT1⟩ := id hEv
  have hay1 : zAt ad (i) (ad i) := rfl
  have hay2 : zAt ad (i + 1) (ad (i + 1)) := rfl
  have hay3 : zAt ad (i + 2) (ad (i + 2)) := rfl
  have hay4 : zAt ad (i + 3) (ad (i + 3)) := rfl
  have hay5 : zAt ad (i + 4) (ad (i + 4)) := rfl
  have hay6 : zAt ad (i + 5) (ad (i + 5)) := rfl
  have hay7 : zAt ad (i + 6) (ad (i + 6)) := rfl
  have hay8 : zAt ad (i + 7) (ad (i + 7)) := rfl
  have hay9 : zAt ad (i + 8) (ad (i + 8)) := rfl
  have hay10 : zAt ad (i + 9) (ad (i + 9)) := rfl
  have hay11 : zAt ad (i + 10) (ad (i + 10)) := rfl
  have hay12 : zAt ad (i + 11) (ad (i + 11)) := rfl
  have hay13 : zAt ad (i + 12) (ad (i + 12)) := rfl
  have hay14 : zAt ad (i + 13) (ad (i + 13)) := rfl
  have hay15 : zAt ad (i + 14) (ad (i + 14)) := rfl
  have hay16 : zAt ad (i + 15) (ad (i + 15)) := rfl
  have hay17 : zAt ad (i + 24) (ad (i + 24)) := rfl
  have hay18 : zAt ad (i + 25) (ad (i + 25)) := rfl
  have hay19 : zAt ad (i + 26) (ad (i + 26)) := rfl
  have hay20 : zAt ad (i + 27) (ad (i + 27)) := rfl
  have hay21 : zAt ad (i + 28) (ad (i + 28)) := rfl
  have hay22 : zAt ad (i + 29) (ad (i + 29)) := rfl
  obtain ⟨⟨hsyy23, htyy23, hnyy23, hpyy23⟩, hlyy23⟩ := okA.at0 hA
  simp only [Nat.zero_add] at hsyy23 hnyy23 hpyy23
  have hmn : ∀ s, s < 4 → 0 ≤ r (6 + 86 * s) ∧ r (6 + 86 * s) ≤ 12 := fun s hs => (hsyy23 s hs).1
  have h5 : 0 ≤ r 5 ∧ r 5 ≤ 6 := hpyy23
  refine z_of (by decide) (Nat.le_of_ble_eq_true rfl) ?_
  intro pZ eZ sZ mZ below meth cZ C hr hlk hnm
  refine z_lv (lv' := [(0, .ref (ad i))]) [0] rfl ?_
  refine z_aload_n C 0 dX10_fault_0 rfl ?_
  refine z_iconst (z := 0) C dX10_fault_1 rfl ?_
  refine z_put (fs' := mF ad (i) (uZ F 12 (0))) C (by omega) hay1 hg tyX10 tyX10_ok nmX10 rfl inA_X10 12 (by decide) q_1471 rfl rfl rfl rfl (Nat.le_of_ble_eq_true rfl) rfl dX10_fault_2 (fun gy24 egy25 => ?_)
  have hgy26 := up_s egy25
  refine z_aload_n C 0 dX10_fault_5 rfl ?_
  refine z_get (v := .int (zI (F 24))) C (by omega) hay1 hgy26 rfl inA_X10 24 (by decide) q_1483 rfl (fv (F := (uZ F 12 (0))) (f := 24) (fn rfl (by decide))) dX10_fault_6 ?_
  obtain ⟨xy27, exy28, hxy29⟩ := zI_of (zI (F 24))
  rw [exy28]
  have hgy30 := up_n egy25 ha1 (ne_o (i := i) (c := 1) (d := 0) rfl)
  have hFy31 : ∀ f, f ≠ 12 → (uZ F 12 (0)) f = F f := fun f n12 => ((uZ_n _ _ n12).trans rfl)
  have hey32 : (uZ F 12 (0)) 13 = F 13 := (fn rfl (by decide))
  have hey33 : (uZ F 12 (0)) 14 = F 14 := (fn rfl (by decide))
  have hey34 : (uZ F 12 (0)) 15 = F 15 := (fn rfl (by decide))
  have hey35 : (uZ F 12 (0)) 16 = F 16 := (fn rfl (by decide))
  have hey36 : (uZ F 12 (0)) 17 = F 17 := (fn rfl (by decide))
  have hey37 : (uZ F 12 (0)) 18 = F 18 := (fn rfl (by decide))
  have hey38 : (uZ F 12 (0)) 19 = F 19 := (fn rfl (by decide))
  have hey39 : (uZ F 12 (0)) 20 = F 20 := (fn rfl (by decide))
  have hey40 : (uZ F 12 (0)) 23 = F 23 := (fn rfl (by decide))
  have hey41 : (uZ F 12 (0)) 25 = F 25 := (fn rfl (by decide))
  have hey42 : (uZ F 12 (0)) 27 = F 27 := (fn rfl (by decide))
  have hey43 : (uZ F 12 (0)) 28 = F 28 := (fn rfl (by decide))
  have hey44 : (uZ F 12 (0)) 29 = F 29 := (fn rfl (by decide))
  have hKy45 : okF (uZ F 12 (0)) := by unfold okF; omega
  have hMy46 : okMr cs ad gy24 i (x + 1) (uZ F 12 (0)) r := okMr.upd hM hgy26 hKy45 (fun f a => hFy31 f (by omega)) hgy30 (hA.mono (by omega)) (fun j a b => by
      exact Or.inl (by rw [egy25, va_up_ne _ _ (by omega)]))
  have h23 : (uZ F 12 (0)) 23 = F 23 := (fn rfl (by decide))
  exact z_iret C hr hlk dX10_fault_9 (by decide) (by decide) ⟨xy27, rfl, rfl, rfl, by omega, ⟨_, _, hMy46, by omega⟩, fun j j1 => by rw [egy25, va_up_ne _ _ (by omega)]⟩

set_option maxRecDepth 100000 in
set_option maxHeartbeats 4000000 in
theorem c_X10_count (l : Launch) (D : va_G) (A : Nat → Prop) (cs : Nat → ClassId) (tt : Nat) (N : Nat) (ad : Nat → Nat) (g : Nat → va_E) (i : Nat) (hN : i + 30 ≤ N) (x : Int) (hx : 0 ≤ x ∧ x ≤ 512) (F r : Nat → Int) (hM : okMr cs ad g i x F r) (z : Int) (hz : -2147483648 ≤ z ∧ z ≤ 2147483647) : zM l yX10_count cX10_count 2 (some .int) ({ frames := 12, cells := 0, slots := 0, locals := 720 } : Room) D A cs tt N ad g [.ref (ad i), .int (zI (z))] (rI0 N ad fun q g' => (-2147483648 ≤ q ∧ q ≤ 2147483647) ∧ (∃ F' r' : Nat → Int, okMr cs ad g' i (x + 1) F' r' ∧ F' 23 = F 23) ∧ ∀ j, j < i ∨ i + 30 ≤ j → g' j = g j) := by
  obtain ⟨hg, ⟨⟨e13, e14, e25, e27, e29⟩, k15, k16, k17, k18, k19, k20, k23⟩, hRD, hTx, hA, st, op, ai, fa, mu, tb, ns, nh, nd, rf, pi, tp, te, ki, li, ok1, ok2, fo, dd, dps, ⟨ha1, ha2, ha3, ha4, ha5, ha6, ha7, ha8, ha9, ha10, ha11, ha12, ha13, ha14, ha15, ha24, ha25, ha26, ha27, ha28, ha29⟩, hEv, hPt, hns, htp⟩ := id hM
  obtain ⟨-, hop, hai, hfa, hT, hT1⟩ := id hEv
  have hay1 : zAt ad (i) (ad i) := rfl
  have hay2 : zAt ad (i + 1) (ad (i + 1)) := rfl
  have hay3 : zAt ad (i + 2) (ad (i + 2)) := rfl
  have hay4 : zAt ad (i + 3) (ad (i + 3)) := rfl
  have hay5 : zAt ad (i + 4) (ad (i + 4)) := rfl
  have hay6 : zAt ad (i + 5) (ad (i + 5)) := rfl
  have hay7 : zAt ad (i + 6) (ad (i + 6)) := rfl
  have hay8 : zAt ad (i + 7) (ad (i + 7)) := rfl
  have hay9 : zAt ad (i + 8) (ad (i + 8)) := rfl
  have hay10 : zAt ad (i + 9) (ad (i + 9)) := rfl
  have hay11 : zAt ad (i + 10) (ad (i + 10)) := rfl
  have hay12 : zAt ad (i + 11) (ad (i + 11)) := rfl
  have hay13 : zAt ad (i + 12) (ad (i + 12)) := rfl
  have hay14 : zAt ad (i + 13) (ad (i + 13)) := rfl
  have hay15 : zAt ad (i + 14) (ad (i + 14)) := rfl
  have hay16 : zAt ad (i + 15) (ad (i + 15)) := rfl
  have hay17 : zAt ad (i + 24) (ad (i + 24)) := rfl
  have hay18 : zAt ad (i + 25) (ad (i + 25)) := rfl
  have hay19 : zAt ad (i + 26) (ad (i + 26)) := rfl
  have hay20 : zAt ad (i + 27) (ad (i + 27)) := rfl
  have hay21 : zAt ad (i + 28) (ad (i + 28)) := rfl
  have hay22 : zAt ad (i + 29) (ad (i + 29)) := rfl
  obtain ⟨⟨hsyy23, htyy23, hnyy23, hpyy23⟩, hlyy23⟩ := okA.at0 hA
  simp only [Nat.zero_add] at hsyy23 hnyy23 hpyy23
  have hmn : ∀ s, s < 4 → 0 ≤ r (6 + 86 * s) ∧ r (6 + 86 * s) ≤ 12 := fun s hs => (hsyy23 s hs).1
  have h5 : 0 ≤ r 5 ∧ r 5 ≤ 6 := hpyy23
  refine z_of (by decide) (Nat.le_of_ble_eq_true rfl) ?_
  intro pZ eZ sZ mZ below meth cZ C hr hlk hnm
  refine z_lv (lv' := [(0, .ref (ad i)), (1, .int (zI (z)))]) [0, 1] rfl ?_
  refine z_aload_n C 0 dX10_count_0 rfl ?_
  refine z_iconst (z := 0) C dX10_count_1 rfl ?_
  refine z_put (fs' := mF ad (i) (uZ F 12 (0))) C (by omega) hay1 hg tyX10 tyX10_ok nmX10 rfl inA_X10 12 (by decide) q_1471 rfl rfl rfl rfl (Nat.le_of_ble_eq_true rfl) rfl dX10_count_2 (fun gy24 egy25 => ?_)
  have hgy26 := up_s egy25
  refine z_aload_n C 0 dX10_count_5 rfl ?_
  refine z_iload_n C 1 dX10_count_6 rfl ?_
  refine z_iconst (z := 0) C dX10_count_7 rfl ?_
  refine z_bipush (z := 17) C dX10_count_8 (by decide) ?_
  refine z_cS (As := [.int (zI (z)), .int (zI (0)), .int (zI (17))]) (rest := [.ref (ad i)]) C (c_X10_within l D A cs tt N ad _ (z) (by omega) (0) (by omega) (17) (by omega)) ms_yX10_within q_1686 hd_yX10_within (by decide) (Nat.le_of_ble_eq_true rfl) (by decide) dX10_count_10 rfl (kI0 fun vy27 gvy27 hvy27 => ?_)
  obtain ⟨hvy27, rfl⟩ := hvy27
  rcases hvy27 with ⟨rfl, hxvy27⟩ | ⟨rfl, hxvy27⟩
  · refine z_iconst (z := 1) C dX10_count_13 rfl ?_
    have hey29 : (uZ F 12 (0)) 12 = 0 := (uZ_s _ _ _)
    refine z_cV (As := [.int (zI (1)), .int (zI (1))]) (rest := []) (ci := 12) C (c_X10_right l D A cs tt N ad _ i hN _ hgy26 (by omega) (1) (by omega) (1) (by omega)) (by omega) hay1 hgy26 rfl rfl mv_yX10_right q_1648 hd_yX10_right (by decide) (Nat.le_of_ble_eq_true rfl) (by decide) dX10_count_14 rfl (kI0 fun vy28 gvy28 hvy28 => ?_)
    obtain ⟨hrvy28, ⟨Fvy28, hcvy28, htvy28, hFvy28⟩, hfvy28⟩ := hvy28
    rcases (show vy28 = 1 ∨ vy28 = 0 by omega) with rfl | rfl
    · refine z_if_ne (tgt := 22) C dX10_count_17 (by decide) (by omega) (fun _ => ?_) (fun h => absurd h (by omega))
      refine z_iload_n C 1 dX10_count_22 rfl ?_
      by_cases hsy30 : z ≠ 0 ∧ z ≠ 1 ∧ z ≠ 2 ∧ z ≠ 3 ∧ z ≠ 4 ∧ z ≠ 5 ∧ z ≠ 6 ∧ z ≠ 7 ∧ z ≠ 8 ∧ z ≠ 9 ∧ z ≠ 10 ∧ z ≠ 11 ∧ z ≠ 12 ∧ z ≠ 13 ∧ z ≠ 14
      · refine z_tout (tgt := 183) C dX10_count_23 (by omega) (by omega) (by decide) ?_
        refine z_aload_n C 0 dX10_count_183 rfl ?_
        refine z_get (v := .ref (ad (i + 11))) C (by omega) hay1 hcvy28 rfl inA_X10 10 (by decide) q_1469 rfl rfl dX10_count_184 ?_
        refine z_iload_n C 1 dX10_count_187 rfl ?_
        refine z_bipush (z := 15) C dX10_count_188 (by decide) ?_
        refine z_isub C dX10_count_190 ?_
        have hgy31 := up_n egy25 ha11 (ne_o (i := i) (c := 11) (d := 0) rfl)
        have hgy32 := (hfvy28 (i + 11) (ne_o (i := i) (c := 11) (d := 0) rfl)).trans hgy31
        refine z_iald C (by omega) hay12 hgy32 ((z - 15).toNat) (by omega) (by omega) (by decide) dX10_count_191 ?_
        obtain ⟨xy33, exy34, hxy35⟩ := zI_of (zI (rf ((z - 15).toNat)))
        rw [exy34]
        have hgy36 := up_n egy25 ha1 (ne_o (i := i) (c := 1) (d := 0) rfl)
        have hgy37 := (hfvy28 (i + 1) (ne_o (i := i) (c := 1) (d := 0) rfl)).trans hgy36
        have hFy38 : ∀ f, f ≠ 12 → Fvy28 f = F f := fun f n12 => ((hFvy28 f n12).trans ((uZ_n _ _ n12).trans rfl))
        have hey39 : Fvy28 13 = F 13 := ((hFvy28 13 (by decide)).trans (fn rfl (by decide)))
        have hey40 : Fvy28 14 = F 14 := ((hFvy28 14 (by decide)).trans (fn rfl (by decide)))
        have hey41 : Fvy28 15 = F 15 := ((hFvy28 15 (by decide)).trans (fn rfl (by decide)))
        have hey42 : Fvy28 16 = F 16 := ((hFvy28 16 (by decide)).trans (fn rfl (by decide)))
        have hey43 : Fvy28 17 = F 17 := ((hFvy28 17 (by decide)).trans (fn rfl (by decide)))
        have hey44 : Fvy28 18 = F 18 := ((hFvy28 18 (by decide)).trans (fn rfl (by decide)))
        have hey45 : Fvy28 19 = F 19 := ((hFvy28 19 (by decide)).trans (fn rfl (by decide)))
        have hey46 : Fvy28 20 = F 20 := ((hFvy28 20 (by decide)).trans (fn rfl (by decide)))
        have hey47 : Fvy28 23 = F 23 := ((hFvy28 23 (by decide)).trans (fn rfl (by decide)))
        have hey48 : Fvy28 25 = F 25 := ((hFvy28 25 (by decide)).trans (fn rfl (by decide)))
        have hey49 : Fvy28 27 = F 27 := ((hFvy28 27 (by decide)).trans (fn rfl (by decide)))
        have hey50 : Fvy28 28 = F 28 := ((hFvy28 28 (by decide)).trans (fn rfl (by decide)))
        have hey51 : Fvy28 29 = F 29 := ((hFvy28 29 (by decide)).trans (fn rfl (by decide)))
        have hKy52 : okF Fvy28 := by unfold okF; omega
        have hMy53 : okMr cs ad gvy28 i (x + 1) Fvy28 r := okMr.upd hM hcvy28 hKy52 (fun f a => hFy38 f (by omega)) hgy37 (hA.mono (by omega)) (fun j a b => by
            exact Or.inl (by rw [hfvy28 _ (by omega)]; rw [egy25, va_up_ne _ _ (by omega)]))
        have h23 : Fvy28 23 = F 23 := ((hFvy28 23 (by decide)).trans (fn rfl (by decide)))
        exact z_iret C hr hlk dX10_count_192 (by decide) (by decide) ⟨xy33, rfl, rfl, rfl, by omega, ⟨_, _, hMy53, by omega⟩, fun j j1 => by rw [hfvy28 _ (by omega)]; rw [egy25, va_up_ne _ _ (by omega)]⟩
      · rcases (show z = 0 ∨ z = 1 ∨ z = 2 ∨ z = 3 ∨ z = 4 ∨ z = 5 ∨ z = 6 ∨ z = 7 ∨ z = 8 ∨ z = 9 ∨ z = 10 ∨ z = 11 ∨ z = 12 ∨ z = 13 ∨ z = 14 by omega) with rfl | rfl | rfl | rfl | rfl | rfl | rfl | rfl | rfl | rfl | rfl | rfl | rfl | rfl | rfl
        · refine z_tin (off := 73) (tgt := 96) C dX10_count_23 (by omega) (by omega) (by omega) rfl (by decide) ?_
          refine z_aload_n C 0 dX10_count_96 rfl ?_
          refine z_get (v := .int (zI (F 13))) C (by omega) hay1 hcvy28 rfl inA_X10 13 (by decide) q_1472 rfl (fv (F := Fvy28) (f := 13) ((hFvy28 13 (by decide)).trans (fn rfl (by decide)))) dX10_count_97 ?_
          have hgy54 := up_n egy25 ha1 (ne_o (i := i) (c := 1) (d := 0) rfl)
          have hgy55 := (hfvy28 (i + 1) (ne_o (i := i) (c := 1) (d := 0) rfl)).trans hgy54
          have hFy56 : ∀ f, f ≠ 12 → Fvy28 f = F f := fun f n12 => ((hFvy28 f n12).trans ((uZ_n _ _ n12).trans rfl))
          have hey57 : Fvy28 13 = F 13 := ((hFvy28 13 (by decide)).trans (fn rfl (by decide)))
          have hey58 : Fvy28 14 = F 14 := ((hFvy28 14 (by decide)).trans (fn rfl (by decide)))
          have hey59 : Fvy28 15 = F 15 := ((hFvy28 15 (by decide)).trans (fn rfl (by decide)))
          have hey60 : Fvy28 16 = F 16 := ((hFvy28 16 (by decide)).trans (fn rfl (by decide)))
          have hey61 : Fvy28 17 = F 17 := ((hFvy28 17 (by decide)).trans (fn rfl (by decide)))
          have hey62 : Fvy28 18 = F 18 := ((hFvy28 18 (by decide)).trans (fn rfl (by decide)))
          have hey63 : Fvy28 19 = F 19 := ((hFvy28 19 (by decide)).trans (fn rfl (by decide)))
          have hey64 : Fvy28 20 = F 20 := ((hFvy28 20 (by decide)).trans (fn rfl (by decide)))
          have hey65 : Fvy28 23 = F 23 := ((hFvy28 23 (by decide)).trans (fn rfl (by decide)))
          have hey66 : Fvy28 25 = F 25 := ((hFvy28 25 (by decide)).trans (fn rfl (by decide)))
          have hey67 : Fvy28 27 = F 27 := ((hFvy28 27 (by decide)).trans (fn rfl (by decide)))
          have hey68 : Fvy28 28 = F 28 := ((hFvy28 28 (by decide)).trans (fn rfl (by decide)))
          have hey69 : Fvy28 29 = F 29 := ((hFvy28 29 (by decide)).trans (fn rfl (by decide)))
          have hKy70 : okF Fvy28 := by unfold okF; omega
          have hMy71 : okMr cs ad gvy28 i (x + 1) Fvy28 r := okMr.upd hM hcvy28 hKy70 (fun f a => hFy56 f (by omega)) hgy55 (hA.mono (by omega)) (fun j a b => by
              exact Or.inl (by rw [hfvy28 _ (by omega)]; rw [egy25, va_up_ne _ _ (by omega)]))
          have h23 : Fvy28 23 = F 23 := ((hFvy28 23 (by decide)).trans (fn rfl (by decide)))
          exact z_iret C hr hlk dX10_count_100 (by decide) (by decide) ⟨F 13, rfl, rfl, rfl, by omega, ⟨_, _, hMy71, by omega⟩, fun j j1 => by rw [hfvy28 _ (by omega)]; rw [egy25, va_up_ne _ _ (by omega)]⟩
        · refine z_tin (off := 78) (tgt := 101) C dX10_count_23 (by omega) (by omega) (by omega) rfl (by decide) ?_
          refine z_aload_n C 0 dX10_count_101 rfl ?_
          refine z_get (v := .int (zI (F 14))) C (by omega) hay1 hcvy28 rfl inA_X10 14 (by decide) q_1473 rfl (fv (F := Fvy28) (f := 14) ((hFvy28 14 (by decide)).trans (fn rfl (by decide)))) dX10_count_102 ?_
          have hgy72 := up_n egy25 ha1 (ne_o (i := i) (c := 1) (d := 0) rfl)
          have hgy73 := (hfvy28 (i + 1) (ne_o (i := i) (c := 1) (d := 0) rfl)).trans hgy72
          have hFy74 : ∀ f, f ≠ 12 → Fvy28 f = F f := fun f n12 => ((hFvy28 f n12).trans ((uZ_n _ _ n12).trans rfl))
          have hey75 : Fvy28 13 = F 13 := ((hFvy28 13 (by decide)).trans (fn rfl (by decide)))
          have hey76 : Fvy28 14 = F 14 := ((hFvy28 14 (by decide)).trans (fn rfl (by decide)))
          have hey77 : Fvy28 15 = F 15 := ((hFvy28 15 (by decide)).trans (fn rfl (by decide)))
          have hey78 : Fvy28 16 = F 16 := ((hFvy28 16 (by decide)).trans (fn rfl (by decide)))
          have hey79 : Fvy28 17 = F 17 := ((hFvy28 17 (by decide)).trans (fn rfl (by decide)))
          have hey80 : Fvy28 18 = F 18 := ((hFvy28 18 (by decide)).trans (fn rfl (by decide)))
          have hey81 : Fvy28 19 = F 19 := ((hFvy28 19 (by decide)).trans (fn rfl (by decide)))
          have hey82 : Fvy28 20 = F 20 := ((hFvy28 20 (by decide)).trans (fn rfl (by decide)))
          have hey83 : Fvy28 23 = F 23 := ((hFvy28 23 (by decide)).trans (fn rfl (by decide)))
          have hey84 : Fvy28 25 = F 25 := ((hFvy28 25 (by decide)).trans (fn rfl (by decide)))
          have hey85 : Fvy28 27 = F 27 := ((hFvy28 27 (by decide)).trans (fn rfl (by decide)))
          have hey86 : Fvy28 28 = F 28 := ((hFvy28 28 (by decide)).trans (fn rfl (by decide)))
          have hey87 : Fvy28 29 = F 29 := ((hFvy28 29 (by decide)).trans (fn rfl (by decide)))
          have hKy88 : okF Fvy28 := by unfold okF; omega
          have hMy89 : okMr cs ad gvy28 i (x + 1) Fvy28 r := okMr.upd hM hcvy28 hKy88 (fun f a => hFy74 f (by omega)) hgy73 (hA.mono (by omega)) (fun j a b => by
              exact Or.inl (by rw [hfvy28 _ (by omega)]; rw [egy25, va_up_ne _ _ (by omega)]))
          have h23 : Fvy28 23 = F 23 := ((hFvy28 23 (by decide)).trans (fn rfl (by decide)))
          exact z_iret C hr hlk dX10_count_105 (by decide) (by decide) ⟨F 14, rfl, rfl, rfl, by omega, ⟨_, _, hMy89, by omega⟩, fun j j1 => by rw [hfvy28 _ (by omega)]; rw [egy25, va_up_ne _ _ (by omega)]⟩
        · refine z_tin (off := 83) (tgt := 106) C dX10_count_23 (by omega) (by omega) (by omega) rfl (by decide) ?_
          refine z_aload_n C 0 dX10_count_106 rfl ?_
          refine z_get (v := .ref (ad (i + 1))) C (by omega) hay1 hcvy28 rfl inA_X10 0 (by decide) q_1459 rfl rfl dX10_count_107 ?_
          refine z_iconst (z := 0) C dX10_count_110 rfl ?_
          have hgy90 := up_n egy25 ha1 (ne_o (i := i) (c := 1) (d := 0) rfl)
          have hgy91 := (hfvy28 (i + 1) (ne_o (i := i) (c := 1) (d := 0) rfl)).trans hgy90
          refine z_iald C (by omega) hay2 hgy91 (0) (by omega) (by omega) (by decide) dX10_count_111 ?_
          have hFy92 : ∀ f, f ≠ 12 → Fvy28 f = F f := fun f n12 => ((hFvy28 f n12).trans ((uZ_n _ _ n12).trans rfl))
          have hey93 : Fvy28 13 = F 13 := ((hFvy28 13 (by decide)).trans (fn rfl (by decide)))
          have hey94 : Fvy28 14 = F 14 := ((hFvy28 14 (by decide)).trans (fn rfl (by decide)))
          have hey95 : Fvy28 15 = F 15 := ((hFvy28 15 (by decide)).trans (fn rfl (by decide)))
          have hey96 : Fvy28 16 = F 16 := ((hFvy28 16 (by decide)).trans (fn rfl (by decide)))
          have hey97 : Fvy28 17 = F 17 := ((hFvy28 17 (by decide)).trans (fn rfl (by decide)))
          have hey98 : Fvy28 18 = F 18 := ((hFvy28 18 (by decide)).trans (fn rfl (by decide)))
          have hey99 : Fvy28 19 = F 19 := ((hFvy28 19 (by decide)).trans (fn rfl (by decide)))
          have hey100 : Fvy28 20 = F 20 := ((hFvy28 20 (by decide)).trans (fn rfl (by decide)))
          have hey101 : Fvy28 23 = F 23 := ((hFvy28 23 (by decide)).trans (fn rfl (by decide)))
          have hey102 : Fvy28 25 = F 25 := ((hFvy28 25 (by decide)).trans (fn rfl (by decide)))
          have hey103 : Fvy28 27 = F 27 := ((hFvy28 27 (by decide)).trans (fn rfl (by decide)))
          have hey104 : Fvy28 28 = F 28 := ((hFvy28 28 (by decide)).trans (fn rfl (by decide)))
          have hey105 : Fvy28 29 = F 29 := ((hFvy28 29 (by decide)).trans (fn rfl (by decide)))
          have hKy106 : okF Fvy28 := by unfold okF; omega
          have hMy107 : okMr cs ad gvy28 i (x + 1) Fvy28 r := okMr.upd hM hcvy28 hKy106 (fun f a => hFy92 f (by omega)) hgy91 (hA.mono (by omega)) (fun j a b => by
              exact Or.inl (by rw [hfvy28 _ (by omega)]; rw [egy25, va_up_ne _ _ (by omega)]))
          have h23 : Fvy28 23 = F 23 := ((hFvy28 23 (by decide)).trans (fn rfl (by decide)))
          exact z_iret C hr hlk dX10_count_112 (by decide) (by decide) ⟨r (0), rfl, rfl, rfl, by omega, ⟨_, _, hMy107, by omega⟩, fun j j1 => by rw [hfvy28 _ (by omega)]; rw [egy25, va_up_ne _ _ (by omega)]⟩
        · refine z_tin (off := 90) (tgt := 113) C dX10_count_23 (by omega) (by omega) (by omega) rfl (by decide) ?_
          refine z_aload_n C 0 dX10_count_113 rfl ?_
          have hgy108 := up_n egy25 ha1 (ne_o (i := i) (c := 1) (d := 0) rfl)
          have hgy109 := (hfvy28 (i + 1) (ne_o (i := i) (c := 1) (d := 0) rfl)).trans hgy108
          have hFy110 : ∀ f, f ≠ 12 → Fvy28 f = F f := fun f n12 => ((hFvy28 f n12).trans ((uZ_n _ _ n12).trans rfl))
          have hey111 : Fvy28 13 = F 13 := ((hFvy28 13 (by decide)).trans (fn rfl (by decide)))
          have hey112 : Fvy28 14 = F 14 := ((hFvy28 14 (by decide)).trans (fn rfl (by decide)))
          have hey113 : Fvy28 15 = F 15 := ((hFvy28 15 (by decide)).trans (fn rfl (by decide)))
          have hey114 : Fvy28 16 = F 16 := ((hFvy28 16 (by decide)).trans (fn rfl (by decide)))
          have hey115 : Fvy28 17 = F 17 := ((hFvy28 17 (by decide)).trans (fn rfl (by decide)))
          have hey116 : Fvy28 18 = F 18 := ((hFvy28 18 (by decide)).trans (fn rfl (by decide)))
          have hey117 : Fvy28 19 = F 19 := ((hFvy28 19 (by decide)).trans (fn rfl (by decide)))
          have hey118 : Fvy28 20 = F 20 := ((hFvy28 20 (by decide)).trans (fn rfl (by decide)))
          have hey119 : Fvy28 23 = F 23 := ((hFvy28 23 (by decide)).trans (fn rfl (by decide)))
          have hey120 : Fvy28 25 = F 25 := ((hFvy28 25 (by decide)).trans (fn rfl (by decide)))
          have hey121 : Fvy28 27 = F 27 := ((hFvy28 27 (by decide)).trans (fn rfl (by decide)))
          have hey122 : Fvy28 28 = F 28 := ((hFvy28 28 (by decide)).trans (fn rfl (by decide)))
          have hey123 : Fvy28 29 = F 29 := ((hFvy28 29 (by decide)).trans (fn rfl (by decide)))
          have hKy124 : okF Fvy28 := by unfold okF; omega
          have hMy125 : okMr cs ad gvy28 i (x) Fvy28 r := okMr.upd hM hcvy28 hKy124 (fun f a => hFy110 f (by omega)) hgy109 (hA.mono (by omega)) (fun j a b => by
              exact Or.inl (by rw [hfvy28 _ (by omega)]; rw [egy25, va_up_ne _ _ (by omega)]))
          refine z_cV (As := []) (rest := []) (ci := 12) C (c_X10_allLayers l D A cs tt N ad _ i hN x hx _ _ hMy125 ) (by omega) hay1 hcvy28 rfl rfl mv_yX10_allLayers q_1729 hd_yX10_allLayers (by decide) (Nat.le_of_ble_eq_true rfl) (by decide) dX10_count_114 rfl (kI0 fun vy126 gvy126 hvy126 => ?_)
          obtain ⟨hvy126, rfl⟩ := hvy126
          have hFy127 : ∀ f, f ≠ 12 → Fvy28 f = F f := fun f n12 => ((hFvy28 f n12).trans ((uZ_n _ _ n12).trans rfl))
          have hey128 : Fvy28 13 = F 13 := ((hFvy28 13 (by decide)).trans (fn rfl (by decide)))
          have hey129 : Fvy28 14 = F 14 := ((hFvy28 14 (by decide)).trans (fn rfl (by decide)))
          have hey130 : Fvy28 15 = F 15 := ((hFvy28 15 (by decide)).trans (fn rfl (by decide)))
          have hey131 : Fvy28 16 = F 16 := ((hFvy28 16 (by decide)).trans (fn rfl (by decide)))
          have hey132 : Fvy28 17 = F 17 := ((hFvy28 17 (by decide)).trans (fn rfl (by decide)))
          have hey133 : Fvy28 18 = F 18 := ((hFvy28 18 (by decide)).trans (fn rfl (by decide)))
          have hey134 : Fvy28 19 = F 19 := ((hFvy28 19 (by decide)).trans (fn rfl (by decide)))
          have hey135 : Fvy28 20 = F 20 := ((hFvy28 20 (by decide)).trans (fn rfl (by decide)))
          have hey136 : Fvy28 23 = F 23 := ((hFvy28 23 (by decide)).trans (fn rfl (by decide)))
          have hey137 : Fvy28 25 = F 25 := ((hFvy28 25 (by decide)).trans (fn rfl (by decide)))
          have hey138 : Fvy28 27 = F 27 := ((hFvy28 27 (by decide)).trans (fn rfl (by decide)))
          have hey139 : Fvy28 28 = F 28 := ((hFvy28 28 (by decide)).trans (fn rfl (by decide)))
          have hey140 : Fvy28 29 = F 29 := ((hFvy28 29 (by decide)).trans (fn rfl (by decide)))
          have hKy141 : okF Fvy28 := by unfold okF; omega
          have hMy142 : okMr cs ad gvy28 i (x + 1) Fvy28 r := okMr.upd hM hcvy28 hKy141 (fun f a => hFy127 f (by omega)) hgy109 (hA.mono (by omega)) (fun j a b => by
              exact Or.inl (by rw [hfvy28 _ (by omega)]; rw [egy25, va_up_ne _ _ (by omega)]))
          have h23 : Fvy28 23 = F 23 := ((hFvy28 23 (by decide)).trans (fn rfl (by decide)))
          exact z_iret C hr hlk dX10_count_117 (by decide) (by decide) ⟨vy126, rfl, rfl, rfl, by omega, ⟨_, _, hMy142, by omega⟩, fun j j1 => by rw [hfvy28 _ (by omega)]; rw [egy25, va_up_ne _ _ (by omega)]⟩
        · refine z_tin (off := 95) (tgt := 118) C dX10_count_23 (by omega) (by omega) (by omega) rfl (by decide) ?_
          refine z_aload_n C 0 dX10_count_118 rfl ?_
          refine z_get (v := .ref (ad (i + 1))) C (by omega) hay1 hcvy28 rfl inA_X10 0 (by decide) q_1459 rfl rfl dX10_count_119 ?_
          refine z_iconst (z := 1) C dX10_count_122 rfl ?_
          have hgy143 := up_n egy25 ha1 (ne_o (i := i) (c := 1) (d := 0) rfl)
          have hgy144 := (hfvy28 (i + 1) (ne_o (i := i) (c := 1) (d := 0) rfl)).trans hgy143
          refine z_iald C (by omega) hay2 hgy144 (1) (by omega) (by omega) (by decide) dX10_count_123 ?_
          have hFy145 : ∀ f, f ≠ 12 → Fvy28 f = F f := fun f n12 => ((hFvy28 f n12).trans ((uZ_n _ _ n12).trans rfl))
          have hey146 : Fvy28 13 = F 13 := ((hFvy28 13 (by decide)).trans (fn rfl (by decide)))
          have hey147 : Fvy28 14 = F 14 := ((hFvy28 14 (by decide)).trans (fn rfl (by decide)))
          have hey148 : Fvy28 15 = F 15 := ((hFvy28 15 (by decide)).trans (fn rfl (by decide)))
          have hey149 : Fvy28 16 = F 16 := ((hFvy28 16 (by decide)).trans (fn rfl (by decide)))
          have hey150 : Fvy28 17 = F 17 := ((hFvy28 17 (by decide)).trans (fn rfl (by decide)))
          have hey151 : Fvy28 18 = F 18 := ((hFvy28 18 (by decide)).trans (fn rfl (by decide)))
          have hey152 : Fvy28 19 = F 19 := ((hFvy28 19 (by decide)).trans (fn rfl (by decide)))
          have hey153 : Fvy28 20 = F 20 := ((hFvy28 20 (by decide)).trans (fn rfl (by decide)))
          have hey154 : Fvy28 23 = F 23 := ((hFvy28 23 (by decide)).trans (fn rfl (by decide)))
          have hey155 : Fvy28 25 = F 25 := ((hFvy28 25 (by decide)).trans (fn rfl (by decide)))
          have hey156 : Fvy28 27 = F 27 := ((hFvy28 27 (by decide)).trans (fn rfl (by decide)))
          have hey157 : Fvy28 28 = F 28 := ((hFvy28 28 (by decide)).trans (fn rfl (by decide)))
          have hey158 : Fvy28 29 = F 29 := ((hFvy28 29 (by decide)).trans (fn rfl (by decide)))
          have hKy159 : okF Fvy28 := by unfold okF; omega
          have hMy160 : okMr cs ad gvy28 i (x + 1) Fvy28 r := okMr.upd hM hcvy28 hKy159 (fun f a => hFy145 f (by omega)) hgy144 (hA.mono (by omega)) (fun j a b => by
              exact Or.inl (by rw [hfvy28 _ (by omega)]; rw [egy25, va_up_ne _ _ (by omega)]))
          have h23 : Fvy28 23 = F 23 := ((hFvy28 23 (by decide)).trans (fn rfl (by decide)))
          exact z_iret C hr hlk dX10_count_124 (by decide) (by decide) ⟨r (1), rfl, rfl, rfl, by omega, ⟨_, _, hMy160, by omega⟩, fun j j1 => by rw [hfvy28 _ (by omega)]; rw [egy25, va_up_ne _ _ (by omega)]⟩
        · refine z_tin (off := 102) (tgt := 125) C dX10_count_23 (by omega) (by omega) (by omega) rfl (by decide) ?_
          refine z_aload_n C 0 dX10_count_125 rfl ?_
          have hgy161 := up_n egy25 ha1 (ne_o (i := i) (c := 1) (d := 0) rfl)
          have hgy162 := (hfvy28 (i + 1) (ne_o (i := i) (c := 1) (d := 0) rfl)).trans hgy161
          have hFy163 : ∀ f, f ≠ 12 → Fvy28 f = F f := fun f n12 => ((hFvy28 f n12).trans ((uZ_n _ _ n12).trans rfl))
          have hey164 : Fvy28 13 = F 13 := ((hFvy28 13 (by decide)).trans (fn rfl (by decide)))
          have hey165 : Fvy28 14 = F 14 := ((hFvy28 14 (by decide)).trans (fn rfl (by decide)))
          have hey166 : Fvy28 15 = F 15 := ((hFvy28 15 (by decide)).trans (fn rfl (by decide)))
          have hey167 : Fvy28 16 = F 16 := ((hFvy28 16 (by decide)).trans (fn rfl (by decide)))
          have hey168 : Fvy28 17 = F 17 := ((hFvy28 17 (by decide)).trans (fn rfl (by decide)))
          have hey169 : Fvy28 18 = F 18 := ((hFvy28 18 (by decide)).trans (fn rfl (by decide)))
          have hey170 : Fvy28 19 = F 19 := ((hFvy28 19 (by decide)).trans (fn rfl (by decide)))
          have hey171 : Fvy28 20 = F 20 := ((hFvy28 20 (by decide)).trans (fn rfl (by decide)))
          have hey172 : Fvy28 23 = F 23 := ((hFvy28 23 (by decide)).trans (fn rfl (by decide)))
          have hey173 : Fvy28 25 = F 25 := ((hFvy28 25 (by decide)).trans (fn rfl (by decide)))
          have hey174 : Fvy28 27 = F 27 := ((hFvy28 27 (by decide)).trans (fn rfl (by decide)))
          have hey175 : Fvy28 28 = F 28 := ((hFvy28 28 (by decide)).trans (fn rfl (by decide)))
          have hey176 : Fvy28 29 = F 29 := ((hFvy28 29 (by decide)).trans (fn rfl (by decide)))
          have hKy177 : okF Fvy28 := by unfold okF; omega
          have hMy178 : okMr cs ad gvy28 i (x) Fvy28 r := okMr.upd hM hcvy28 hKy177 (fun f a => hFy163 f (by omega)) hgy162 (hA.mono (by omega)) (fun j a b => by
              exact Or.inl (by rw [hfvy28 _ (by omega)]; rw [egy25, va_up_ne _ _ (by omega)]))
          refine z_cV (As := []) (rest := []) (ci := 12) C (c_X10_allRunoff l D A cs tt N ad _ i hN x hx _ _ hMy178 ) (by omega) hay1 hcvy28 rfl rfl mv_yX10_allRunoff q_1737 hd_yX10_allRunoff (by decide) (Nat.le_of_ble_eq_true rfl) (by decide) dX10_count_126 rfl (kI0 fun vy179 gvy179 hvy179 => ?_)
          obtain ⟨hvy179, rfl⟩ := hvy179
          have hFy180 : ∀ f, f ≠ 12 → Fvy28 f = F f := fun f n12 => ((hFvy28 f n12).trans ((uZ_n _ _ n12).trans rfl))
          have hey181 : Fvy28 13 = F 13 := ((hFvy28 13 (by decide)).trans (fn rfl (by decide)))
          have hey182 : Fvy28 14 = F 14 := ((hFvy28 14 (by decide)).trans (fn rfl (by decide)))
          have hey183 : Fvy28 15 = F 15 := ((hFvy28 15 (by decide)).trans (fn rfl (by decide)))
          have hey184 : Fvy28 16 = F 16 := ((hFvy28 16 (by decide)).trans (fn rfl (by decide)))
          have hey185 : Fvy28 17 = F 17 := ((hFvy28 17 (by decide)).trans (fn rfl (by decide)))
          have hey186 : Fvy28 18 = F 18 := ((hFvy28 18 (by decide)).trans (fn rfl (by decide)))
          have hey187 : Fvy28 19 = F 19 := ((hFvy28 19 (by decide)).trans (fn rfl (by decide)))
          have hey188 : Fvy28 20 = F 20 := ((hFvy28 20 (by decide)).trans (fn rfl (by decide)))
          have hey189 : Fvy28 23 = F 23 := ((hFvy28 23 (by decide)).trans (fn rfl (by decide)))
          have hey190 : Fvy28 25 = F 25 := ((hFvy28 25 (by decide)).trans (fn rfl (by decide)))
          have hey191 : Fvy28 27 = F 27 := ((hFvy28 27 (by decide)).trans (fn rfl (by decide)))
          have hey192 : Fvy28 28 = F 28 := ((hFvy28 28 (by decide)).trans (fn rfl (by decide)))
          have hey193 : Fvy28 29 = F 29 := ((hFvy28 29 (by decide)).trans (fn rfl (by decide)))
          have hKy194 : okF Fvy28 := by unfold okF; omega
          have hMy195 : okMr cs ad gvy28 i (x + 1) Fvy28 r := okMr.upd hM hcvy28 hKy194 (fun f a => hFy180 f (by omega)) hgy162 (hA.mono (by omega)) (fun j a b => by
              exact Or.inl (by rw [hfvy28 _ (by omega)]; rw [egy25, va_up_ne _ _ (by omega)]))
          have h23 : Fvy28 23 = F 23 := ((hFvy28 23 (by decide)).trans (fn rfl (by decide)))
          exact z_iret C hr hlk dX10_count_129 (by decide) (by decide) ⟨vy179, rfl, rfl, rfl, by omega, ⟨_, _, hMy195, by omega⟩, fun j j1 => by rw [hfvy28 _ (by omega)]; rw [egy25, va_up_ne _ _ (by omega)]⟩
        · refine z_tin (off := 107) (tgt := 130) C dX10_count_23 (by omega) (by omega) (by omega) rfl (by decide) ?_
          refine z_aload_n C 0 dX10_count_130 rfl ?_
          refine z_get (v := .ref (ad (i + 1))) C (by omega) hay1 hcvy28 rfl inA_X10 0 (by decide) q_1459 rfl rfl dX10_count_131 ?_
          refine z_iconst (z := 2) C dX10_count_134 rfl ?_
          have hgy196 := up_n egy25 ha1 (ne_o (i := i) (c := 1) (d := 0) rfl)
          have hgy197 := (hfvy28 (i + 1) (ne_o (i := i) (c := 1) (d := 0) rfl)).trans hgy196
          refine z_iald C (by omega) hay2 hgy197 (2) (by omega) (by omega) (by decide) dX10_count_135 ?_
          obtain ⟨xy198, exy199, hxy200⟩ := zI_of (zI (r (2)))
          rw [exy199]
          have hFy201 : ∀ f, f ≠ 12 → Fvy28 f = F f := fun f n12 => ((hFvy28 f n12).trans ((uZ_n _ _ n12).trans rfl))
          have hey202 : Fvy28 13 = F 13 := ((hFvy28 13 (by decide)).trans (fn rfl (by decide)))
          have hey203 : Fvy28 14 = F 14 := ((hFvy28 14 (by decide)).trans (fn rfl (by decide)))
          have hey204 : Fvy28 15 = F 15 := ((hFvy28 15 (by decide)).trans (fn rfl (by decide)))
          have hey205 : Fvy28 16 = F 16 := ((hFvy28 16 (by decide)).trans (fn rfl (by decide)))
          have hey206 : Fvy28 17 = F 17 := ((hFvy28 17 (by decide)).trans (fn rfl (by decide)))
          have hey207 : Fvy28 18 = F 18 := ((hFvy28 18 (by decide)).trans (fn rfl (by decide)))
          have hey208 : Fvy28 19 = F 19 := ((hFvy28 19 (by decide)).trans (fn rfl (by decide)))
          have hey209 : Fvy28 20 = F 20 := ((hFvy28 20 (by decide)).trans (fn rfl (by decide)))
          have hey210 : Fvy28 23 = F 23 := ((hFvy28 23 (by decide)).trans (fn rfl (by decide)))
          have hey211 : Fvy28 25 = F 25 := ((hFvy28 25 (by decide)).trans (fn rfl (by decide)))
          have hey212 : Fvy28 27 = F 27 := ((hFvy28 27 (by decide)).trans (fn rfl (by decide)))
          have hey213 : Fvy28 28 = F 28 := ((hFvy28 28 (by decide)).trans (fn rfl (by decide)))
          have hey214 : Fvy28 29 = F 29 := ((hFvy28 29 (by decide)).trans (fn rfl (by decide)))
          have hKy215 : okF Fvy28 := by unfold okF; omega
          have hMy216 : okMr cs ad gvy28 i (x + 1) Fvy28 r := okMr.upd hM hcvy28 hKy215 (fun f a => hFy201 f (by omega)) hgy197 (hA.mono (by omega)) (fun j a b => by
              exact Or.inl (by rw [hfvy28 _ (by omega)]; rw [egy25, va_up_ne _ _ (by omega)]))
          have h23 : Fvy28 23 = F 23 := ((hFvy28 23 (by decide)).trans (fn rfl (by decide)))
          exact z_iret C hr hlk dX10_count_136 (by decide) (by decide) ⟨xy198, rfl, rfl, rfl, by omega, ⟨_, _, hMy216, by omega⟩, fun j j1 => by rw [hfvy28 _ (by omega)]; rw [egy25, va_up_ne _ _ (by omega)]⟩
        · refine z_tin (off := 114) (tgt := 137) C dX10_count_23 (by omega) (by omega) (by omega) rfl (by decide) ?_
          refine z_aload_n C 0 dX10_count_137 rfl ?_
          refine z_get (v := .ref (ad (i + 1))) C (by omega) hay1 hcvy28 rfl inA_X10 0 (by decide) q_1459 rfl rfl dX10_count_138 ?_
          refine z_iconst (z := 3) C dX10_count_141 rfl ?_
          have hgy217 := up_n egy25 ha1 (ne_o (i := i) (c := 1) (d := 0) rfl)
          have hgy218 := (hfvy28 (i + 1) (ne_o (i := i) (c := 1) (d := 0) rfl)).trans hgy217
          refine z_iald C (by omega) hay2 hgy218 (3) (by omega) (by omega) (by decide) dX10_count_142 ?_
          obtain ⟨xy219, exy220, hxy221⟩ := zI_of (zI (r (3)))
          rw [exy220]
          have hFy222 : ∀ f, f ≠ 12 → Fvy28 f = F f := fun f n12 => ((hFvy28 f n12).trans ((uZ_n _ _ n12).trans rfl))
          have hey223 : Fvy28 13 = F 13 := ((hFvy28 13 (by decide)).trans (fn rfl (by decide)))
          have hey224 : Fvy28 14 = F 14 := ((hFvy28 14 (by decide)).trans (fn rfl (by decide)))
          have hey225 : Fvy28 15 = F 15 := ((hFvy28 15 (by decide)).trans (fn rfl (by decide)))
          have hey226 : Fvy28 16 = F 16 := ((hFvy28 16 (by decide)).trans (fn rfl (by decide)))
          have hey227 : Fvy28 17 = F 17 := ((hFvy28 17 (by decide)).trans (fn rfl (by decide)))
          have hey228 : Fvy28 18 = F 18 := ((hFvy28 18 (by decide)).trans (fn rfl (by decide)))
          have hey229 : Fvy28 19 = F 19 := ((hFvy28 19 (by decide)).trans (fn rfl (by decide)))
          have hey230 : Fvy28 20 = F 20 := ((hFvy28 20 (by decide)).trans (fn rfl (by decide)))
          have hey231 : Fvy28 23 = F 23 := ((hFvy28 23 (by decide)).trans (fn rfl (by decide)))
          have hey232 : Fvy28 25 = F 25 := ((hFvy28 25 (by decide)).trans (fn rfl (by decide)))
          have hey233 : Fvy28 27 = F 27 := ((hFvy28 27 (by decide)).trans (fn rfl (by decide)))
          have hey234 : Fvy28 28 = F 28 := ((hFvy28 28 (by decide)).trans (fn rfl (by decide)))
          have hey235 : Fvy28 29 = F 29 := ((hFvy28 29 (by decide)).trans (fn rfl (by decide)))
          have hKy236 : okF Fvy28 := by unfold okF; omega
          have hMy237 : okMr cs ad gvy28 i (x + 1) Fvy28 r := okMr.upd hM hcvy28 hKy236 (fun f a => hFy222 f (by omega)) hgy218 (hA.mono (by omega)) (fun j a b => by
              exact Or.inl (by rw [hfvy28 _ (by omega)]; rw [egy25, va_up_ne _ _ (by omega)]))
          have h23 : Fvy28 23 = F 23 := ((hFvy28 23 (by decide)).trans (fn rfl (by decide)))
          exact z_iret C hr hlk dX10_count_143 (by decide) (by decide) ⟨xy219, rfl, rfl, rfl, by omega, ⟨_, _, hMy237, by omega⟩, fun j j1 => by rw [hfvy28 _ (by omega)]; rw [egy25, va_up_ne _ _ (by omega)]⟩
        · refine z_tin (off := 121) (tgt := 144) C dX10_count_23 (by omega) (by omega) (by omega) rfl (by decide) ?_
          refine z_aload_n C 0 dX10_count_144 rfl ?_
          refine z_get (v := .ref (ad (i + 1))) C (by omega) hay1 hcvy28 rfl inA_X10 0 (by decide) q_1459 rfl rfl dX10_count_145 ?_
          refine z_iconst (z := 4) C dX10_count_148 rfl ?_
          have hgy238 := up_n egy25 ha1 (ne_o (i := i) (c := 1) (d := 0) rfl)
          have hgy239 := (hfvy28 (i + 1) (ne_o (i := i) (c := 1) (d := 0) rfl)).trans hgy238
          refine z_iald C (by omega) hay2 hgy239 (4) (by omega) (by omega) (by decide) dX10_count_149 ?_
          obtain ⟨xy240, exy241, hxy242⟩ := zI_of (zI (r (4)))
          rw [exy241]
          have hFy243 : ∀ f, f ≠ 12 → Fvy28 f = F f := fun f n12 => ((hFvy28 f n12).trans ((uZ_n _ _ n12).trans rfl))
          have hey244 : Fvy28 13 = F 13 := ((hFvy28 13 (by decide)).trans (fn rfl (by decide)))
          have hey245 : Fvy28 14 = F 14 := ((hFvy28 14 (by decide)).trans (fn rfl (by decide)))
          have hey246 : Fvy28 15 = F 15 := ((hFvy28 15 (by decide)).trans (fn rfl (by decide)))
          have hey247 : Fvy28 16 = F 16 := ((hFvy28 16 (by decide)).trans (fn rfl (by decide)))
          have hey248 : Fvy28 17 = F 17 := ((hFvy28 17 (by decide)).trans (fn rfl (by decide)))
          have hey249 : Fvy28 18 = F 18 := ((hFvy28 18 (by decide)).trans (fn rfl (by decide)))
          have hey250 : Fvy28 19 = F 19 := ((hFvy28 19 (by decide)).trans (fn rfl (by decide)))
          have hey251 : Fvy28 20 = F 20 := ((hFvy28 20 (by decide)).trans (fn rfl (by decide)))
          have hey252 : Fvy28 23 = F 23 := ((hFvy28 23 (by decide)).trans (fn rfl (by decide)))
          have hey253 : Fvy28 25 = F 25 := ((hFvy28 25 (by decide)).trans (fn rfl (by decide)))
          have hey254 : Fvy28 27 = F 27 := ((hFvy28 27 (by decide)).trans (fn rfl (by decide)))
          have hey255 : Fvy28 28 = F 28 := ((hFvy28 28 (by decide)).trans (fn rfl (by decide)))
          have hey256 : Fvy28 29 = F 29 := ((hFvy28 29 (by decide)).trans (fn rfl (by decide)))
          have hKy257 : okF Fvy28 := by unfold okF; omega
          have hMy258 : okMr cs ad gvy28 i (x + 1) Fvy28 r := okMr.upd hM hcvy28 hKy257 (fun f a => hFy243 f (by omega)) hgy239 (hA.mono (by omega)) (fun j a b => by
              exact Or.inl (by rw [hfvy28 _ (by omega)]; rw [egy25, va_up_ne _ _ (by omega)]))
          have h23 : Fvy28 23 = F 23 := ((hFvy28 23 (by decide)).trans (fn rfl (by decide)))
          exact z_iret C hr hlk dX10_count_150 (by decide) (by decide) ⟨xy240, rfl, rfl, rfl, by omega, ⟨_, _, hMy258, by omega⟩, fun j j1 => by rw [hfvy28 _ (by omega)]; rw [egy25, va_up_ne _ _ (by omega)]⟩
        · refine z_tin (off := 128) (tgt := 151) C dX10_count_23 (by omega) (by omega) (by omega) rfl (by decide) ?_
          refine z_aload_n C 0 dX10_count_151 rfl ?_
          have hgy259 := up_n egy25 ha1 (ne_o (i := i) (c := 1) (d := 0) rfl)
          have hgy260 := (hfvy28 (i + 1) (ne_o (i := i) (c := 1) (d := 0) rfl)).trans hgy259
          have hFy261 : ∀ f, f ≠ 12 → Fvy28 f = F f := fun f n12 => ((hFvy28 f n12).trans ((uZ_n _ _ n12).trans rfl))
          have hey262 : Fvy28 13 = F 13 := ((hFvy28 13 (by decide)).trans (fn rfl (by decide)))
          have hey263 : Fvy28 14 = F 14 := ((hFvy28 14 (by decide)).trans (fn rfl (by decide)))
          have hey264 : Fvy28 15 = F 15 := ((hFvy28 15 (by decide)).trans (fn rfl (by decide)))
          have hey265 : Fvy28 16 = F 16 := ((hFvy28 16 (by decide)).trans (fn rfl (by decide)))
          have hey266 : Fvy28 17 = F 17 := ((hFvy28 17 (by decide)).trans (fn rfl (by decide)))
          have hey267 : Fvy28 18 = F 18 := ((hFvy28 18 (by decide)).trans (fn rfl (by decide)))
          have hey268 : Fvy28 19 = F 19 := ((hFvy28 19 (by decide)).trans (fn rfl (by decide)))
          have hey269 : Fvy28 20 = F 20 := ((hFvy28 20 (by decide)).trans (fn rfl (by decide)))
          have hey270 : Fvy28 23 = F 23 := ((hFvy28 23 (by decide)).trans (fn rfl (by decide)))
          have hey271 : Fvy28 25 = F 25 := ((hFvy28 25 (by decide)).trans (fn rfl (by decide)))
          have hey272 : Fvy28 27 = F 27 := ((hFvy28 27 (by decide)).trans (fn rfl (by decide)))
          have hey273 : Fvy28 28 = F 28 := ((hFvy28 28 (by decide)).trans (fn rfl (by decide)))
          have hey274 : Fvy28 29 = F 29 := ((hFvy28 29 (by decide)).trans (fn rfl (by decide)))
          have hKy275 : okF Fvy28 := by unfold okF; omega
          have hMy276 : okMr cs ad gvy28 i (x) Fvy28 r := okMr.upd hM hcvy28 hKy275 (fun f a => hFy261 f (by omega)) hgy260 (hA.mono (by omega)) (fun j a b => by
              exact Or.inl (by rw [hfvy28 _ (by omega)]; rw [egy25, va_up_ne _ _ (by omega)]))
          refine z_cV (As := []) (rest := []) (ci := 12) C (c_X10_allWeight l D A cs tt N ad _ i hN x hx _ _ hMy276 ) (by omega) hay1 hcvy28 rfl rfl mv_yX10_allWeight q_1741 hd_yX10_allWeight (by decide) (Nat.le_of_ble_eq_true rfl) (by decide) dX10_count_152 rfl (kI0 fun vy277 gvy277 hvy277 => ?_)
          obtain ⟨hvy277, rfl⟩ := hvy277
          have hFy278 : ∀ f, f ≠ 12 → Fvy28 f = F f := fun f n12 => ((hFvy28 f n12).trans ((uZ_n _ _ n12).trans rfl))
          have hey279 : Fvy28 13 = F 13 := ((hFvy28 13 (by decide)).trans (fn rfl (by decide)))
          have hey280 : Fvy28 14 = F 14 := ((hFvy28 14 (by decide)).trans (fn rfl (by decide)))
          have hey281 : Fvy28 15 = F 15 := ((hFvy28 15 (by decide)).trans (fn rfl (by decide)))
          have hey282 : Fvy28 16 = F 16 := ((hFvy28 16 (by decide)).trans (fn rfl (by decide)))
          have hey283 : Fvy28 17 = F 17 := ((hFvy28 17 (by decide)).trans (fn rfl (by decide)))
          have hey284 : Fvy28 18 = F 18 := ((hFvy28 18 (by decide)).trans (fn rfl (by decide)))
          have hey285 : Fvy28 19 = F 19 := ((hFvy28 19 (by decide)).trans (fn rfl (by decide)))
          have hey286 : Fvy28 20 = F 20 := ((hFvy28 20 (by decide)).trans (fn rfl (by decide)))
          have hey287 : Fvy28 23 = F 23 := ((hFvy28 23 (by decide)).trans (fn rfl (by decide)))
          have hey288 : Fvy28 25 = F 25 := ((hFvy28 25 (by decide)).trans (fn rfl (by decide)))
          have hey289 : Fvy28 27 = F 27 := ((hFvy28 27 (by decide)).trans (fn rfl (by decide)))
          have hey290 : Fvy28 28 = F 28 := ((hFvy28 28 (by decide)).trans (fn rfl (by decide)))
          have hey291 : Fvy28 29 = F 29 := ((hFvy28 29 (by decide)).trans (fn rfl (by decide)))
          have hKy292 : okF Fvy28 := by unfold okF; omega
          have hMy293 : okMr cs ad gvy28 i (x + 1) Fvy28 r := okMr.upd hM hcvy28 hKy292 (fun f a => hFy278 f (by omega)) hgy260 (hA.mono (by omega)) (fun j a b => by
              exact Or.inl (by rw [hfvy28 _ (by omega)]; rw [egy25, va_up_ne _ _ (by omega)]))
          have h23 : Fvy28 23 = F 23 := ((hFvy28 23 (by decide)).trans (fn rfl (by decide)))
          exact z_iret C hr hlk dX10_count_155 (by decide) (by decide) ⟨vy277, rfl, rfl, rfl, by omega, ⟨_, _, hMy293, by omega⟩, fun j j1 => by rw [hfvy28 _ (by omega)]; rw [egy25, va_up_ne _ _ (by omega)]⟩
        · refine z_tin (off := 133) (tgt := 156) C dX10_count_23 (by omega) (by omega) (by omega) rfl (by decide) ?_
          refine z_aload_n C 0 dX10_count_156 rfl ?_
          have hgy294 := up_n egy25 ha1 (ne_o (i := i) (c := 1) (d := 0) rfl)
          have hgy295 := (hfvy28 (i + 1) (ne_o (i := i) (c := 1) (d := 0) rfl)).trans hgy294
          have hFy296 : ∀ f, f ≠ 12 → Fvy28 f = F f := fun f n12 => ((hFvy28 f n12).trans ((uZ_n _ _ n12).trans rfl))
          have hey297 : Fvy28 13 = F 13 := ((hFvy28 13 (by decide)).trans (fn rfl (by decide)))
          have hey298 : Fvy28 14 = F 14 := ((hFvy28 14 (by decide)).trans (fn rfl (by decide)))
          have hey299 : Fvy28 15 = F 15 := ((hFvy28 15 (by decide)).trans (fn rfl (by decide)))
          have hey300 : Fvy28 16 = F 16 := ((hFvy28 16 (by decide)).trans (fn rfl (by decide)))
          have hey301 : Fvy28 17 = F 17 := ((hFvy28 17 (by decide)).trans (fn rfl (by decide)))
          have hey302 : Fvy28 18 = F 18 := ((hFvy28 18 (by decide)).trans (fn rfl (by decide)))
          have hey303 : Fvy28 19 = F 19 := ((hFvy28 19 (by decide)).trans (fn rfl (by decide)))
          have hey304 : Fvy28 20 = F 20 := ((hFvy28 20 (by decide)).trans (fn rfl (by decide)))
          have hey305 : Fvy28 23 = F 23 := ((hFvy28 23 (by decide)).trans (fn rfl (by decide)))
          have hey306 : Fvy28 25 = F 25 := ((hFvy28 25 (by decide)).trans (fn rfl (by decide)))
          have hey307 : Fvy28 27 = F 27 := ((hFvy28 27 (by decide)).trans (fn rfl (by decide)))
          have hey308 : Fvy28 28 = F 28 := ((hFvy28 28 (by decide)).trans (fn rfl (by decide)))
          have hey309 : Fvy28 29 = F 29 := ((hFvy28 29 (by decide)).trans (fn rfl (by decide)))
          have hKy310 : okF Fvy28 := by unfold okF; omega
          have hMy311 : okMr cs ad gvy28 i (x) Fvy28 r := okMr.upd hM hcvy28 hKy310 (fun f a => hFy296 f (by omega)) hgy295 (hA.mono (by omega)) (fun j a b => by
              exact Or.inl (by rw [hfvy28 _ (by omega)]; rw [egy25, va_up_ne _ _ (by omega)]))
          refine z_cV (As := []) (rest := []) (ci := 12) C (c_X10_worst l D A cs tt N ad _ i hN x hx _ _ hMy311 ) (by omega) hay1 hcvy28 rfl rfl mv_yX10_worst q_1756 hd_yX10_worst (by decide) (Nat.le_of_ble_eq_true rfl) (by decide) dX10_count_157 rfl (kI0 fun vy312 gvy312 hvy312 => ?_)
          obtain ⟨hvy312, rfl⟩ := hvy312
          have hFy313 : ∀ f, f ≠ 12 → Fvy28 f = F f := fun f n12 => ((hFvy28 f n12).trans ((uZ_n _ _ n12).trans rfl))
          have hey314 : Fvy28 13 = F 13 := ((hFvy28 13 (by decide)).trans (fn rfl (by decide)))
          have hey315 : Fvy28 14 = F 14 := ((hFvy28 14 (by decide)).trans (fn rfl (by decide)))
          have hey316 : Fvy28 15 = F 15 := ((hFvy28 15 (by decide)).trans (fn rfl (by decide)))
          have hey317 : Fvy28 16 = F 16 := ((hFvy28 16 (by decide)).trans (fn rfl (by decide)))
          have hey318 : Fvy28 17 = F 17 := ((hFvy28 17 (by decide)).trans (fn rfl (by decide)))
          have hey319 : Fvy28 18 = F 18 := ((hFvy28 18 (by decide)).trans (fn rfl (by decide)))
          have hey320 : Fvy28 19 = F 19 := ((hFvy28 19 (by decide)).trans (fn rfl (by decide)))
          have hey321 : Fvy28 20 = F 20 := ((hFvy28 20 (by decide)).trans (fn rfl (by decide)))
          have hey322 : Fvy28 23 = F 23 := ((hFvy28 23 (by decide)).trans (fn rfl (by decide)))
          have hey323 : Fvy28 25 = F 25 := ((hFvy28 25 (by decide)).trans (fn rfl (by decide)))
          have hey324 : Fvy28 27 = F 27 := ((hFvy28 27 (by decide)).trans (fn rfl (by decide)))
          have hey325 : Fvy28 28 = F 28 := ((hFvy28 28 (by decide)).trans (fn rfl (by decide)))
          have hey326 : Fvy28 29 = F 29 := ((hFvy28 29 (by decide)).trans (fn rfl (by decide)))
          have hKy327 : okF Fvy28 := by unfold okF; omega
          have hMy328 : okMr cs ad gvy28 i (x + 1) Fvy28 r := okMr.upd hM hcvy28 hKy327 (fun f a => hFy313 f (by omega)) hgy295 (hA.mono (by omega)) (fun j a b => by
              exact Or.inl (by rw [hfvy28 _ (by omega)]; rw [egy25, va_up_ne _ _ (by omega)]))
          have h23 : Fvy28 23 = F 23 := ((hFvy28 23 (by decide)).trans (fn rfl (by decide)))
          exact z_iret C hr hlk dX10_count_160 (by decide) (by decide) ⟨vy312, rfl, rfl, rfl, by omega, ⟨_, _, hMy328, by omega⟩, fun j j1 => by rw [hfvy28 _ (by omega)]; rw [egy25, va_up_ne _ _ (by omega)]⟩
        · refine z_tin (off := 138) (tgt := 161) C dX10_count_23 (by omega) (by omega) (by omega) rfl (by decide) ?_
          refine z_aload_n C 0 dX10_count_161 rfl ?_
          refine z_get (v := .ref (ad (i + 1))) C (by omega) hay1 hcvy28 rfl inA_X10 0 (by decide) q_1459 rfl rfl dX10_count_162 ?_
          refine z_iconst (z := 5) C dX10_count_165 rfl ?_
          have hgy329 := up_n egy25 ha1 (ne_o (i := i) (c := 1) (d := 0) rfl)
          have hgy330 := (hfvy28 (i + 1) (ne_o (i := i) (c := 1) (d := 0) rfl)).trans hgy329
          refine z_iald C (by omega) hay2 hgy330 (5) (by omega) (by omega) (by decide) dX10_count_166 ?_
          have hFy331 : ∀ f, f ≠ 12 → Fvy28 f = F f := fun f n12 => ((hFvy28 f n12).trans ((uZ_n _ _ n12).trans rfl))
          have hey332 : Fvy28 13 = F 13 := ((hFvy28 13 (by decide)).trans (fn rfl (by decide)))
          have hey333 : Fvy28 14 = F 14 := ((hFvy28 14 (by decide)).trans (fn rfl (by decide)))
          have hey334 : Fvy28 15 = F 15 := ((hFvy28 15 (by decide)).trans (fn rfl (by decide)))
          have hey335 : Fvy28 16 = F 16 := ((hFvy28 16 (by decide)).trans (fn rfl (by decide)))
          have hey336 : Fvy28 17 = F 17 := ((hFvy28 17 (by decide)).trans (fn rfl (by decide)))
          have hey337 : Fvy28 18 = F 18 := ((hFvy28 18 (by decide)).trans (fn rfl (by decide)))
          have hey338 : Fvy28 19 = F 19 := ((hFvy28 19 (by decide)).trans (fn rfl (by decide)))
          have hey339 : Fvy28 20 = F 20 := ((hFvy28 20 (by decide)).trans (fn rfl (by decide)))
          have hey340 : Fvy28 23 = F 23 := ((hFvy28 23 (by decide)).trans (fn rfl (by decide)))
          have hey341 : Fvy28 25 = F 25 := ((hFvy28 25 (by decide)).trans (fn rfl (by decide)))
          have hey342 : Fvy28 27 = F 27 := ((hFvy28 27 (by decide)).trans (fn rfl (by decide)))
          have hey343 : Fvy28 28 = F 28 := ((hFvy28 28 (by decide)).trans (fn rfl (by decide)))
          have hey344 : Fvy28 29 = F 29 := ((hFvy28 29 (by decide)).trans (fn rfl (by decide)))
          have hKy345 : okF Fvy28 := by unfold okF; omega
          have hMy346 : okMr cs ad gvy28 i (x + 1) Fvy28 r := okMr.upd hM hcvy28 hKy345 (fun f a => hFy331 f (by omega)) hgy330 (hA.mono (by omega)) (fun j a b => by
              exact Or.inl (by rw [hfvy28 _ (by omega)]; rw [egy25, va_up_ne _ _ (by omega)]))
          have h23 : Fvy28 23 = F 23 := ((hFvy28 23 (by decide)).trans (fn rfl (by decide)))
          exact z_iret C hr hlk dX10_count_167 (by decide) (by decide) ⟨r (5), rfl, rfl, rfl, by omega, ⟨_, _, hMy346, by omega⟩, fun j j1 => by rw [hfvy28 _ (by omega)]; rw [egy25, va_up_ne _ _ (by omega)]⟩
        · refine z_tin (off := 145) (tgt := 168) C dX10_count_23 (by omega) (by omega) (by omega) rfl (by decide) ?_
          refine z_aload_n C 0 dX10_count_168 rfl ?_
          refine z_get (v := .int (zI (F 15))) C (by omega) hay1 hcvy28 rfl inA_X10 15 (by decide) q_1474 rfl (fv (F := Fvy28) (f := 15) ((hFvy28 15 (by decide)).trans (fn rfl (by decide)))) dX10_count_169 ?_
          have hgy347 := up_n egy25 ha1 (ne_o (i := i) (c := 1) (d := 0) rfl)
          have hgy348 := (hfvy28 (i + 1) (ne_o (i := i) (c := 1) (d := 0) rfl)).trans hgy347
          have hFy349 : ∀ f, f ≠ 12 → Fvy28 f = F f := fun f n12 => ((hFvy28 f n12).trans ((uZ_n _ _ n12).trans rfl))
          have hey350 : Fvy28 13 = F 13 := ((hFvy28 13 (by decide)).trans (fn rfl (by decide)))
          have hey351 : Fvy28 14 = F 14 := ((hFvy28 14 (by decide)).trans (fn rfl (by decide)))
          have hey352 : Fvy28 15 = F 15 := ((hFvy28 15 (by decide)).trans (fn rfl (by decide)))
          have hey353 : Fvy28 16 = F 16 := ((hFvy28 16 (by decide)).trans (fn rfl (by decide)))
          have hey354 : Fvy28 17 = F 17 := ((hFvy28 17 (by decide)).trans (fn rfl (by decide)))
          have hey355 : Fvy28 18 = F 18 := ((hFvy28 18 (by decide)).trans (fn rfl (by decide)))
          have hey356 : Fvy28 19 = F 19 := ((hFvy28 19 (by decide)).trans (fn rfl (by decide)))
          have hey357 : Fvy28 20 = F 20 := ((hFvy28 20 (by decide)).trans (fn rfl (by decide)))
          have hey358 : Fvy28 23 = F 23 := ((hFvy28 23 (by decide)).trans (fn rfl (by decide)))
          have hey359 : Fvy28 25 = F 25 := ((hFvy28 25 (by decide)).trans (fn rfl (by decide)))
          have hey360 : Fvy28 27 = F 27 := ((hFvy28 27 (by decide)).trans (fn rfl (by decide)))
          have hey361 : Fvy28 28 = F 28 := ((hFvy28 28 (by decide)).trans (fn rfl (by decide)))
          have hey362 : Fvy28 29 = F 29 := ((hFvy28 29 (by decide)).trans (fn rfl (by decide)))
          have hKy363 : okF Fvy28 := by unfold okF; omega
          have hMy364 : okMr cs ad gvy28 i (x + 1) Fvy28 r := okMr.upd hM hcvy28 hKy363 (fun f a => hFy349 f (by omega)) hgy348 (hA.mono (by omega)) (fun j a b => by
              exact Or.inl (by rw [hfvy28 _ (by omega)]; rw [egy25, va_up_ne _ _ (by omega)]))
          have h23 : Fvy28 23 = F 23 := ((hFvy28 23 (by decide)).trans (fn rfl (by decide)))
          exact z_iret C hr hlk dX10_count_172 (by decide) (by decide) ⟨F 15, rfl, rfl, rfl, by omega, ⟨_, _, hMy364, by omega⟩, fun j j1 => by rw [hfvy28 _ (by omega)]; rw [egy25, va_up_ne _ _ (by omega)]⟩
        · refine z_tin (off := 150) (tgt := 173) C dX10_count_23 (by omega) (by omega) (by omega) rfl (by decide) ?_
          refine z_aload_n C 0 dX10_count_173 rfl ?_
          refine z_get (v := .int (zI (F 17))) C (by omega) hay1 hcvy28 rfl inA_X10 17 (by decide) q_1476 rfl (fv (F := Fvy28) (f := 17) ((hFvy28 17 (by decide)).trans (fn rfl (by decide)))) dX10_count_174 ?_
          have hgy365 := up_n egy25 ha1 (ne_o (i := i) (c := 1) (d := 0) rfl)
          have hgy366 := (hfvy28 (i + 1) (ne_o (i := i) (c := 1) (d := 0) rfl)).trans hgy365
          have hFy367 : ∀ f, f ≠ 12 → Fvy28 f = F f := fun f n12 => ((hFvy28 f n12).trans ((uZ_n _ _ n12).trans rfl))
          have hey368 : Fvy28 13 = F 13 := ((hFvy28 13 (by decide)).trans (fn rfl (by decide)))
          have hey369 : Fvy28 14 = F 14 := ((hFvy28 14 (by decide)).trans (fn rfl (by decide)))
          have hey370 : Fvy28 15 = F 15 := ((hFvy28 15 (by decide)).trans (fn rfl (by decide)))
          have hey371 : Fvy28 16 = F 16 := ((hFvy28 16 (by decide)).trans (fn rfl (by decide)))
          have hey372 : Fvy28 17 = F 17 := ((hFvy28 17 (by decide)).trans (fn rfl (by decide)))
          have hey373 : Fvy28 18 = F 18 := ((hFvy28 18 (by decide)).trans (fn rfl (by decide)))
          have hey374 : Fvy28 19 = F 19 := ((hFvy28 19 (by decide)).trans (fn rfl (by decide)))
          have hey375 : Fvy28 20 = F 20 := ((hFvy28 20 (by decide)).trans (fn rfl (by decide)))
          have hey376 : Fvy28 23 = F 23 := ((hFvy28 23 (by decide)).trans (fn rfl (by decide)))
          have hey377 : Fvy28 25 = F 25 := ((hFvy28 25 (by decide)).trans (fn rfl (by decide)))
          have hey378 : Fvy28 27 = F 27 := ((hFvy28 27 (by decide)).trans (fn rfl (by decide)))
          have hey379 : Fvy28 28 = F 28 := ((hFvy28 28 (by decide)).trans (fn rfl (by decide)))
          have hey380 : Fvy28 29 = F 29 := ((hFvy28 29 (by decide)).trans (fn rfl (by decide)))
          have hKy381 : okF Fvy28 := by unfold okF; omega
          have hMy382 : okMr cs ad gvy28 i (x + 1) Fvy28 r := okMr.upd hM hcvy28 hKy381 (fun f a => hFy367 f (by omega)) hgy366 (hA.mono (by omega)) (fun j a b => by
              exact Or.inl (by rw [hfvy28 _ (by omega)]; rw [egy25, va_up_ne _ _ (by omega)]))
          have h23 : Fvy28 23 = F 23 := ((hFvy28 23 (by decide)).trans (fn rfl (by decide)))
          exact z_iret C hr hlk dX10_count_177 (by decide) (by decide) ⟨F 17, rfl, rfl, rfl, by omega, ⟨_, _, hMy382, by omega⟩, fun j j1 => by rw [hfvy28 _ (by omega)]; rw [egy25, va_up_ne _ _ (by omega)]⟩
        · refine z_tin (off := 155) (tgt := 178) C dX10_count_23 (by omega) (by omega) (by omega) rfl (by decide) ?_
          refine z_aload_n C 0 dX10_count_178 rfl ?_
          refine z_get (v := .int (zI (F 23))) C (by omega) hay1 hcvy28 rfl inA_X10 23 (by decide) q_1482 rfl (fv (F := Fvy28) (f := 23) ((hFvy28 23 (by decide)).trans (fn rfl (by decide)))) dX10_count_179 ?_
          have hgy383 := up_n egy25 ha1 (ne_o (i := i) (c := 1) (d := 0) rfl)
          have hgy384 := (hfvy28 (i + 1) (ne_o (i := i) (c := 1) (d := 0) rfl)).trans hgy383
          have hFy385 : ∀ f, f ≠ 12 → Fvy28 f = F f := fun f n12 => ((hFvy28 f n12).trans ((uZ_n _ _ n12).trans rfl))
          have hey386 : Fvy28 13 = F 13 := ((hFvy28 13 (by decide)).trans (fn rfl (by decide)))
          have hey387 : Fvy28 14 = F 14 := ((hFvy28 14 (by decide)).trans (fn rfl (by decide)))
          have hey388 : Fvy28 15 = F 15 := ((hFvy28 15 (by decide)).trans (fn rfl (by decide)))
          have hey389 : Fvy28 16 = F 16 := ((hFvy28 16 (by decide)).trans (fn rfl (by decide)))
          have hey390 : Fvy28 17 = F 17 := ((hFvy28 17 (by decide)).trans (fn rfl (by decide)))
          have hey391 : Fvy28 18 = F 18 := ((hFvy28 18 (by decide)).trans (fn rfl (by decide)))
          have hey392 : Fvy28 19 = F 19 := ((hFvy28 19 (by decide)).trans (fn rfl (by decide)))
          have hey393 : Fvy28 20 = F 20 := ((hFvy28 20 (by decide)).trans (fn rfl (by decide)))
          have hey394 : Fvy28 23 = F 23 := ((hFvy28 23 (by decide)).trans (fn rfl (by decide)))
          have hey395 : Fvy28 25 = F 25 := ((hFvy28 25 (by decide)).trans (fn rfl (by decide)))
          have hey396 : Fvy28 27 = F 27 := ((hFvy28 27 (by decide)).trans (fn rfl (by decide)))
          have hey397 : Fvy28 28 = F 28 := ((hFvy28 28 (by decide)).trans (fn rfl (by decide)))
          have hey398 : Fvy28 29 = F 29 := ((hFvy28 29 (by decide)).trans (fn rfl (by decide)))
          have hKy399 : okF Fvy28 := by unfold okF; omega
          have hMy400 : okMr cs ad gvy28 i (x + 1) Fvy28 r := okMr.upd hM hcvy28 hKy399 (fun f a => hFy385 f (by omega)) hgy384 (hA.mono (by omega)) (fun j a b => by
              exact Or.inl (by rw [hfvy28 _ (by omega)]; rw [egy25, va_up_ne _ _ (by omega)]))
          have h23 : Fvy28 23 = F 23 := ((hFvy28 23 (by decide)).trans (fn rfl (by decide)))
          exact z_iret C hr hlk dX10_count_182 (by decide) (by decide) ⟨F 23, rfl, rfl, rfl, by omega, ⟨_, _, hMy400, by omega⟩, fun j j1 => by rw [hfvy28 _ (by omega)]; rw [egy25, va_up_ne _ _ (by omega)]⟩
    · refine z_if_ne (tgt := 22) C dX10_count_17 (by decide) (by omega) (fun h => absurd h (by omega)) (fun _ => ?_)
      refine z_iconst (z := 0) C dX10_count_20 rfl ?_
      have hgy401 := up_n egy25 ha1 (ne_o (i := i) (c := 1) (d := 0) rfl)
      have hgy402 := (hfvy28 (i + 1) (ne_o (i := i) (c := 1) (d := 0) rfl)).trans hgy401
      have hFy403 : ∀ f, f ≠ 12 → Fvy28 f = F f := fun f n12 => ((hFvy28 f n12).trans ((uZ_n _ _ n12).trans rfl))
      have hey404 : Fvy28 13 = F 13 := ((hFvy28 13 (by decide)).trans (fn rfl (by decide)))
      have hey405 : Fvy28 14 = F 14 := ((hFvy28 14 (by decide)).trans (fn rfl (by decide)))
      have hey406 : Fvy28 15 = F 15 := ((hFvy28 15 (by decide)).trans (fn rfl (by decide)))
      have hey407 : Fvy28 16 = F 16 := ((hFvy28 16 (by decide)).trans (fn rfl (by decide)))
      have hey408 : Fvy28 17 = F 17 := ((hFvy28 17 (by decide)).trans (fn rfl (by decide)))
      have hey409 : Fvy28 18 = F 18 := ((hFvy28 18 (by decide)).trans (fn rfl (by decide)))
      have hey410 : Fvy28 19 = F 19 := ((hFvy28 19 (by decide)).trans (fn rfl (by decide)))
      have hey411 : Fvy28 20 = F 20 := ((hFvy28 20 (by decide)).trans (fn rfl (by decide)))
      have hey412 : Fvy28 23 = F 23 := ((hFvy28 23 (by decide)).trans (fn rfl (by decide)))
      have hey413 : Fvy28 25 = F 25 := ((hFvy28 25 (by decide)).trans (fn rfl (by decide)))
      have hey414 : Fvy28 27 = F 27 := ((hFvy28 27 (by decide)).trans (fn rfl (by decide)))
      have hey415 : Fvy28 28 = F 28 := ((hFvy28 28 (by decide)).trans (fn rfl (by decide)))
      have hey416 : Fvy28 29 = F 29 := ((hFvy28 29 (by decide)).trans (fn rfl (by decide)))
      have hKy417 : okF Fvy28 := by unfold okF; omega
      have hMy418 : okMr cs ad gvy28 i (x + 1) Fvy28 r := okMr.upd hM hcvy28 hKy417 (fun f a => hFy403 f (by omega)) hgy402 (hA.mono (by omega)) (fun j a b => by
          exact Or.inl (by rw [hfvy28 _ (by omega)]; rw [egy25, va_up_ne _ _ (by omega)]))
      have h23 : Fvy28 23 = F 23 := ((hFvy28 23 (by decide)).trans (fn rfl (by decide)))
      exact z_iret C hr hlk dX10_count_21 (by decide) (by decide) ⟨0, rfl, rfl, rfl, by omega, ⟨_, _, hMy418, by omega⟩, fun j j1 => by rw [hfvy28 _ (by omega)]; rw [egy25, va_up_ne _ _ (by omega)]⟩
  · refine z_iconst (z := 1) C dX10_count_13 rfl ?_
    have hey420 : (uZ F 12 (0)) 12 = 0 := (uZ_s _ _ _)
    refine z_cV (As := [.int (zI (0)), .int (zI (1))]) (rest := []) (ci := 12) C (c_X10_right l D A cs tt N ad _ i hN _ hgy26 (by omega) (0) (by omega) (1) (by omega)) (by omega) hay1 hgy26 rfl rfl mv_yX10_right q_1648 hd_yX10_right (by decide) (Nat.le_of_ble_eq_true rfl) (by decide) dX10_count_14 rfl (kI0 fun vy419 gvy419 hvy419 => ?_)
    obtain ⟨hrvy419, ⟨Fvy419, hcvy419, htvy419, hFvy419⟩, hfvy419⟩ := hvy419
    obtain rfl : vy419 = 0 := by omega
    refine z_if_ne (tgt := 22) C dX10_count_17 (by decide) (by omega) (fun h => absurd h (by omega)) (fun _ => ?_)
    refine z_iconst (z := 0) C dX10_count_20 rfl ?_
    have hgy421 := up_n egy25 ha1 (ne_o (i := i) (c := 1) (d := 0) rfl)
    have hgy422 := (hfvy419 (i + 1) (ne_o (i := i) (c := 1) (d := 0) rfl)).trans hgy421
    have hFy423 : ∀ f, f ≠ 12 → Fvy419 f = F f := fun f n12 => ((hFvy419 f n12).trans ((uZ_n _ _ n12).trans rfl))
    have hey424 : Fvy419 13 = F 13 := ((hFvy419 13 (by decide)).trans (fn rfl (by decide)))
    have hey425 : Fvy419 14 = F 14 := ((hFvy419 14 (by decide)).trans (fn rfl (by decide)))
    have hey426 : Fvy419 15 = F 15 := ((hFvy419 15 (by decide)).trans (fn rfl (by decide)))
    have hey427 : Fvy419 16 = F 16 := ((hFvy419 16 (by decide)).trans (fn rfl (by decide)))
    have hey428 : Fvy419 17 = F 17 := ((hFvy419 17 (by decide)).trans (fn rfl (by decide)))
    have hey429 : Fvy419 18 = F 18 := ((hFvy419 18 (by decide)).trans (fn rfl (by decide)))
    have hey430 : Fvy419 19 = F 19 := ((hFvy419 19 (by decide)).trans (fn rfl (by decide)))
    have hey431 : Fvy419 20 = F 20 := ((hFvy419 20 (by decide)).trans (fn rfl (by decide)))
    have hey432 : Fvy419 23 = F 23 := ((hFvy419 23 (by decide)).trans (fn rfl (by decide)))
    have hey433 : Fvy419 25 = F 25 := ((hFvy419 25 (by decide)).trans (fn rfl (by decide)))
    have hey434 : Fvy419 27 = F 27 := ((hFvy419 27 (by decide)).trans (fn rfl (by decide)))
    have hey435 : Fvy419 28 = F 28 := ((hFvy419 28 (by decide)).trans (fn rfl (by decide)))
    have hey436 : Fvy419 29 = F 29 := ((hFvy419 29 (by decide)).trans (fn rfl (by decide)))
    have hKy437 : okF Fvy419 := by unfold okF; omega
    have hMy438 : okMr cs ad gvy419 i (x + 1) Fvy419 r := okMr.upd hM hcvy419 hKy437 (fun f a => hFy423 f (by omega)) hgy422 (hA.mono (by omega)) (fun j a b => by
        exact Or.inl (by rw [hfvy419 _ (by omega)]; rw [egy25, va_up_ne _ _ (by omega)]))
    have h23 : Fvy419 23 = F 23 := ((hFvy419 23 (by decide)).trans (fn rfl (by decide)))
    exact z_iret C hr hlk dX10_count_21 (by decide) (by decide) ⟨0, rfl, rfl, rfl, by omega, ⟨_, _, hMy438, by omega⟩, fun j j1 => by rw [hfvy419 _ (by omega)]; rw [egy25, va_up_ne _ _ (by omega)]⟩

set_option maxRecDepth 100000 in
set_option maxHeartbeats 4000000 in
theorem c_X10_forecast (l : Launch) (D : va_G) (A : Nat → Prop) (cs : Nat → ClassId) (tt : Nat) (N : Nat) (ad : Nat → Nat) (g : Nat → va_E) (i : Nat) (hN : i + 30 ≤ N) (x : Int) (hx : 0 ≤ x ∧ x ≤ 512) (F r : Nat → Int) (hM : okMr cs ad g i x F r) (z : Int) (hz : -2147483648 ≤ z ∧ z ≤ 2147483647) (z1 : Int) (hz1 : -2147483648 ≤ z1 ∧ z1 ≤ 2147483647) : zM l yX10_forecast cX10_forecast 3 (some .int) ({ frames := 2, cells := 0, slots := 0, locals := 120 } : Room) D A cs tt N ad g [.ref (ad i), .int (zI (z)), .int (zI (z1))] (rI0 N ad fun q g' => (-2147483648 ≤ q ∧ q ≤ 2147483647) ∧ (∃ F' r' : Nat → Int, okMr cs ad g' i (x + 1) F' r' ∧ F' 23 = F 23) ∧ ∀ j, j < i ∨ i + 30 ≤ j → g' j = g j) := by
  obtain ⟨hg, ⟨⟨e13, e14, e25, e27, e29⟩, k15, k16, k17, k18, k19, k20, k23⟩, hRD, hTx, hA, st, op, ai, fa, mu, tb, ns, nh, nd, rf, pi, tp, te, ki, li, ok1, ok2, fo, dd, dps, ⟨ha1, ha2, ha3, ha4, ha5, ha6, ha7, ha8, ha9, ha10, ha11, ha12, ha13, ha14, ha15, ha24, ha25, ha26, ha27, ha28, ha29⟩, hEv, hPt, hns, htp⟩ := id hM
  obtain ⟨-, hop, hai, hfa, hT, hT1⟩ := id hEv
  have hay1 : zAt ad (i) (ad i) := rfl
  have hay2 : zAt ad (i + 1) (ad (i + 1)) := rfl
  have hay3 : zAt ad (i + 2) (ad (i + 2)) := rfl
  have hay4 : zAt ad (i + 3) (ad (i + 3)) := rfl
  have hay5 : zAt ad (i + 4) (ad (i + 4)) := rfl
  have hay6 : zAt ad (i + 5) (ad (i + 5)) := rfl
  have hay7 : zAt ad (i + 6) (ad (i + 6)) := rfl
  have hay8 : zAt ad (i + 7) (ad (i + 7)) := rfl
  have hay9 : zAt ad (i + 8) (ad (i + 8)) := rfl
  have hay10 : zAt ad (i + 9) (ad (i + 9)) := rfl
  have hay11 : zAt ad (i + 10) (ad (i + 10)) := rfl
  have hay12 : zAt ad (i + 11) (ad (i + 11)) := rfl
  have hay13 : zAt ad (i + 12) (ad (i + 12)) := rfl
  have hay14 : zAt ad (i + 13) (ad (i + 13)) := rfl
  have hay15 : zAt ad (i + 14) (ad (i + 14)) := rfl
  have hay16 : zAt ad (i + 15) (ad (i + 15)) := rfl
  have hay17 : zAt ad (i + 24) (ad (i + 24)) := rfl
  have hay18 : zAt ad (i + 25) (ad (i + 25)) := rfl
  have hay19 : zAt ad (i + 26) (ad (i + 26)) := rfl
  have hay20 : zAt ad (i + 27) (ad (i + 27)) := rfl
  have hay21 : zAt ad (i + 28) (ad (i + 28)) := rfl
  have hay22 : zAt ad (i + 29) (ad (i + 29)) := rfl
  obtain ⟨⟨hsyy23, htyy23, hnyy23, hpyy23⟩, hlyy23⟩ := okA.at0 hA
  simp only [Nat.zero_add] at hsyy23 hnyy23 hpyy23
  have hmn : ∀ s, s < 4 → 0 ≤ r (6 + 86 * s) ∧ r (6 + 86 * s) ≤ 12 := fun s hs => (hsyy23 s hs).1
  have h5 : 0 ≤ r 5 ∧ r 5 ≤ 6 := hpyy23
  refine z_of (by decide) (Nat.le_of_ble_eq_true rfl) ?_
  intro pZ eZ sZ mZ below meth cZ C hr hlk hnm
  refine z_lv (lv' := [(0, .ref (ad i)), (1, .int (zI (z))), (2, .int (zI (z1)))]) [0, 1, 2] rfl ?_
  refine z_aload_n C 0 dX10_forecast_0 rfl ?_
  refine z_iconst (z := 0) C dX10_forecast_1 rfl ?_
  refine z_put (fs' := mF ad (i) (uZ F 12 (0))) C (by omega) hay1 hg tyX10 tyX10_ok nmX10 rfl inA_X10 12 (by decide) q_1471 rfl rfl rfl rfl (Nat.le_of_ble_eq_true rfl) rfl dX10_forecast_2 (fun gy24 egy25 => ?_)
  have hgy26 := up_s egy25
  refine z_aload_n C 0 dX10_forecast_5 rfl ?_
  refine z_iload_n C 1 dX10_forecast_6 rfl ?_
  refine z_iconst (z := 0) C dX10_forecast_7 rfl ?_
  refine z_aload_n C 0 dX10_forecast_8 rfl ?_
  refine z_get (v := .int (zI (F 14))) C (by omega) hay1 hgy26 rfl inA_X10 14 (by decide) q_1473 rfl (fv (F := (uZ F 12 (0))) (f := 14) (fn rfl (by decide))) dX10_forecast_9 ?_
  refine z_iconst (z := 1) C dX10_forecast_12 rfl ?_
  refine z_isub C dX10_forecast_13 ?_
  refine z_cS (As := [.int (zI (z)), .int (zI (0)), .int (zI ((F 14) - 1))]) (rest := [.ref (ad i)]) C (c_X10_within l D A cs tt N ad _ (z) (by omega) (0) (by omega) ((F 14) - 1) (by omega)) ms_yX10_within q_1686 hd_yX10_within (by decide) (Nat.le_of_ble_eq_true rfl) (by decide) dX10_forecast_14 rfl (kI0 fun vy27 gvy27 hvy27 => ?_)
  obtain ⟨hvy27, rfl⟩ := hvy27
  rcases hvy27 with ⟨rfl, hxvy27⟩ | ⟨rfl, hxvy27⟩
  · refine z_if_eq (tgt := 33) C dX10_forecast_17 (by decide) (by omega) (fun h => absurd h (by omega)) (fun _ => ?_)
    refine z_iload_n C 2 dX10_forecast_20 rfl ?_
    refine z_iconst (z := 0) C dX10_forecast_21 rfl ?_
    refine z_iconst (z := 2) C dX10_forecast_22 rfl ?_
    refine z_cS (As := [.int (zI (z1)), .int (zI (0)), .int (zI (2))]) (rest := [.ref (ad i)]) C (c_X10_within l D A cs tt N ad _ (z1) (by omega) (0) (by omega) (2) (by omega)) ms_yX10_within q_1686 hd_yX10_within (by decide) (Nat.le_of_ble_eq_true rfl) (by decide) dX10_forecast_23 rfl (kI0 fun vy28 gvy28 hvy28 => ?_)
    obtain ⟨hvy28, rfl⟩ := hvy28
    rcases hvy28 with ⟨rfl, hxvy28⟩ | ⟨rfl, hxvy28⟩
    · refine z_if_eq (tgt := 33) C dX10_forecast_26 (by decide) (by omega) (fun h => absurd h (by omega)) (fun _ => ?_)
      refine z_iconst (z := 1) C dX10_forecast_29 rfl ?_
      refine z_goto (tgt := 34) C dX10_forecast_30 (by decide) ?_
      refine z_iconst (z := 1) C dX10_forecast_34 rfl ?_
      have hey30 : (uZ F 12 (0)) 12 = 0 := (uZ_s _ _ _)
      refine z_cV (As := [.int (zI (1)), .int (zI (1))]) (rest := []) (ci := 12) C (c_X10_right l D A cs tt N ad _ i hN _ hgy26 (by omega) (1) (by omega) (1) (by omega)) (by omega) hay1 hgy26 rfl rfl mv_yX10_right q_1648 hd_yX10_right (by decide) (Nat.le_of_ble_eq_true rfl) (by decide) dX10_forecast_35 rfl (kI0 fun vy29 gvy29 hvy29 => ?_)
      obtain ⟨hrvy29, ⟨Fvy29, hcvy29, htvy29, hFvy29⟩, hfvy29⟩ := hvy29
      rcases (show vy29 = 1 ∨ vy29 = 0 by omega) with rfl | rfl
      · refine z_if_ne (tgt := 43) C dX10_forecast_38 (by decide) (by omega) (fun _ => ?_) (fun h => absurd h (by omega))
        refine z_iload_n C 2 dX10_forecast_43 rfl ?_
        refine z_if_ne (tgt := 56) C dX10_forecast_44 (by decide) (by omega) (fun hby31 => ?_) (fun hby31 => ?_)
        · refine z_iload_n C 2 dX10_forecast_56 rfl ?_
          refine z_iconst (z := 1) C dX10_forecast_57 rfl ?_
          refine z_icmp_ne (tgt := 70) C dX10_forecast_58 (by decide) (by omega) (by omega) (fun hby32 => ?_) (fun hby32 => ?_)
          · refine z_aload_n C 0 dX10_forecast_70 rfl ?_
            refine z_get (v := .ref (ad (i + 6))) C (by omega) hay1 hcvy29 rfl inA_X10 5 (by decide) q_1464 rfl rfl dX10_forecast_71 ?_
            refine z_iload_n C 1 dX10_forecast_74 rfl ?_
            have hgy33 := up_n egy25 ha6 (ne_o (i := i) (c := 6) (d := 0) rfl)
            have hgy34 := (hfvy29 (i + 6) (ne_o (i := i) (c := 6) (d := 0) rfl)).trans hgy33
            refine z_iald C (by omega) hay7 hgy34 ((z).toNat) (by omega) (by omega) (by decide) dX10_forecast_75 ?_
            obtain ⟨xy35, exy36, hxy37⟩ := zI_of (zI (mu ((z).toNat)))
            rw [exy36]
            have hgy38 := up_n egy25 ha1 (ne_o (i := i) (c := 1) (d := 0) rfl)
            have hgy39 := (hfvy29 (i + 1) (ne_o (i := i) (c := 1) (d := 0) rfl)).trans hgy38
            have hFy40 : ∀ f, f ≠ 12 → Fvy29 f = F f := fun f n12 => ((hFvy29 f n12).trans ((uZ_n _ _ n12).trans rfl))
            have hey41 : Fvy29 13 = F 13 := ((hFvy29 13 (by decide)).trans (fn rfl (by decide)))
            have hey42 : Fvy29 14 = F 14 := ((hFvy29 14 (by decide)).trans (fn rfl (by decide)))
            have hey43 : Fvy29 15 = F 15 := ((hFvy29 15 (by decide)).trans (fn rfl (by decide)))
            have hey44 : Fvy29 16 = F 16 := ((hFvy29 16 (by decide)).trans (fn rfl (by decide)))
            have hey45 : Fvy29 17 = F 17 := ((hFvy29 17 (by decide)).trans (fn rfl (by decide)))
            have hey46 : Fvy29 18 = F 18 := ((hFvy29 18 (by decide)).trans (fn rfl (by decide)))
            have hey47 : Fvy29 19 = F 19 := ((hFvy29 19 (by decide)).trans (fn rfl (by decide)))
            have hey48 : Fvy29 20 = F 20 := ((hFvy29 20 (by decide)).trans (fn rfl (by decide)))
            have hey49 : Fvy29 23 = F 23 := ((hFvy29 23 (by decide)).trans (fn rfl (by decide)))
            have hey50 : Fvy29 25 = F 25 := ((hFvy29 25 (by decide)).trans (fn rfl (by decide)))
            have hey51 : Fvy29 27 = F 27 := ((hFvy29 27 (by decide)).trans (fn rfl (by decide)))
            have hey52 : Fvy29 28 = F 28 := ((hFvy29 28 (by decide)).trans (fn rfl (by decide)))
            have hey53 : Fvy29 29 = F 29 := ((hFvy29 29 (by decide)).trans (fn rfl (by decide)))
            have hKy54 : okF Fvy29 := by unfold okF; omega
            have hMy55 : okMr cs ad gvy29 i (x + 1) Fvy29 r := okMr.upd hM hcvy29 hKy54 (fun f a => hFy40 f (by omega)) hgy39 (hA.mono (by omega)) (fun j a b => by
                exact Or.inl (by rw [hfvy29 _ (by omega)]; rw [egy25, va_up_ne _ _ (by omega)]))
            have h23 : Fvy29 23 = F 23 := ((hFvy29 23 (by decide)).trans (fn rfl (by decide)))
            exact z_iret C hr hlk dX10_forecast_76 (by decide) (by decide) ⟨xy35, rfl, rfl, rfl, by omega, ⟨_, _, hMy55, by omega⟩, fun j j1 => by rw [hfvy29 _ (by omega)]; rw [egy25, va_up_ne _ _ (by omega)]⟩
          · refine z_aload_n C 0 dX10_forecast_61 rfl ?_
            refine z_get (v := .ref (ad (i + 5))) C (by omega) hay1 hcvy29 rfl inA_X10 4 (by decide) q_1463 rfl rfl dX10_forecast_62 ?_
            refine z_iload_n C 1 dX10_forecast_65 rfl ?_
            have hgy56 := up_n egy25 ha5 (ne_o (i := i) (c := 5) (d := 0) rfl)
            have hgy57 := (hfvy29 (i + 5) (ne_o (i := i) (c := 5) (d := 0) rfl)).trans hgy56
            refine z_iald C (by omega) hay6 hgy57 ((z).toNat) (by omega) (by omega) (by decide) dX10_forecast_66 ?_
            refine z_goto (tgt := 76) C dX10_forecast_67 (by decide) ?_
            obtain ⟨xy58, exy59, hxy60⟩ := zI_of (zI (fa ((z).toNat)))
            rw [exy59]
            have hgy61 := up_n egy25 ha1 (ne_o (i := i) (c := 1) (d := 0) rfl)
            have hgy62 := (hfvy29 (i + 1) (ne_o (i := i) (c := 1) (d := 0) rfl)).trans hgy61
            have hFy63 : ∀ f, f ≠ 12 → Fvy29 f = F f := fun f n12 => ((hFvy29 f n12).trans ((uZ_n _ _ n12).trans rfl))
            have hey64 : Fvy29 13 = F 13 := ((hFvy29 13 (by decide)).trans (fn rfl (by decide)))
            have hey65 : Fvy29 14 = F 14 := ((hFvy29 14 (by decide)).trans (fn rfl (by decide)))
            have hey66 : Fvy29 15 = F 15 := ((hFvy29 15 (by decide)).trans (fn rfl (by decide)))
            have hey67 : Fvy29 16 = F 16 := ((hFvy29 16 (by decide)).trans (fn rfl (by decide)))
            have hey68 : Fvy29 17 = F 17 := ((hFvy29 17 (by decide)).trans (fn rfl (by decide)))
            have hey69 : Fvy29 18 = F 18 := ((hFvy29 18 (by decide)).trans (fn rfl (by decide)))
            have hey70 : Fvy29 19 = F 19 := ((hFvy29 19 (by decide)).trans (fn rfl (by decide)))
            have hey71 : Fvy29 20 = F 20 := ((hFvy29 20 (by decide)).trans (fn rfl (by decide)))
            have hey72 : Fvy29 23 = F 23 := ((hFvy29 23 (by decide)).trans (fn rfl (by decide)))
            have hey73 : Fvy29 25 = F 25 := ((hFvy29 25 (by decide)).trans (fn rfl (by decide)))
            have hey74 : Fvy29 27 = F 27 := ((hFvy29 27 (by decide)).trans (fn rfl (by decide)))
            have hey75 : Fvy29 28 = F 28 := ((hFvy29 28 (by decide)).trans (fn rfl (by decide)))
            have hey76 : Fvy29 29 = F 29 := ((hFvy29 29 (by decide)).trans (fn rfl (by decide)))
            have hKy77 : okF Fvy29 := by unfold okF; omega
            have hMy78 : okMr cs ad gvy29 i (x + 1) Fvy29 r := okMr.upd hM hcvy29 hKy77 (fun f a => hFy63 f (by omega)) hgy62 (hA.mono (by omega)) (fun j a b => by
                exact Or.inl (by rw [hfvy29 _ (by omega)]; rw [egy25, va_up_ne _ _ (by omega)]))
            have h23 : Fvy29 23 = F 23 := ((hFvy29 23 (by decide)).trans (fn rfl (by decide)))
            exact z_iret C hr hlk dX10_forecast_76 (by decide) (by decide) ⟨xy58, rfl, rfl, rfl, by omega, ⟨_, _, hMy78, by omega⟩, fun j j1 => by rw [hfvy29 _ (by omega)]; rw [egy25, va_up_ne _ _ (by omega)]⟩
        · refine z_aload_n C 0 dX10_forecast_47 rfl ?_
          refine z_get (v := .ref (ad (i + 4))) C (by omega) hay1 hcvy29 rfl inA_X10 3 (by decide) q_1462 rfl rfl dX10_forecast_48 ?_
          refine z_iload_n C 1 dX10_forecast_51 rfl ?_
          have hgy79 := up_n egy25 ha4 (ne_o (i := i) (c := 4) (d := 0) rfl)
          have hgy80 := (hfvy29 (i + 4) (ne_o (i := i) (c := 4) (d := 0) rfl)).trans hgy79
          refine z_iald C (by omega) hay5 hgy80 ((z).toNat) (by omega) (by omega) (by decide) dX10_forecast_52 ?_
          have hrfy81 := hai ((z).toNat) (by omega)
          refine z_goto (tgt := 76) C dX10_forecast_53 (by decide) ?_
          have hgy82 := up_n egy25 ha1 (ne_o (i := i) (c := 1) (d := 0) rfl)
          have hgy83 := (hfvy29 (i + 1) (ne_o (i := i) (c := 1) (d := 0) rfl)).trans hgy82
          have hFy84 : ∀ f, f ≠ 12 → Fvy29 f = F f := fun f n12 => ((hFvy29 f n12).trans ((uZ_n _ _ n12).trans rfl))
          have hey85 : Fvy29 13 = F 13 := ((hFvy29 13 (by decide)).trans (fn rfl (by decide)))
          have hey86 : Fvy29 14 = F 14 := ((hFvy29 14 (by decide)).trans (fn rfl (by decide)))
          have hey87 : Fvy29 15 = F 15 := ((hFvy29 15 (by decide)).trans (fn rfl (by decide)))
          have hey88 : Fvy29 16 = F 16 := ((hFvy29 16 (by decide)).trans (fn rfl (by decide)))
          have hey89 : Fvy29 17 = F 17 := ((hFvy29 17 (by decide)).trans (fn rfl (by decide)))
          have hey90 : Fvy29 18 = F 18 := ((hFvy29 18 (by decide)).trans (fn rfl (by decide)))
          have hey91 : Fvy29 19 = F 19 := ((hFvy29 19 (by decide)).trans (fn rfl (by decide)))
          have hey92 : Fvy29 20 = F 20 := ((hFvy29 20 (by decide)).trans (fn rfl (by decide)))
          have hey93 : Fvy29 23 = F 23 := ((hFvy29 23 (by decide)).trans (fn rfl (by decide)))
          have hey94 : Fvy29 25 = F 25 := ((hFvy29 25 (by decide)).trans (fn rfl (by decide)))
          have hey95 : Fvy29 27 = F 27 := ((hFvy29 27 (by decide)).trans (fn rfl (by decide)))
          have hey96 : Fvy29 28 = F 28 := ((hFvy29 28 (by decide)).trans (fn rfl (by decide)))
          have hey97 : Fvy29 29 = F 29 := ((hFvy29 29 (by decide)).trans (fn rfl (by decide)))
          have hKy98 : okF Fvy29 := by unfold okF; omega
          have hMy99 : okMr cs ad gvy29 i (x + 1) Fvy29 r := okMr.upd hM hcvy29 hKy98 (fun f a => hFy84 f (by omega)) hgy83 (hA.mono (by omega)) (fun j a b => by
              exact Or.inl (by rw [hfvy29 _ (by omega)]; rw [egy25, va_up_ne _ _ (by omega)]))
          have h23 : Fvy29 23 = F 23 := ((hFvy29 23 (by decide)).trans (fn rfl (by decide)))
          exact z_iret C hr hlk dX10_forecast_76 (by decide) (by decide) ⟨ai ((z).toNat), rfl, rfl, rfl, by omega, ⟨_, _, hMy99, by omega⟩, fun j j1 => by rw [hfvy29 _ (by omega)]; rw [egy25, va_up_ne _ _ (by omega)]⟩
      · refine z_if_ne (tgt := 43) C dX10_forecast_38 (by decide) (by omega) (fun h => absurd h (by omega)) (fun _ => ?_)
        refine z_iconst (z := 0) C dX10_forecast_41 rfl ?_
        have hgy100 := up_n egy25 ha1 (ne_o (i := i) (c := 1) (d := 0) rfl)
        have hgy101 := (hfvy29 (i + 1) (ne_o (i := i) (c := 1) (d := 0) rfl)).trans hgy100
        have hFy102 : ∀ f, f ≠ 12 → Fvy29 f = F f := fun f n12 => ((hFvy29 f n12).trans ((uZ_n _ _ n12).trans rfl))
        have hey103 : Fvy29 13 = F 13 := ((hFvy29 13 (by decide)).trans (fn rfl (by decide)))
        have hey104 : Fvy29 14 = F 14 := ((hFvy29 14 (by decide)).trans (fn rfl (by decide)))
        have hey105 : Fvy29 15 = F 15 := ((hFvy29 15 (by decide)).trans (fn rfl (by decide)))
        have hey106 : Fvy29 16 = F 16 := ((hFvy29 16 (by decide)).trans (fn rfl (by decide)))
        have hey107 : Fvy29 17 = F 17 := ((hFvy29 17 (by decide)).trans (fn rfl (by decide)))
        have hey108 : Fvy29 18 = F 18 := ((hFvy29 18 (by decide)).trans (fn rfl (by decide)))
        have hey109 : Fvy29 19 = F 19 := ((hFvy29 19 (by decide)).trans (fn rfl (by decide)))
        have hey110 : Fvy29 20 = F 20 := ((hFvy29 20 (by decide)).trans (fn rfl (by decide)))
        have hey111 : Fvy29 23 = F 23 := ((hFvy29 23 (by decide)).trans (fn rfl (by decide)))
        have hey112 : Fvy29 25 = F 25 := ((hFvy29 25 (by decide)).trans (fn rfl (by decide)))
        have hey113 : Fvy29 27 = F 27 := ((hFvy29 27 (by decide)).trans (fn rfl (by decide)))
        have hey114 : Fvy29 28 = F 28 := ((hFvy29 28 (by decide)).trans (fn rfl (by decide)))
        have hey115 : Fvy29 29 = F 29 := ((hFvy29 29 (by decide)).trans (fn rfl (by decide)))
        have hKy116 : okF Fvy29 := by unfold okF; omega
        have hMy117 : okMr cs ad gvy29 i (x + 1) Fvy29 r := okMr.upd hM hcvy29 hKy116 (fun f a => hFy102 f (by omega)) hgy101 (hA.mono (by omega)) (fun j a b => by
            exact Or.inl (by rw [hfvy29 _ (by omega)]; rw [egy25, va_up_ne _ _ (by omega)]))
        have h23 : Fvy29 23 = F 23 := ((hFvy29 23 (by decide)).trans (fn rfl (by decide)))
        exact z_iret C hr hlk dX10_forecast_42 (by decide) (by decide) ⟨0, rfl, rfl, rfl, by omega, ⟨_, _, hMy117, by omega⟩, fun j j1 => by rw [hfvy29 _ (by omega)]; rw [egy25, va_up_ne _ _ (by omega)]⟩
    · refine z_if_eq (tgt := 33) C dX10_forecast_26 (by decide) (by omega) (fun _ => ?_) (fun h => absurd h (by omega))
      refine z_iconst (z := 0) C dX10_forecast_33 rfl ?_
      refine z_iconst (z := 1) C dX10_forecast_34 rfl ?_
      have hey119 : (uZ F 12 (0)) 12 = 0 := (uZ_s _ _ _)
      refine z_cV (As := [.int (zI (0)), .int (zI (1))]) (rest := []) (ci := 12) C (c_X10_right l D A cs tt N ad _ i hN _ hgy26 (by omega) (0) (by omega) (1) (by omega)) (by omega) hay1 hgy26 rfl rfl mv_yX10_right q_1648 hd_yX10_right (by decide) (Nat.le_of_ble_eq_true rfl) (by decide) dX10_forecast_35 rfl (kI0 fun vy118 gvy118 hvy118 => ?_)
      obtain ⟨hrvy118, ⟨Fvy118, hcvy118, htvy118, hFvy118⟩, hfvy118⟩ := hvy118
      obtain rfl : vy118 = 0 := by omega
      refine z_if_ne (tgt := 43) C dX10_forecast_38 (by decide) (by omega) (fun h => absurd h (by omega)) (fun _ => ?_)
      refine z_iconst (z := 0) C dX10_forecast_41 rfl ?_
      have hgy120 := up_n egy25 ha1 (ne_o (i := i) (c := 1) (d := 0) rfl)
      have hgy121 := (hfvy118 (i + 1) (ne_o (i := i) (c := 1) (d := 0) rfl)).trans hgy120
      have hFy122 : ∀ f, f ≠ 12 → Fvy118 f = F f := fun f n12 => ((hFvy118 f n12).trans ((uZ_n _ _ n12).trans rfl))
      have hey123 : Fvy118 13 = F 13 := ((hFvy118 13 (by decide)).trans (fn rfl (by decide)))
      have hey124 : Fvy118 14 = F 14 := ((hFvy118 14 (by decide)).trans (fn rfl (by decide)))
      have hey125 : Fvy118 15 = F 15 := ((hFvy118 15 (by decide)).trans (fn rfl (by decide)))
      have hey126 : Fvy118 16 = F 16 := ((hFvy118 16 (by decide)).trans (fn rfl (by decide)))
      have hey127 : Fvy118 17 = F 17 := ((hFvy118 17 (by decide)).trans (fn rfl (by decide)))
      have hey128 : Fvy118 18 = F 18 := ((hFvy118 18 (by decide)).trans (fn rfl (by decide)))
      have hey129 : Fvy118 19 = F 19 := ((hFvy118 19 (by decide)).trans (fn rfl (by decide)))
      have hey130 : Fvy118 20 = F 20 := ((hFvy118 20 (by decide)).trans (fn rfl (by decide)))
      have hey131 : Fvy118 23 = F 23 := ((hFvy118 23 (by decide)).trans (fn rfl (by decide)))
      have hey132 : Fvy118 25 = F 25 := ((hFvy118 25 (by decide)).trans (fn rfl (by decide)))
      have hey133 : Fvy118 27 = F 27 := ((hFvy118 27 (by decide)).trans (fn rfl (by decide)))
      have hey134 : Fvy118 28 = F 28 := ((hFvy118 28 (by decide)).trans (fn rfl (by decide)))
      have hey135 : Fvy118 29 = F 29 := ((hFvy118 29 (by decide)).trans (fn rfl (by decide)))
      have hKy136 : okF Fvy118 := by unfold okF; omega
      have hMy137 : okMr cs ad gvy118 i (x + 1) Fvy118 r := okMr.upd hM hcvy118 hKy136 (fun f a => hFy122 f (by omega)) hgy121 (hA.mono (by omega)) (fun j a b => by
          exact Or.inl (by rw [hfvy118 _ (by omega)]; rw [egy25, va_up_ne _ _ (by omega)]))
      have h23 : Fvy118 23 = F 23 := ((hFvy118 23 (by decide)).trans (fn rfl (by decide)))
      exact z_iret C hr hlk dX10_forecast_42 (by decide) (by decide) ⟨0, rfl, rfl, rfl, by omega, ⟨_, _, hMy137, by omega⟩, fun j j1 => by rw [hfvy118 _ (by omega)]; rw [egy25, va_up_ne _ _ (by omega)]⟩
  · refine z_if_eq (tgt := 33) C dX10_forecast_17 (by decide) (by omega) (fun _ => ?_) (fun h => absurd h (by omega))
    refine z_iconst (z := 0) C dX10_forecast_33 rfl ?_
    refine z_iconst (z := 1) C dX10_forecast_34 rfl ?_
    have hey139 : (uZ F 12 (0)) 12 = 0 := (uZ_s _ _ _)
    refine z_cV (As := [.int (zI (0)), .int (zI (1))]) (rest := []) (ci := 12) C (c_X10_right l D A cs tt N ad _ i hN _ hgy26 (by omega) (0) (by omega) (1) (by omega)) (by omega) hay1 hgy26 rfl rfl mv_yX10_right q_1648 hd_yX10_right (by decide) (Nat.le_of_ble_eq_true rfl) (by decide) dX10_forecast_35 rfl (kI0 fun vy138 gvy138 hvy138 => ?_)
    obtain ⟨hrvy138, ⟨Fvy138, hcvy138, htvy138, hFvy138⟩, hfvy138⟩ := hvy138
    obtain rfl : vy138 = 0 := by omega
    refine z_if_ne (tgt := 43) C dX10_forecast_38 (by decide) (by omega) (fun h => absurd h (by omega)) (fun _ => ?_)
    refine z_iconst (z := 0) C dX10_forecast_41 rfl ?_
    have hgy140 := up_n egy25 ha1 (ne_o (i := i) (c := 1) (d := 0) rfl)
    have hgy141 := (hfvy138 (i + 1) (ne_o (i := i) (c := 1) (d := 0) rfl)).trans hgy140
    have hFy142 : ∀ f, f ≠ 12 → Fvy138 f = F f := fun f n12 => ((hFvy138 f n12).trans ((uZ_n _ _ n12).trans rfl))
    have hey143 : Fvy138 13 = F 13 := ((hFvy138 13 (by decide)).trans (fn rfl (by decide)))
    have hey144 : Fvy138 14 = F 14 := ((hFvy138 14 (by decide)).trans (fn rfl (by decide)))
    have hey145 : Fvy138 15 = F 15 := ((hFvy138 15 (by decide)).trans (fn rfl (by decide)))
    have hey146 : Fvy138 16 = F 16 := ((hFvy138 16 (by decide)).trans (fn rfl (by decide)))
    have hey147 : Fvy138 17 = F 17 := ((hFvy138 17 (by decide)).trans (fn rfl (by decide)))
    have hey148 : Fvy138 18 = F 18 := ((hFvy138 18 (by decide)).trans (fn rfl (by decide)))
    have hey149 : Fvy138 19 = F 19 := ((hFvy138 19 (by decide)).trans (fn rfl (by decide)))
    have hey150 : Fvy138 20 = F 20 := ((hFvy138 20 (by decide)).trans (fn rfl (by decide)))
    have hey151 : Fvy138 23 = F 23 := ((hFvy138 23 (by decide)).trans (fn rfl (by decide)))
    have hey152 : Fvy138 25 = F 25 := ((hFvy138 25 (by decide)).trans (fn rfl (by decide)))
    have hey153 : Fvy138 27 = F 27 := ((hFvy138 27 (by decide)).trans (fn rfl (by decide)))
    have hey154 : Fvy138 28 = F 28 := ((hFvy138 28 (by decide)).trans (fn rfl (by decide)))
    have hey155 : Fvy138 29 = F 29 := ((hFvy138 29 (by decide)).trans (fn rfl (by decide)))
    have hKy156 : okF Fvy138 := by unfold okF; omega
    have hMy157 : okMr cs ad gvy138 i (x + 1) Fvy138 r := okMr.upd hM hcvy138 hKy156 (fun f a => hFy142 f (by omega)) hgy141 (hA.mono (by omega)) (fun j a b => by
        exact Or.inl (by rw [hfvy138 _ (by omega)]; rw [egy25, va_up_ne _ _ (by omega)]))
    have h23 : Fvy138 23 = F 23 := ((hFvy138 23 (by decide)).trans (fn rfl (by decide)))
    exact z_iret C hr hlk dX10_forecast_42 (by decide) (by decide) ⟨0, rfl, rfl, rfl, by omega, ⟨_, _, hMy157, by omega⟩, fun j j1 => by rw [hfvy138 _ (by omega)]; rw [egy25, va_up_ne _ _ (by omega)]⟩

set_option maxRecDepth 100000 in
set_option maxHeartbeats 4000000 in
theorem c_X10_slope_a (l : Launch) (D : va_G) (A : Nat → Prop) (cs : Nat → ClassId) (tt : Nat) (N : Nat) (ad : Nat → Nat) (g : Nat → va_E) (i : Nat) (hN : i + 30 ≤ N) (x : Int) (hx : 0 ≤ x ∧ x ≤ 512) (F r : Nat → Int) (hM : okMr cs ad g i x F r) (n : Nat) (hn4 : n < 4) (z1 : Int) (hz1 : -2147483648 ≤ z1 ∧ z1 ≤ 2147483647) : zM l yX10_slope cX10_slope 3 (some .int) ({ frames := 11, cells := 0, slots := 0, locals := 660 } : Room) D A cs tt N ad g [.ref (ad i), .int (zI ((n : Int))), .int (zI (z1))] (rI0 N ad fun q g' => (-2147483648 ≤ q ∧ q ≤ 2147483647) ∧ (∃ F' r' : Nat → Int, okMr cs ad g' i (x + 1) F' r' ∧ F' 23 = F 23) ∧ ∀ j, j < i ∨ i + 30 ≤ j → g' j = g j) := by
  obtain ⟨hg, ⟨⟨e13, e14, e25, e27, e29⟩, k15, k16, k17, k18, k19, k20, k23⟩, hRD, hTx, hA, st, op, ai, fa, mu, tb, ns, nh, nd, rf, pi, tp, te, ki, li, ok1, ok2, fo, dd, dps, ⟨ha1, ha2, ha3, ha4, ha5, ha6, ha7, ha8, ha9, ha10, ha11, ha12, ha13, ha14, ha15, ha24, ha25, ha26, ha27, ha28, ha29⟩, hEv, hPt, hns, htp⟩ := id hM
  obtain ⟨-, hop, hai, hfa, hT, hT1⟩ := id hEv
  have hay1 : zAt ad (i) (ad i) := rfl
  have hay2 : zAt ad (i + 1) (ad (i + 1)) := rfl
  have hay3 : zAt ad (i + 2) (ad (i + 2)) := rfl
  have hay4 : zAt ad (i + 3) (ad (i + 3)) := rfl
  have hay5 : zAt ad (i + 4) (ad (i + 4)) := rfl
  have hay6 : zAt ad (i + 5) (ad (i + 5)) := rfl
  have hay7 : zAt ad (i + 6) (ad (i + 6)) := rfl
  have hay8 : zAt ad (i + 7) (ad (i + 7)) := rfl
  have hay9 : zAt ad (i + 8) (ad (i + 8)) := rfl
  have hay10 : zAt ad (i + 9) (ad (i + 9)) := rfl
  have hay11 : zAt ad (i + 10) (ad (i + 10)) := rfl
  have hay12 : zAt ad (i + 11) (ad (i + 11)) := rfl
  have hay13 : zAt ad (i + 12) (ad (i + 12)) := rfl
  have hay14 : zAt ad (i + 13) (ad (i + 13)) := rfl
  have hay15 : zAt ad (i + 14) (ad (i + 14)) := rfl
  have hay16 : zAt ad (i + 15) (ad (i + 15)) := rfl
  have hay17 : zAt ad (i + 24) (ad (i + 24)) := rfl
  have hay18 : zAt ad (i + 25) (ad (i + 25)) := rfl
  have hay19 : zAt ad (i + 26) (ad (i + 26)) := rfl
  have hay20 : zAt ad (i + 27) (ad (i + 27)) := rfl
  have hay21 : zAt ad (i + 28) (ad (i + 28)) := rfl
  have hay22 : zAt ad (i + 29) (ad (i + 29)) := rfl
  obtain ⟨⟨hsyy23, htyy23, hnyy23, hpyy23⟩, hlyy23⟩ := okA.at0 hA
  simp only [Nat.zero_add] at hsyy23 hnyy23 hpyy23
  have hmn : ∀ s, s < 4 → 0 ≤ r (6 + 86 * s) ∧ r (6 + 86 * s) ≤ 12 := fun s hs => (hsyy23 s hs).1
  have h5 : 0 ≤ r 5 ∧ r 5 ≤ 6 := hpyy23
  refine z_of (by decide) (Nat.le_of_ble_eq_true rfl) ?_
  intro pZ eZ sZ mZ below meth cZ C hr hlk hnm
  refine z_lv (lv' := [(0, .ref (ad i)), (1, .int (zI ((n : Int)))), (2, .int (zI (z1)))]) [0, 1, 2] rfl ?_
  refine z_aload_n C 0 dX10_slope_0 rfl ?_
  refine z_iconst (z := 0) C dX10_slope_1 rfl ?_
  refine z_put (fs' := mF ad (i) (uZ F 12 (0))) C (by omega) hay1 hg tyX10 tyX10_ok nmX10 rfl inA_X10 12 (by decide) q_1471 rfl rfl rfl rfl (Nat.le_of_ble_eq_true rfl) rfl dX10_slope_2 (fun gy24 egy25 => ?_)
  have hgy26 := up_s egy25
  refine z_aload_n C 0 dX10_slope_5 rfl ?_
  refine z_iload_n C 1 dX10_slope_6 rfl ?_
  have h13vy27 : (uZ F 12 (0)) 13 = F 13 := (fn rfl (by decide))
  have hey28 : (uZ F 12 (0)) 12 = 0 := (uZ_s _ _ _)
  refine z_cV (As := [.int (zI ((n : Int)))]) (rest := []) (ci := 12) C (c_X10_isSlope l D A cs tt N ad _ i hN _ hgy26 (by omega) (by omega) ((n : Int)) (by omega)) (by omega) hay1 hgy26 rfl rfl mv_yX10_isSlope q_1803 hd_yX10_isSlope (by decide) (Nat.le_of_ble_eq_true rfl) (by decide) dX10_slope_7 rfl (kI0 fun vy27 gvy27 hvy27 => ?_)
  rw [h13vy27] at hvy27
  obtain ⟨hrvy27, ⟨Fvy27, hcvy27, htvy27, hFvy27⟩, hfvy27⟩ := hvy27
  rcases (show vy27 = 1 ∨ vy27 = 0 by omega) with rfl | rfl
  · have hxvy27 := hrvy27.2 rfl
    refine z_if_eq (tgt := 28) C dX10_slope_10 (by decide) (by omega) (fun h => absurd h (by omega)) (fun _ => ?_)
    refine z_aload_n C 0 dX10_slope_13 rfl ?_
    refine z_iload_n C 2 dX10_slope_14 rfl ?_
    refine z_iconst (z := 0) C dX10_slope_15 rfl ?_
    refine z_bipush (z := 9) C dX10_slope_16 (by decide) ?_
    refine z_cS (As := [.int (zI (z1)), .int (zI (0)), .int (zI (9))]) (rest := [.ref (ad i)]) C (c_X10_within l D A cs tt N ad _ (z1) (by omega) (0) (by omega) (9) (by omega)) ms_yX10_within q_1686 hd_yX10_within (by decide) (Nat.le_of_ble_eq_true rfl) (by decide) dX10_slope_18 rfl (kI0 fun vy29 gvy29 hvy29 => ?_)
    obtain ⟨hvy29, rfl⟩ := hvy29
    rcases hvy29 with ⟨rfl, hxvy29⟩ | ⟨rfl, hxvy29⟩
    · refine z_iconst (z := 1) C dX10_slope_21 rfl ?_
      have hey31 : Fvy27 12 = Fvy27 12 := rfl
      refine z_cV (As := [.int (zI (1)), .int (zI (1))]) (rest := []) (ci := 12) C (c_X10_right l D A cs tt N ad _ i hN _ hcvy27 (by omega) (1) (by omega) (1) (by omega)) (by omega) hay1 hcvy27 rfl rfl mv_yX10_right q_1648 hd_yX10_right (by decide) (Nat.le_of_ble_eq_true rfl) (by decide) dX10_slope_22 rfl (kI0 fun vy30 gvy30 hvy30 => ?_)
      obtain ⟨hrvy30, ⟨Fvy30, hcvy30, htvy30, hFvy30⟩, hfvy30⟩ := hvy30
      rcases (show vy30 = 1 ∨ vy30 = 0 by omega) with rfl | rfl
      · refine z_if_ne (tgt := 30) C dX10_slope_25 (by decide) (by omega) (fun _ => ?_) (fun h => absurd h (by omega))
        refine z_iload_n C 2 dX10_slope_30 rfl ?_
        by_cases hsy32 : z1 ≠ 0 ∧ z1 ≠ 1 ∧ z1 ≠ 2 ∧ z1 ≠ 3 ∧ z1 ≠ 4 ∧ z1 ≠ 5 ∧ z1 ≠ 6 ∧ z1 ≠ 7 ∧ z1 ≠ 8
        · refine z_tout (tgt := 154) C dX10_slope_31 (by omega) (by omega) (by decide) ?_
          refine z_aload_n C 0 dX10_slope_154 rfl ?_
          refine z_iconst (z := 0) C dX10_slope_155 rfl ?_
          refine z_iload_n C 1 dX10_slope_156 rfl ?_
          obtain ⟨py33, hpy33⟩ : ∃ p9 : Nat, 0 + 6 + 86 * n = p9 := ⟨_, rfl⟩
          have hgy34 := up_n egy25 ha1 (ne_o (i := i) (c := 1) (d := 0) rfl)
          have hgy35 := (hfvy27 (i + 1) (ne_o (i := i) (c := 1) (d := 0) rfl)).trans hgy34
          have hgy36 := (hfvy30 (i + 1) (ne_o (i := i) (c := 1) (d := 0) rfl)).trans hgy35
          have hgy38 := up_n egy25 ha2 (ne_o (i := i) (c := 2) (d := 0) rfl)
          have hgy39 := (hfvy27 (i + 2) (ne_o (i := i) (c := 2) (d := 0) rfl)).trans hgy38
          have hgy40 := (hfvy30 (i + 2) (ne_o (i := i) (c := 2) (d := 0) rfl)).trans hgy39
          have hgy41 := up_n egy25 ha7 (ne_o (i := i) (c := 7) (d := 0) rfl)
          have hgy42 := (hfvy27 (i + 7) (ne_o (i := i) (c := 7) (d := 0) rfl)).trans hgy41
          have hgy43 := (hfvy30 (i + 7) (ne_o (i := i) (c := 7) (d := 0) rfl)).trans hgy42
          have hqy44 : qS r py33 := (((okA.at0 hA).1.1 n (by omega)).of (p2 := py33) (by omega)).q (by have hb9 := mBb (t := r 0 + x) (by omega); omega)
          have hmky45 := hqy44.1
          refine z_cV (As := [.int (zI (0)), .int (zI ((n : Int)))]) (rest := []) (ci := 12) C (c_X10_isUnstable l D A cs tt N ad _ i hN _ hcvy30 _ hgy36 _ hgy40 _ hgy43 0 n py33 hpy33 (by omega) (by omega) hqy44) (by omega) hay1 hcvy30 rfl rfl mv_yX10_isUnstable q_1811 hd_yX10_isUnstable (by decide) (Nat.le_of_ble_eq_true rfl) (by decide) dX10_slope_157 rfl (kI0 fun vy37 gvy37 hvy37 => ?_)
          obtain ⟨hvy37, rfl⟩ := hvy37
          refine z_if_eq (tgt := 167) C dX10_slope_160 (by decide) (by omega) (fun hby46 => ?_) (fun hby46 => ?_)
          · refine z_iconst (z := 0) C dX10_slope_167 rfl ?_
            have hFy47 : ∀ f, f ≠ 12 → Fvy30 f = F f := fun f n12 => ((hFvy30 f n12).trans ((hFvy27 f n12).trans ((uZ_n _ _ n12).trans rfl)))
            have hey48 : Fvy30 13 = F 13 := ((hFvy30 13 (by decide)).trans ((hFvy27 13 (by decide)).trans (fn rfl (by decide))))
            have hey49 : Fvy30 14 = F 14 := ((hFvy30 14 (by decide)).trans ((hFvy27 14 (by decide)).trans (fn rfl (by decide))))
            have hey50 : Fvy30 15 = F 15 := ((hFvy30 15 (by decide)).trans ((hFvy27 15 (by decide)).trans (fn rfl (by decide))))
            have hey51 : Fvy30 16 = F 16 := ((hFvy30 16 (by decide)).trans ((hFvy27 16 (by decide)).trans (fn rfl (by decide))))
            have hey52 : Fvy30 17 = F 17 := ((hFvy30 17 (by decide)).trans ((hFvy27 17 (by decide)).trans (fn rfl (by decide))))
            have hey53 : Fvy30 18 = F 18 := ((hFvy30 18 (by decide)).trans ((hFvy27 18 (by decide)).trans (fn rfl (by decide))))
            have hey54 : Fvy30 19 = F 19 := ((hFvy30 19 (by decide)).trans ((hFvy27 19 (by decide)).trans (fn rfl (by decide))))
            have hey55 : Fvy30 20 = F 20 := ((hFvy30 20 (by decide)).trans ((hFvy27 20 (by decide)).trans (fn rfl (by decide))))
            have hey56 : Fvy30 23 = F 23 := ((hFvy30 23 (by decide)).trans ((hFvy27 23 (by decide)).trans (fn rfl (by decide))))
            have hey57 : Fvy30 25 = F 25 := ((hFvy30 25 (by decide)).trans ((hFvy27 25 (by decide)).trans (fn rfl (by decide))))
            have hey58 : Fvy30 27 = F 27 := ((hFvy30 27 (by decide)).trans ((hFvy27 27 (by decide)).trans (fn rfl (by decide))))
            have hey59 : Fvy30 28 = F 28 := ((hFvy30 28 (by decide)).trans ((hFvy27 28 (by decide)).trans (fn rfl (by decide))))
            have hey60 : Fvy30 29 = F 29 := ((hFvy30 29 (by decide)).trans ((hFvy27 29 (by decide)).trans (fn rfl (by decide))))
            have hKy61 : okF Fvy30 := by unfold okF; omega
            have hMy62 : okMr cs ad gvy30 i (x + 1) Fvy30 r := okMr.upd hM hcvy30 hKy61 (fun f a => hFy47 f (by omega)) hgy36 (hA.mono (by omega)) (fun j a b => by
                exact Or.inl (by rw [hfvy30 _ (by omega)]; rw [hfvy27 _ (by omega)]; rw [egy25, va_up_ne _ _ (by omega)]))
            have h23 : Fvy30 23 = F 23 := ((hFvy30 23 (by decide)).trans ((hFvy27 23 (by decide)).trans (fn rfl (by decide))))
            exact z_iret C hr hlk dX10_slope_168 (by decide) (by decide) ⟨0, rfl, rfl, rfl, by omega, ⟨_, _, hMy62, by omega⟩, fun j j1 => by rw [hfvy30 _ (by omega)]; rw [hfvy27 _ (by omega)]; rw [egy25, va_up_ne _ _ (by omega)]⟩
          · refine z_iconst (z := 1) C dX10_slope_163 rfl ?_
            refine z_goto (tgt := 168) C dX10_slope_164 (by decide) ?_
            have hFy63 : ∀ f, f ≠ 12 → Fvy30 f = F f := fun f n12 => ((hFvy30 f n12).trans ((hFvy27 f n12).trans ((uZ_n _ _ n12).trans rfl)))
            have hey64 : Fvy30 13 = F 13 := ((hFvy30 13 (by decide)).trans ((hFvy27 13 (by decide)).trans (fn rfl (by decide))))
            have hey65 : Fvy30 14 = F 14 := ((hFvy30 14 (by decide)).trans ((hFvy27 14 (by decide)).trans (fn rfl (by decide))))
            have hey66 : Fvy30 15 = F 15 := ((hFvy30 15 (by decide)).trans ((hFvy27 15 (by decide)).trans (fn rfl (by decide))))
            have hey67 : Fvy30 16 = F 16 := ((hFvy30 16 (by decide)).trans ((hFvy27 16 (by decide)).trans (fn rfl (by decide))))
            have hey68 : Fvy30 17 = F 17 := ((hFvy30 17 (by decide)).trans ((hFvy27 17 (by decide)).trans (fn rfl (by decide))))
            have hey69 : Fvy30 18 = F 18 := ((hFvy30 18 (by decide)).trans ((hFvy27 18 (by decide)).trans (fn rfl (by decide))))
            have hey70 : Fvy30 19 = F 19 := ((hFvy30 19 (by decide)).trans ((hFvy27 19 (by decide)).trans (fn rfl (by decide))))
            have hey71 : Fvy30 20 = F 20 := ((hFvy30 20 (by decide)).trans ((hFvy27 20 (by decide)).trans (fn rfl (by decide))))
            have hey72 : Fvy30 23 = F 23 := ((hFvy30 23 (by decide)).trans ((hFvy27 23 (by decide)).trans (fn rfl (by decide))))
            have hey73 : Fvy30 25 = F 25 := ((hFvy30 25 (by decide)).trans ((hFvy27 25 (by decide)).trans (fn rfl (by decide))))
            have hey74 : Fvy30 27 = F 27 := ((hFvy30 27 (by decide)).trans ((hFvy27 27 (by decide)).trans (fn rfl (by decide))))
            have hey75 : Fvy30 28 = F 28 := ((hFvy30 28 (by decide)).trans ((hFvy27 28 (by decide)).trans (fn rfl (by decide))))
            have hey76 : Fvy30 29 = F 29 := ((hFvy30 29 (by decide)).trans ((hFvy27 29 (by decide)).trans (fn rfl (by decide))))
            have hKy77 : okF Fvy30 := by unfold okF; omega
            have hMy78 : okMr cs ad gvy30 i (x + 1) Fvy30 r := okMr.upd hM hcvy30 hKy77 (fun f a => hFy63 f (by omega)) hgy36 (hA.mono (by omega)) (fun j a b => by
                exact Or.inl (by rw [hfvy30 _ (by omega)]; rw [hfvy27 _ (by omega)]; rw [egy25, va_up_ne _ _ (by omega)]))
            have h23 : Fvy30 23 = F 23 := ((hFvy30 23 (by decide)).trans ((hFvy27 23 (by decide)).trans (fn rfl (by decide))))
            exact z_iret C hr hlk dX10_slope_168 (by decide) (by decide) ⟨1, rfl, rfl, rfl, by omega, ⟨_, _, hMy78, by omega⟩, fun j j1 => by rw [hfvy30 _ (by omega)]; rw [hfvy27 _ (by omega)]; rw [egy25, va_up_ne _ _ (by omega)]⟩
        · rcases (show z1 = 0 ∨ z1 = 1 ∨ z1 = 2 ∨ z1 = 3 ∨ z1 = 4 ∨ z1 = 5 ∨ z1 = 6 ∨ z1 = 7 ∨ z1 = 8 by omega) with rfl | rfl | rfl | rfl | rfl | rfl | rfl | rfl | rfl
          · refine z_tin (off := 49) (tgt := 80) C dX10_slope_31 (by omega) (by omega) (by omega) rfl (by decide) ?_
            refine z_aload_n C 0 dX10_slope_80 rfl ?_
            refine z_get (v := .ref (ad (i + 2))) C (by omega) hay1 hcvy30 rfl inA_X10 1 (by decide) q_1460 rfl rfl dX10_slope_81 ?_
            refine z_iload_n C 1 dX10_slope_84 rfl ?_
            have hgy79 := up_n egy25 ha2 (ne_o (i := i) (c := 2) (d := 0) rfl)
            have hgy80 := (hfvy27 (i + 2) (ne_o (i := i) (c := 2) (d := 0) rfl)).trans hgy79
            have hgy81 := (hfvy30 (i + 2) (ne_o (i := i) (c := 2) (d := 0) rfl)).trans hgy80
            refine z_iald C (by omega) hay3 hgy81 (n) (by omega) (by omega) (by decide) dX10_slope_85 ?_
            obtain ⟨xy82, exy83, hxy84⟩ := zI_of (zI (st (n)))
            rw [exy83]
            have hgy85 := up_n egy25 ha1 (ne_o (i := i) (c := 1) (d := 0) rfl)
            have hgy86 := (hfvy27 (i + 1) (ne_o (i := i) (c := 1) (d := 0) rfl)).trans hgy85
            have hgy87 := (hfvy30 (i + 1) (ne_o (i := i) (c := 1) (d := 0) rfl)).trans hgy86
            have hFy88 : ∀ f, f ≠ 12 → Fvy30 f = F f := fun f n12 => ((hFvy30 f n12).trans ((hFvy27 f n12).trans ((uZ_n _ _ n12).trans rfl)))
            have hey89 : Fvy30 13 = F 13 := ((hFvy30 13 (by decide)).trans ((hFvy27 13 (by decide)).trans (fn rfl (by decide))))
            have hey90 : Fvy30 14 = F 14 := ((hFvy30 14 (by decide)).trans ((hFvy27 14 (by decide)).trans (fn rfl (by decide))))
            have hey91 : Fvy30 15 = F 15 := ((hFvy30 15 (by decide)).trans ((hFvy27 15 (by decide)).trans (fn rfl (by decide))))
            have hey92 : Fvy30 16 = F 16 := ((hFvy30 16 (by decide)).trans ((hFvy27 16 (by decide)).trans (fn rfl (by decide))))
            have hey93 : Fvy30 17 = F 17 := ((hFvy30 17 (by decide)).trans ((hFvy27 17 (by decide)).trans (fn rfl (by decide))))
            have hey94 : Fvy30 18 = F 18 := ((hFvy30 18 (by decide)).trans ((hFvy27 18 (by decide)).trans (fn rfl (by decide))))
            have hey95 : Fvy30 19 = F 19 := ((hFvy30 19 (by decide)).trans ((hFvy27 19 (by decide)).trans (fn rfl (by decide))))
            have hey96 : Fvy30 20 = F 20 := ((hFvy30 20 (by decide)).trans ((hFvy27 20 (by decide)).trans (fn rfl (by decide))))
            have hey97 : Fvy30 23 = F 23 := ((hFvy30 23 (by decide)).trans ((hFvy27 23 (by decide)).trans (fn rfl (by decide))))
            have hey98 : Fvy30 25 = F 25 := ((hFvy30 25 (by decide)).trans ((hFvy27 25 (by decide)).trans (fn rfl (by decide))))
            have hey99 : Fvy30 27 = F 27 := ((hFvy30 27 (by decide)).trans ((hFvy27 27 (by decide)).trans (fn rfl (by decide))))
            have hey100 : Fvy30 28 = F 28 := ((hFvy30 28 (by decide)).trans ((hFvy27 28 (by decide)).trans (fn rfl (by decide))))
            have hey101 : Fvy30 29 = F 29 := ((hFvy30 29 (by decide)).trans ((hFvy27 29 (by decide)).trans (fn rfl (by decide))))
            have hKy102 : okF Fvy30 := by unfold okF; omega
            have hMy103 : okMr cs ad gvy30 i (x + 1) Fvy30 r := okMr.upd hM hcvy30 hKy102 (fun f a => hFy88 f (by omega)) hgy87 (hA.mono (by omega)) (fun j a b => by
                exact Or.inl (by rw [hfvy30 _ (by omega)]; rw [hfvy27 _ (by omega)]; rw [egy25, va_up_ne _ _ (by omega)]))
            have h23 : Fvy30 23 = F 23 := ((hFvy30 23 (by decide)).trans ((hFvy27 23 (by decide)).trans (fn rfl (by decide))))
            exact z_iret C hr hlk dX10_slope_86 (by decide) (by decide) ⟨xy82, rfl, rfl, rfl, by omega, ⟨_, _, hMy103, by omega⟩, fun j j1 => by rw [hfvy30 _ (by omega)]; rw [hfvy27 _ (by omega)]; rw [egy25, va_up_ne _ _ (by omega)]⟩
          · refine z_tin (off := 56) (tgt := 87) C dX10_slope_31 (by omega) (by omega) (by omega) rfl (by decide) ?_
            refine z_aload_n C 0 dX10_slope_87 rfl ?_
            refine z_get (v := .ref (ad (i + 3))) C (by omega) hay1 hcvy30 rfl inA_X10 2 (by decide) q_1461 rfl rfl dX10_slope_88 ?_
            refine z_iload_n C 1 dX10_slope_91 rfl ?_
            have hgy104 := up_n egy25 ha3 (ne_o (i := i) (c := 3) (d := 0) rfl)
            have hgy105 := (hfvy27 (i + 3) (ne_o (i := i) (c := 3) (d := 0) rfl)).trans hgy104
            have hgy106 := (hfvy30 (i + 3) (ne_o (i := i) (c := 3) (d := 0) rfl)).trans hgy105
            refine z_iald C (by omega) hay4 hgy106 (n) (by omega) (by omega) (by decide) dX10_slope_92 ?_
            have hrfy107 := hop (n) (by omega)
            have hgy108 := up_n egy25 ha1 (ne_o (i := i) (c := 1) (d := 0) rfl)
            have hgy109 := (hfvy27 (i + 1) (ne_o (i := i) (c := 1) (d := 0) rfl)).trans hgy108
            have hgy110 := (hfvy30 (i + 1) (ne_o (i := i) (c := 1) (d := 0) rfl)).trans hgy109
            have hFy111 : ∀ f, f ≠ 12 → Fvy30 f = F f := fun f n12 => ((hFvy30 f n12).trans ((hFvy27 f n12).trans ((uZ_n _ _ n12).trans rfl)))
            have hey112 : Fvy30 13 = F 13 := ((hFvy30 13 (by decide)).trans ((hFvy27 13 (by decide)).trans (fn rfl (by decide))))
            have hey113 : Fvy30 14 = F 14 := ((hFvy30 14 (by decide)).trans ((hFvy27 14 (by decide)).trans (fn rfl (by decide))))
            have hey114 : Fvy30 15 = F 15 := ((hFvy30 15 (by decide)).trans ((hFvy27 15 (by decide)).trans (fn rfl (by decide))))
            have hey115 : Fvy30 16 = F 16 := ((hFvy30 16 (by decide)).trans ((hFvy27 16 (by decide)).trans (fn rfl (by decide))))
            have hey116 : Fvy30 17 = F 17 := ((hFvy30 17 (by decide)).trans ((hFvy27 17 (by decide)).trans (fn rfl (by decide))))
            have hey117 : Fvy30 18 = F 18 := ((hFvy30 18 (by decide)).trans ((hFvy27 18 (by decide)).trans (fn rfl (by decide))))
            have hey118 : Fvy30 19 = F 19 := ((hFvy30 19 (by decide)).trans ((hFvy27 19 (by decide)).trans (fn rfl (by decide))))
            have hey119 : Fvy30 20 = F 20 := ((hFvy30 20 (by decide)).trans ((hFvy27 20 (by decide)).trans (fn rfl (by decide))))
            have hey120 : Fvy30 23 = F 23 := ((hFvy30 23 (by decide)).trans ((hFvy27 23 (by decide)).trans (fn rfl (by decide))))
            have hey121 : Fvy30 25 = F 25 := ((hFvy30 25 (by decide)).trans ((hFvy27 25 (by decide)).trans (fn rfl (by decide))))
            have hey122 : Fvy30 27 = F 27 := ((hFvy30 27 (by decide)).trans ((hFvy27 27 (by decide)).trans (fn rfl (by decide))))
            have hey123 : Fvy30 28 = F 28 := ((hFvy30 28 (by decide)).trans ((hFvy27 28 (by decide)).trans (fn rfl (by decide))))
            have hey124 : Fvy30 29 = F 29 := ((hFvy30 29 (by decide)).trans ((hFvy27 29 (by decide)).trans (fn rfl (by decide))))
            have hKy125 : okF Fvy30 := by unfold okF; omega
            have hMy126 : okMr cs ad gvy30 i (x + 1) Fvy30 r := okMr.upd hM hcvy30 hKy125 (fun f a => hFy111 f (by omega)) hgy110 (hA.mono (by omega)) (fun j a b => by
                exact Or.inl (by rw [hfvy30 _ (by omega)]; rw [hfvy27 _ (by omega)]; rw [egy25, va_up_ne _ _ (by omega)]))
            have h23 : Fvy30 23 = F 23 := ((hFvy30 23 (by decide)).trans ((hFvy27 23 (by decide)).trans (fn rfl (by decide))))
            exact z_iret C hr hlk dX10_slope_93 (by decide) (by decide) ⟨op (n), rfl, rfl, rfl, by omega, ⟨_, _, hMy126, by omega⟩, fun j j1 => by rw [hfvy30 _ (by omega)]; rw [hfvy27 _ (by omega)]; rw [egy25, va_up_ne _ _ (by omega)]⟩
          · refine z_tin (off := 63) (tgt := 94) C dX10_slope_31 (by omega) (by omega) (by omega) rfl (by decide) ?_
            refine z_aload_n C 0 dX10_slope_94 rfl ?_
            refine z_iconst (z := 0) C dX10_slope_95 rfl ?_
            refine z_iload_n C 1 dX10_slope_96 rfl ?_
            obtain ⟨py127, hpy127⟩ : ∃ p9 : Nat, 0 + 6 + 86 * n = p9 := ⟨_, rfl⟩
            have hmyy128 := ((okA.at0 hA).1.1 n (by omega)).1
            rw [hpy127] at hmyy128
            have hgy129 := up_n egy25 ha1 (ne_o (i := i) (c := 1) (d := 0) rfl)
            have hgy130 := (hfvy27 (i + 1) (ne_o (i := i) (c := 1) (d := 0) rfl)).trans hgy129
            have hgy131 := (hfvy30 (i + 1) (ne_o (i := i) (c := 1) (d := 0) rfl)).trans hgy130
            refine z_cV (As := [.int (zI (0)), .int (zI ((n : Int)))]) (rest := []) (ci := 12) C (c_X10_many l D A cs tt N ad _ i hN _ hcvy30 _ hgy131 0 n py127 hpy127 (by omega) (by omega)) (by omega) hay1 hcvy30 rfl rfl mv_yX10_many q_1733 hd_yX10_many (by decide) (Nat.le_of_ble_eq_true rfl) (by decide) dX10_slope_97 rfl (kI0 fun vy132 gvy132 hvy132 => ?_)
            obtain ⟨rfl, rfl⟩ := hvy132
            have hFy133 : ∀ f, f ≠ 12 → Fvy30 f = F f := fun f n12 => ((hFvy30 f n12).trans ((hFvy27 f n12).trans ((uZ_n _ _ n12).trans rfl)))
            have hey134 : Fvy30 13 = F 13 := ((hFvy30 13 (by decide)).trans ((hFvy27 13 (by decide)).trans (fn rfl (by decide))))
            have hey135 : Fvy30 14 = F 14 := ((hFvy30 14 (by decide)).trans ((hFvy27 14 (by decide)).trans (fn rfl (by decide))))
            have hey136 : Fvy30 15 = F 15 := ((hFvy30 15 (by decide)).trans ((hFvy27 15 (by decide)).trans (fn rfl (by decide))))
            have hey137 : Fvy30 16 = F 16 := ((hFvy30 16 (by decide)).trans ((hFvy27 16 (by decide)).trans (fn rfl (by decide))))
            have hey138 : Fvy30 17 = F 17 := ((hFvy30 17 (by decide)).trans ((hFvy27 17 (by decide)).trans (fn rfl (by decide))))
            have hey139 : Fvy30 18 = F 18 := ((hFvy30 18 (by decide)).trans ((hFvy27 18 (by decide)).trans (fn rfl (by decide))))
            have hey140 : Fvy30 19 = F 19 := ((hFvy30 19 (by decide)).trans ((hFvy27 19 (by decide)).trans (fn rfl (by decide))))
            have hey141 : Fvy30 20 = F 20 := ((hFvy30 20 (by decide)).trans ((hFvy27 20 (by decide)).trans (fn rfl (by decide))))
            have hey142 : Fvy30 23 = F 23 := ((hFvy30 23 (by decide)).trans ((hFvy27 23 (by decide)).trans (fn rfl (by decide))))
            have hey143 : Fvy30 25 = F 25 := ((hFvy30 25 (by decide)).trans ((hFvy27 25 (by decide)).trans (fn rfl (by decide))))
            have hey144 : Fvy30 27 = F 27 := ((hFvy30 27 (by decide)).trans ((hFvy27 27 (by decide)).trans (fn rfl (by decide))))
            have hey145 : Fvy30 28 = F 28 := ((hFvy30 28 (by decide)).trans ((hFvy27 28 (by decide)).trans (fn rfl (by decide))))
            have hey146 : Fvy30 29 = F 29 := ((hFvy30 29 (by decide)).trans ((hFvy27 29 (by decide)).trans (fn rfl (by decide))))
            have hKy147 : okF Fvy30 := by unfold okF; omega
            have hMy148 : okMr cs ad gvy30 i (x + 1) Fvy30 r := okMr.upd hM hcvy30 hKy147 (fun f a => hFy133 f (by omega)) hgy131 (hA.mono (by omega)) (fun j a b => by
                exact Or.inl (by rw [hfvy30 _ (by omega)]; rw [hfvy27 _ (by omega)]; rw [egy25, va_up_ne _ _ (by omega)]))
            have h23 : Fvy30 23 = F 23 := ((hFvy30 23 (by decide)).trans ((hFvy27 23 (by decide)).trans (fn rfl (by decide))))
            exact z_iret C hr hlk dX10_slope_100 (by decide) (by decide) ⟨r (py127), rfl, rfl, rfl, by omega, ⟨_, _, hMy148, by omega⟩, fun j j1 => by rw [hfvy30 _ (by omega)]; rw [hfvy27 _ (by omega)]; rw [egy25, va_up_ne _ _ (by omega)]⟩
          · refine z_tin (off := 70) (tgt := 101) C dX10_slope_31 (by omega) (by omega) (by omega) rfl (by decide) ?_
            refine z_aload_n C 0 dX10_slope_101 rfl ?_
            refine z_iconst (z := 0) C dX10_slope_102 rfl ?_
            refine z_iload_n C 1 dX10_slope_103 rfl ?_
            refine z_iconst (z := 3) C dX10_slope_104 rfl ?_
            obtain ⟨py149, hpy149⟩ : ∃ p9 : Nat, 0 + 6 + 86 * n = p9 := ⟨_, rfl⟩
            have hgy150 := up_n egy25 ha1 (ne_o (i := i) (c := 1) (d := 0) rfl)
            have hgy151 := (hfvy27 (i + 1) (ne_o (i := i) (c := 1) (d := 0) rfl)).trans hgy150
            have hgy152 := (hfvy30 (i + 1) (ne_o (i := i) (c := 1) (d := 0) rfl)).trans hgy151
            have hqy154 : qS r py149 := (((okA.at0 hA).1.1 n (by omega)).of (p2 := py149) (by omega)).q (by have hb9 := mBb (t := r 0 + x) (by omega); omega)
            have hmky155 := hqy154.1
            refine z_cV (As := [.int (zI (0)), .int (zI ((n : Int))), .int (zI (3))]) (rest := []) (ci := 12) C (c_X10_sumA l D A cs tt N ad _ i hN _ hcvy30 _ hgy152 0 n py149 hpy149 (by omega) (by omega) hqy154 3 (by omega)) (by omega) hay1 hcvy30 rfl rfl mv_yX10_sum q_1745 hd_yX10_sum (by decide) (Nat.le_of_ble_eq_true rfl) (by decide) dX10_slope_105 rfl (kI0 fun vy153 gvy153 hvy153 => ?_)
            obtain ⟨hvy153, rfl⟩ := hvy153
            have hFy156 : ∀ f, f ≠ 12 → Fvy30 f = F f := fun f n12 => ((hFvy30 f n12).trans ((hFvy27 f n12).trans ((uZ_n _ _ n12).trans rfl)))
            have hey157 : Fvy30 13 = F 13 := ((hFvy30 13 (by decide)).trans ((hFvy27 13 (by decide)).trans (fn rfl (by decide))))
            have hey158 : Fvy30 14 = F 14 := ((hFvy30 14 (by decide)).trans ((hFvy27 14 (by decide)).trans (fn rfl (by decide))))
            have hey159 : Fvy30 15 = F 15 := ((hFvy30 15 (by decide)).trans ((hFvy27 15 (by decide)).trans (fn rfl (by decide))))
            have hey160 : Fvy30 16 = F 16 := ((hFvy30 16 (by decide)).trans ((hFvy27 16 (by decide)).trans (fn rfl (by decide))))
            have hey161 : Fvy30 17 = F 17 := ((hFvy30 17 (by decide)).trans ((hFvy27 17 (by decide)).trans (fn rfl (by decide))))
            have hey162 : Fvy30 18 = F 18 := ((hFvy30 18 (by decide)).trans ((hFvy27 18 (by decide)).trans (fn rfl (by decide))))
            have hey163 : Fvy30 19 = F 19 := ((hFvy30 19 (by decide)).trans ((hFvy27 19 (by decide)).trans (fn rfl (by decide))))
            have hey164 : Fvy30 20 = F 20 := ((hFvy30 20 (by decide)).trans ((hFvy27 20 (by decide)).trans (fn rfl (by decide))))
            have hey165 : Fvy30 23 = F 23 := ((hFvy30 23 (by decide)).trans ((hFvy27 23 (by decide)).trans (fn rfl (by decide))))
            have hey166 : Fvy30 25 = F 25 := ((hFvy30 25 (by decide)).trans ((hFvy27 25 (by decide)).trans (fn rfl (by decide))))
            have hey167 : Fvy30 27 = F 27 := ((hFvy30 27 (by decide)).trans ((hFvy27 27 (by decide)).trans (fn rfl (by decide))))
            have hey168 : Fvy30 28 = F 28 := ((hFvy30 28 (by decide)).trans ((hFvy27 28 (by decide)).trans (fn rfl (by decide))))
            have hey169 : Fvy30 29 = F 29 := ((hFvy30 29 (by decide)).trans ((hFvy27 29 (by decide)).trans (fn rfl (by decide))))
            have hKy170 : okF Fvy30 := by unfold okF; omega
            have hMy171 : okMr cs ad gvy30 i (x + 1) Fvy30 r := okMr.upd hM hcvy30 hKy170 (fun f a => hFy156 f (by omega)) hgy152 (hA.mono (by omega)) (fun j a b => by
                exact Or.inl (by rw [hfvy30 _ (by omega)]; rw [hfvy27 _ (by omega)]; rw [egy25, va_up_ne _ _ (by omega)]))
            have h23 : Fvy30 23 = F 23 := ((hFvy30 23 (by decide)).trans ((hFvy27 23 (by decide)).trans (fn rfl (by decide))))
            exact z_iret C hr hlk dX10_slope_108 (by decide) (by decide) ⟨vy153, rfl, rfl, rfl, by omega, ⟨_, _, hMy171, by omega⟩, fun j j1 => by rw [hfvy30 _ (by omega)]; rw [hfvy27 _ (by omega)]; rw [egy25, va_up_ne _ _ (by omega)]⟩
          · refine z_tin (off := 78) (tgt := 109) C dX10_slope_31 (by omega) (by omega) (by omega) rfl (by decide) ?_
            refine z_aload_n C 0 dX10_slope_109 rfl ?_
            refine z_iconst (z := 0) C dX10_slope_110 rfl ?_
            refine z_iload_n C 1 dX10_slope_111 rfl ?_
            refine z_iconst (z := 1) C dX10_slope_112 rfl ?_
            obtain ⟨py172, hpy172⟩ : ∃ p9 : Nat, 0 + 6 + 86 * n = p9 := ⟨_, rfl⟩
            have hgy173 := up_n egy25 ha1 (ne_o (i := i) (c := 1) (d := 0) rfl)
            have hgy174 := (hfvy27 (i + 1) (ne_o (i := i) (c := 1) (d := 0) rfl)).trans hgy173
            have hgy175 := (hfvy30 (i + 1) (ne_o (i := i) (c := 1) (d := 0) rfl)).trans hgy174
            have hqy177 : qS r py172 := (((okA.at0 hA).1.1 n (by omega)).of (p2 := py172) (by omega)).q (by have hb9 := mBb (t := r 0 + x) (by omega); omega)
            have hmky178 := hqy177.1
            refine z_cV (As := [.int (zI (0)), .int (zI ((n : Int))), .int (zI (1))]) (rest := []) (ci := 12) C (c_X10_sumA l D A cs tt N ad _ i hN _ hcvy30 _ hgy175 0 n py172 hpy172 (by omega) (by omega) hqy177 1 (by omega)) (by omega) hay1 hcvy30 rfl rfl mv_yX10_sum q_1745 hd_yX10_sum (by decide) (Nat.le_of_ble_eq_true rfl) (by decide) dX10_slope_113 rfl (kI0 fun vy176 gvy176 hvy176 => ?_)
            obtain ⟨hvy176, rfl⟩ := hvy176
            have hFy179 : ∀ f, f ≠ 12 → Fvy30 f = F f := fun f n12 => ((hFvy30 f n12).trans ((hFvy27 f n12).trans ((uZ_n _ _ n12).trans rfl)))
            have hey180 : Fvy30 13 = F 13 := ((hFvy30 13 (by decide)).trans ((hFvy27 13 (by decide)).trans (fn rfl (by decide))))
            have hey181 : Fvy30 14 = F 14 := ((hFvy30 14 (by decide)).trans ((hFvy27 14 (by decide)).trans (fn rfl (by decide))))
            have hey182 : Fvy30 15 = F 15 := ((hFvy30 15 (by decide)).trans ((hFvy27 15 (by decide)).trans (fn rfl (by decide))))
            have hey183 : Fvy30 16 = F 16 := ((hFvy30 16 (by decide)).trans ((hFvy27 16 (by decide)).trans (fn rfl (by decide))))
            have hey184 : Fvy30 17 = F 17 := ((hFvy30 17 (by decide)).trans ((hFvy27 17 (by decide)).trans (fn rfl (by decide))))
            have hey185 : Fvy30 18 = F 18 := ((hFvy30 18 (by decide)).trans ((hFvy27 18 (by decide)).trans (fn rfl (by decide))))
            have hey186 : Fvy30 19 = F 19 := ((hFvy30 19 (by decide)).trans ((hFvy27 19 (by decide)).trans (fn rfl (by decide))))
            have hey187 : Fvy30 20 = F 20 := ((hFvy30 20 (by decide)).trans ((hFvy27 20 (by decide)).trans (fn rfl (by decide))))
            have hey188 : Fvy30 23 = F 23 := ((hFvy30 23 (by decide)).trans ((hFvy27 23 (by decide)).trans (fn rfl (by decide))))
            have hey189 : Fvy30 25 = F 25 := ((hFvy30 25 (by decide)).trans ((hFvy27 25 (by decide)).trans (fn rfl (by decide))))
            have hey190 : Fvy30 27 = F 27 := ((hFvy30 27 (by decide)).trans ((hFvy27 27 (by decide)).trans (fn rfl (by decide))))
            have hey191 : Fvy30 28 = F 28 := ((hFvy30 28 (by decide)).trans ((hFvy27 28 (by decide)).trans (fn rfl (by decide))))
            have hey192 : Fvy30 29 = F 29 := ((hFvy30 29 (by decide)).trans ((hFvy27 29 (by decide)).trans (fn rfl (by decide))))
            have hKy193 : okF Fvy30 := by unfold okF; omega
            have hMy194 : okMr cs ad gvy30 i (x + 1) Fvy30 r := okMr.upd hM hcvy30 hKy193 (fun f a => hFy179 f (by omega)) hgy175 (hA.mono (by omega)) (fun j a b => by
                exact Or.inl (by rw [hfvy30 _ (by omega)]; rw [hfvy27 _ (by omega)]; rw [egy25, va_up_ne _ _ (by omega)]))
            have h23 : Fvy30 23 = F 23 := ((hFvy30 23 (by decide)).trans ((hFvy27 23 (by decide)).trans (fn rfl (by decide))))
            exact z_iret C hr hlk dX10_slope_116 (by decide) (by decide) ⟨vy176, rfl, rfl, rfl, by omega, ⟨_, _, hMy194, by omega⟩, fun j j1 => by rw [hfvy30 _ (by omega)]; rw [hfvy27 _ (by omega)]; rw [egy25, va_up_ne _ _ (by omega)]⟩
          · refine z_tin (off := 86) (tgt := 117) C dX10_slope_31 (by omega) (by omega) (by omega) rfl (by decide) ?_
            refine z_aload_n C 0 dX10_slope_117 rfl ?_
            refine z_iconst (z := 0) C dX10_slope_118 rfl ?_
            refine z_iload_n C 1 dX10_slope_119 rfl ?_
            refine z_iconst (z := 2) C dX10_slope_120 rfl ?_
            obtain ⟨py195, hpy195⟩ : ∃ p9 : Nat, 0 + 6 + 86 * n = p9 := ⟨_, rfl⟩
            have hgy196 := up_n egy25 ha1 (ne_o (i := i) (c := 1) (d := 0) rfl)
            have hgy197 := (hfvy27 (i + 1) (ne_o (i := i) (c := 1) (d := 0) rfl)).trans hgy196
            have hgy198 := (hfvy30 (i + 1) (ne_o (i := i) (c := 1) (d := 0) rfl)).trans hgy197
            have hqy200 : qS r py195 := (((okA.at0 hA).1.1 n (by omega)).of (p2 := py195) (by omega)).q (by have hb9 := mBb (t := r 0 + x) (by omega); omega)
            have hmky201 := hqy200.1
            refine z_cV (As := [.int (zI (0)), .int (zI ((n : Int))), .int (zI (2))]) (rest := []) (ci := 12) C (c_X10_sumA l D A cs tt N ad _ i hN _ hcvy30 _ hgy198 0 n py195 hpy195 (by omega) (by omega) hqy200 2 (by omega)) (by omega) hay1 hcvy30 rfl rfl mv_yX10_sum q_1745 hd_yX10_sum (by decide) (Nat.le_of_ble_eq_true rfl) (by decide) dX10_slope_121 rfl (kI0 fun vy199 gvy199 hvy199 => ?_)
            obtain ⟨hvy199, rfl⟩ := hvy199
            have hFy202 : ∀ f, f ≠ 12 → Fvy30 f = F f := fun f n12 => ((hFvy30 f n12).trans ((hFvy27 f n12).trans ((uZ_n _ _ n12).trans rfl)))
            have hey203 : Fvy30 13 = F 13 := ((hFvy30 13 (by decide)).trans ((hFvy27 13 (by decide)).trans (fn rfl (by decide))))
            have hey204 : Fvy30 14 = F 14 := ((hFvy30 14 (by decide)).trans ((hFvy27 14 (by decide)).trans (fn rfl (by decide))))
            have hey205 : Fvy30 15 = F 15 := ((hFvy30 15 (by decide)).trans ((hFvy27 15 (by decide)).trans (fn rfl (by decide))))
            have hey206 : Fvy30 16 = F 16 := ((hFvy30 16 (by decide)).trans ((hFvy27 16 (by decide)).trans (fn rfl (by decide))))
            have hey207 : Fvy30 17 = F 17 := ((hFvy30 17 (by decide)).trans ((hFvy27 17 (by decide)).trans (fn rfl (by decide))))
            have hey208 : Fvy30 18 = F 18 := ((hFvy30 18 (by decide)).trans ((hFvy27 18 (by decide)).trans (fn rfl (by decide))))
            have hey209 : Fvy30 19 = F 19 := ((hFvy30 19 (by decide)).trans ((hFvy27 19 (by decide)).trans (fn rfl (by decide))))
            have hey210 : Fvy30 20 = F 20 := ((hFvy30 20 (by decide)).trans ((hFvy27 20 (by decide)).trans (fn rfl (by decide))))
            have hey211 : Fvy30 23 = F 23 := ((hFvy30 23 (by decide)).trans ((hFvy27 23 (by decide)).trans (fn rfl (by decide))))
            have hey212 : Fvy30 25 = F 25 := ((hFvy30 25 (by decide)).trans ((hFvy27 25 (by decide)).trans (fn rfl (by decide))))
            have hey213 : Fvy30 27 = F 27 := ((hFvy30 27 (by decide)).trans ((hFvy27 27 (by decide)).trans (fn rfl (by decide))))
            have hey214 : Fvy30 28 = F 28 := ((hFvy30 28 (by decide)).trans ((hFvy27 28 (by decide)).trans (fn rfl (by decide))))
            have hey215 : Fvy30 29 = F 29 := ((hFvy30 29 (by decide)).trans ((hFvy27 29 (by decide)).trans (fn rfl (by decide))))
            have hKy216 : okF Fvy30 := by unfold okF; omega
            have hMy217 : okMr cs ad gvy30 i (x + 1) Fvy30 r := okMr.upd hM hcvy30 hKy216 (fun f a => hFy202 f (by omega)) hgy198 (hA.mono (by omega)) (fun j a b => by
                exact Or.inl (by rw [hfvy30 _ (by omega)]; rw [hfvy27 _ (by omega)]; rw [egy25, va_up_ne _ _ (by omega)]))
            have h23 : Fvy30 23 = F 23 := ((hFvy30 23 (by decide)).trans ((hFvy27 23 (by decide)).trans (fn rfl (by decide))))
            exact z_iret C hr hlk dX10_slope_124 (by decide) (by decide) ⟨vy199, rfl, rfl, rfl, by omega, ⟨_, _, hMy217, by omega⟩, fun j j1 => by rw [hfvy30 _ (by omega)]; rw [hfvy27 _ (by omega)]; rw [egy25, va_up_ne _ _ (by omega)]⟩
          · refine z_tin (off := 94) (tgt := 125) C dX10_slope_31 (by omega) (by omega) (by omega) rfl (by decide) ?_
            refine z_aload_n C 0 dX10_slope_125 rfl ?_
            refine z_get (v := .ref (ad (i + 1))) C (by omega) hay1 hcvy30 rfl inA_X10 0 (by decide) q_1459 rfl rfl dX10_slope_126 ?_
            refine z_bipush (z := 6) C dX10_slope_129 (by decide) ?_
            refine z_bipush (z := 86) C dX10_slope_131 (by decide) ?_
            refine z_iload_n C 1 dX10_slope_133 rfl ?_
            refine z_imul C dX10_slope_134 ?_
            refine z_iadd C dX10_slope_135 ?_
            refine z_iconst (z := 1) C dX10_slope_136 rfl ?_
            refine z_iadd C dX10_slope_137 ?_
            have hgy218 := up_n egy25 ha1 (ne_o (i := i) (c := 1) (d := 0) rfl)
            have hgy219 := (hfvy27 (i + 1) (ne_o (i := i) (c := 1) (d := 0) rfl)).trans hgy218
            have hgy220 := (hfvy30 (i + 1) (ne_o (i := i) (c := 1) (d := 0) rfl)).trans hgy219
            refine z_iald C (by omega) hay2 hgy220 (((6 + (86 * (n : Int))) + 1).toNat) (by omega) (by omega) (by decide) dX10_slope_138 ?_
            obtain ⟨xy221, exy222, hxy223⟩ := zI_of (zI (r (((6 + (86 * (n : Int))) + 1).toNat)))
            rw [exy222]
            have hFy224 : ∀ f, f ≠ 12 → Fvy30 f = F f := fun f n12 => ((hFvy30 f n12).trans ((hFvy27 f n12).trans ((uZ_n _ _ n12).trans rfl)))
            have hey225 : Fvy30 13 = F 13 := ((hFvy30 13 (by decide)).trans ((hFvy27 13 (by decide)).trans (fn rfl (by decide))))
            have hey226 : Fvy30 14 = F 14 := ((hFvy30 14 (by decide)).trans ((hFvy27 14 (by decide)).trans (fn rfl (by decide))))
            have hey227 : Fvy30 15 = F 15 := ((hFvy30 15 (by decide)).trans ((hFvy27 15 (by decide)).trans (fn rfl (by decide))))
            have hey228 : Fvy30 16 = F 16 := ((hFvy30 16 (by decide)).trans ((hFvy27 16 (by decide)).trans (fn rfl (by decide))))
            have hey229 : Fvy30 17 = F 17 := ((hFvy30 17 (by decide)).trans ((hFvy27 17 (by decide)).trans (fn rfl (by decide))))
            have hey230 : Fvy30 18 = F 18 := ((hFvy30 18 (by decide)).trans ((hFvy27 18 (by decide)).trans (fn rfl (by decide))))
            have hey231 : Fvy30 19 = F 19 := ((hFvy30 19 (by decide)).trans ((hFvy27 19 (by decide)).trans (fn rfl (by decide))))
            have hey232 : Fvy30 20 = F 20 := ((hFvy30 20 (by decide)).trans ((hFvy27 20 (by decide)).trans (fn rfl (by decide))))
            have hey233 : Fvy30 23 = F 23 := ((hFvy30 23 (by decide)).trans ((hFvy27 23 (by decide)).trans (fn rfl (by decide))))
            have hey234 : Fvy30 25 = F 25 := ((hFvy30 25 (by decide)).trans ((hFvy27 25 (by decide)).trans (fn rfl (by decide))))
            have hey235 : Fvy30 27 = F 27 := ((hFvy30 27 (by decide)).trans ((hFvy27 27 (by decide)).trans (fn rfl (by decide))))
            have hey236 : Fvy30 28 = F 28 := ((hFvy30 28 (by decide)).trans ((hFvy27 28 (by decide)).trans (fn rfl (by decide))))
            have hey237 : Fvy30 29 = F 29 := ((hFvy30 29 (by decide)).trans ((hFvy27 29 (by decide)).trans (fn rfl (by decide))))
            have hKy238 : okF Fvy30 := by unfold okF; omega
            have hMy239 : okMr cs ad gvy30 i (x + 1) Fvy30 r := okMr.upd hM hcvy30 hKy238 (fun f a => hFy224 f (by omega)) hgy220 (hA.mono (by omega)) (fun j a b => by
                exact Or.inl (by rw [hfvy30 _ (by omega)]; rw [hfvy27 _ (by omega)]; rw [egy25, va_up_ne _ _ (by omega)]))
            have h23 : Fvy30 23 = F 23 := ((hFvy30 23 (by decide)).trans ((hFvy27 23 (by decide)).trans (fn rfl (by decide))))
            exact z_iret C hr hlk dX10_slope_139 (by decide) (by decide) ⟨xy221, rfl, rfl, rfl, by omega, ⟨_, _, hMy239, by omega⟩, fun j j1 => by rw [hfvy30 _ (by omega)]; rw [hfvy27 _ (by omega)]; rw [egy25, va_up_ne _ _ (by omega)]⟩
          · refine z_tin (off := 109) (tgt := 140) C dX10_slope_31 (by omega) (by omega) (by omega) rfl (by decide) ?_
            refine z_aload_n C 0 dX10_slope_140 rfl ?_
            refine z_iconst (z := 0) C dX10_slope_141 rfl ?_
            refine z_iload_n C 1 dX10_slope_142 rfl ?_
            obtain ⟨py240, hpy240⟩ : ∃ p9 : Nat, 0 + 6 + 86 * n = p9 := ⟨_, rfl⟩
            have hgy241 := up_n egy25 ha1 (ne_o (i := i) (c := 1) (d := 0) rfl)
            have hgy242 := (hfvy27 (i + 1) (ne_o (i := i) (c := 1) (d := 0) rfl)).trans hgy241
            have hgy243 := (hfvy30 (i + 1) (ne_o (i := i) (c := 1) (d := 0) rfl)).trans hgy242
            have hgy245 := up_n egy25 ha2 (ne_o (i := i) (c := 2) (d := 0) rfl)
            have hgy246 := (hfvy27 (i + 2) (ne_o (i := i) (c := 2) (d := 0) rfl)).trans hgy245
            have hgy247 := (hfvy30 (i + 2) (ne_o (i := i) (c := 2) (d := 0) rfl)).trans hgy246
            have hgy248 := up_n egy25 ha7 (ne_o (i := i) (c := 7) (d := 0) rfl)
            have hgy249 := (hfvy27 (i + 7) (ne_o (i := i) (c := 7) (d := 0) rfl)).trans hgy248
            have hgy250 := (hfvy30 (i + 7) (ne_o (i := i) (c := 7) (d := 0) rfl)).trans hgy249
            have hqy251 : qS r py240 := (((okA.at0 hA).1.1 n (by omega)).of (p2 := py240) (by omega)).q (by have hb9 := mBb (t := r 0 + x) (by omega); omega)
            have hmky252 := hqy251.1
            refine z_cV (As := [.int (zI (0)), .int (zI ((n : Int)))]) (rest := []) (ci := 12) C (c_X10_weakest l D A cs tt N ad _ i hN _ hcvy30 _ hgy243 _ hgy247 _ hgy250 0 n py240 hpy240 (by omega) (by omega) hqy251) (by omega) hay1 hcvy30 rfl rfl mv_yX10_weakest q_1807 hd_yX10_weakest (by decide) (Nat.le_of_ble_eq_true rfl) (by decide) dX10_slope_143 rfl (kI0 fun vy244 gvy244 hvy244 => ?_)
            obtain ⟨hvy244, rfl⟩ := hvy244
            have hFy253 : ∀ f, f ≠ 12 → Fvy30 f = F f := fun f n12 => ((hFvy30 f n12).trans ((hFvy27 f n12).trans ((uZ_n _ _ n12).trans rfl)))
            have hey254 : Fvy30 13 = F 13 := ((hFvy30 13 (by decide)).trans ((hFvy27 13 (by decide)).trans (fn rfl (by decide))))
            have hey255 : Fvy30 14 = F 14 := ((hFvy30 14 (by decide)).trans ((hFvy27 14 (by decide)).trans (fn rfl (by decide))))
            have hey256 : Fvy30 15 = F 15 := ((hFvy30 15 (by decide)).trans ((hFvy27 15 (by decide)).trans (fn rfl (by decide))))
            have hey257 : Fvy30 16 = F 16 := ((hFvy30 16 (by decide)).trans ((hFvy27 16 (by decide)).trans (fn rfl (by decide))))
            have hey258 : Fvy30 17 = F 17 := ((hFvy30 17 (by decide)).trans ((hFvy27 17 (by decide)).trans (fn rfl (by decide))))
            have hey259 : Fvy30 18 = F 18 := ((hFvy30 18 (by decide)).trans ((hFvy27 18 (by decide)).trans (fn rfl (by decide))))
            have hey260 : Fvy30 19 = F 19 := ((hFvy30 19 (by decide)).trans ((hFvy27 19 (by decide)).trans (fn rfl (by decide))))
            have hey261 : Fvy30 20 = F 20 := ((hFvy30 20 (by decide)).trans ((hFvy27 20 (by decide)).trans (fn rfl (by decide))))
            have hey262 : Fvy30 23 = F 23 := ((hFvy30 23 (by decide)).trans ((hFvy27 23 (by decide)).trans (fn rfl (by decide))))
            have hey263 : Fvy30 25 = F 25 := ((hFvy30 25 (by decide)).trans ((hFvy27 25 (by decide)).trans (fn rfl (by decide))))
            have hey264 : Fvy30 27 = F 27 := ((hFvy30 27 (by decide)).trans ((hFvy27 27 (by decide)).trans (fn rfl (by decide))))
            have hey265 : Fvy30 28 = F 28 := ((hFvy30 28 (by decide)).trans ((hFvy27 28 (by decide)).trans (fn rfl (by decide))))
            have hey266 : Fvy30 29 = F 29 := ((hFvy30 29 (by decide)).trans ((hFvy27 29 (by decide)).trans (fn rfl (by decide))))
            have hKy267 : okF Fvy30 := by unfold okF; omega
            have hMy268 : okMr cs ad gvy30 i (x + 1) Fvy30 r := okMr.upd hM hcvy30 hKy267 (fun f a => hFy253 f (by omega)) hgy243 (hA.mono (by omega)) (fun j a b => by
                exact Or.inl (by rw [hfvy30 _ (by omega)]; rw [hfvy27 _ (by omega)]; rw [egy25, va_up_ne _ _ (by omega)]))
            have h23 : Fvy30 23 = F 23 := ((hFvy30 23 (by decide)).trans ((hFvy27 23 (by decide)).trans (fn rfl (by decide))))
            exact z_iret C hr hlk dX10_slope_146 (by decide) (by decide) ⟨vy244, rfl, rfl, rfl, by omega, ⟨_, _, hMy268, by omega⟩, fun j j1 => by rw [hfvy30 _ (by omega)]; rw [hfvy27 _ (by omega)]; rw [egy25, va_up_ne _ _ (by omega)]⟩
          · refine z_tin (off := 116) (tgt := 147) C dX10_slope_31 (by omega) (by omega) (by omega) rfl (by decide) ?_
            refine z_aload_n C 0 dX10_slope_147 rfl ?_
            refine z_iconst (z := 0) C dX10_slope_148 rfl ?_
            refine z_iload_n C 1 dX10_slope_149 rfl ?_
            obtain ⟨py269, hpy269⟩ : ∃ p9 : Nat, 0 + 6 + 86 * n = p9 := ⟨_, rfl⟩
            have hgy270 := up_n egy25 ha1 (ne_o (i := i) (c := 1) (d := 0) rfl)
            have hgy271 := (hfvy27 (i + 1) (ne_o (i := i) (c := 1) (d := 0) rfl)).trans hgy270
            have hgy272 := (hfvy30 (i + 1) (ne_o (i := i) (c := 1) (d := 0) rfl)).trans hgy271
            have hgy274 := up_n egy25 ha2 (ne_o (i := i) (c := 2) (d := 0) rfl)
            have hgy275 := (hfvy27 (i + 2) (ne_o (i := i) (c := 2) (d := 0) rfl)).trans hgy274
            have hgy276 := (hfvy30 (i + 2) (ne_o (i := i) (c := 2) (d := 0) rfl)).trans hgy275
            have hgy277 := up_n egy25 ha7 (ne_o (i := i) (c := 7) (d := 0) rfl)
            have hgy278 := (hfvy27 (i + 7) (ne_o (i := i) (c := 7) (d := 0) rfl)).trans hgy277
            have hgy279 := (hfvy30 (i + 7) (ne_o (i := i) (c := 7) (d := 0) rfl)).trans hgy278
            have hqy280 : qS r py269 := (((okA.at0 hA).1.1 n (by omega)).of (p2 := py269) (by omega)).q (by have hb9 := mBb (t := r 0 + x) (by omega); omega)
            have hmky281 := hqy280.1
            refine z_cV (As := [.int (zI (0)), .int (zI ((n : Int)))]) (rest := []) (ci := 12) C (c_X10_leastRatio l D A cs tt N ad _ i hN _ hcvy30 _ hgy272 _ hgy276 _ hgy279 0 n py269 hpy269 (by omega) (by omega) hqy280) (by omega) hay1 hcvy30 rfl rfl mv_yX10_leastRatio q_1760 hd_yX10_leastRatio (by decide) (Nat.le_of_ble_eq_true rfl) (by decide) dX10_slope_150 rfl (kI0 fun vy273 gvy273 hvy273 => ?_)
            obtain ⟨hvy273, rfl⟩ := hvy273
            have hFy282 : ∀ f, f ≠ 12 → Fvy30 f = F f := fun f n12 => ((hFvy30 f n12).trans ((hFvy27 f n12).trans ((uZ_n _ _ n12).trans rfl)))
            have hey283 : Fvy30 13 = F 13 := ((hFvy30 13 (by decide)).trans ((hFvy27 13 (by decide)).trans (fn rfl (by decide))))
            have hey284 : Fvy30 14 = F 14 := ((hFvy30 14 (by decide)).trans ((hFvy27 14 (by decide)).trans (fn rfl (by decide))))
            have hey285 : Fvy30 15 = F 15 := ((hFvy30 15 (by decide)).trans ((hFvy27 15 (by decide)).trans (fn rfl (by decide))))
            have hey286 : Fvy30 16 = F 16 := ((hFvy30 16 (by decide)).trans ((hFvy27 16 (by decide)).trans (fn rfl (by decide))))
            have hey287 : Fvy30 17 = F 17 := ((hFvy30 17 (by decide)).trans ((hFvy27 17 (by decide)).trans (fn rfl (by decide))))
            have hey288 : Fvy30 18 = F 18 := ((hFvy30 18 (by decide)).trans ((hFvy27 18 (by decide)).trans (fn rfl (by decide))))
            have hey289 : Fvy30 19 = F 19 := ((hFvy30 19 (by decide)).trans ((hFvy27 19 (by decide)).trans (fn rfl (by decide))))
            have hey290 : Fvy30 20 = F 20 := ((hFvy30 20 (by decide)).trans ((hFvy27 20 (by decide)).trans (fn rfl (by decide))))
            have hey291 : Fvy30 23 = F 23 := ((hFvy30 23 (by decide)).trans ((hFvy27 23 (by decide)).trans (fn rfl (by decide))))
            have hey292 : Fvy30 25 = F 25 := ((hFvy30 25 (by decide)).trans ((hFvy27 25 (by decide)).trans (fn rfl (by decide))))
            have hey293 : Fvy30 27 = F 27 := ((hFvy30 27 (by decide)).trans ((hFvy27 27 (by decide)).trans (fn rfl (by decide))))
            have hey294 : Fvy30 28 = F 28 := ((hFvy30 28 (by decide)).trans ((hFvy27 28 (by decide)).trans (fn rfl (by decide))))
            have hey295 : Fvy30 29 = F 29 := ((hFvy30 29 (by decide)).trans ((hFvy27 29 (by decide)).trans (fn rfl (by decide))))
            have hKy296 : okF Fvy30 := by unfold okF; omega
            have hMy297 : okMr cs ad gvy30 i (x + 1) Fvy30 r := okMr.upd hM hcvy30 hKy296 (fun f a => hFy282 f (by omega)) hgy272 (hA.mono (by omega)) (fun j a b => by
                exact Or.inl (by rw [hfvy30 _ (by omega)]; rw [hfvy27 _ (by omega)]; rw [egy25, va_up_ne _ _ (by omega)]))
            have h23 : Fvy30 23 = F 23 := ((hFvy30 23 (by decide)).trans ((hFvy27 23 (by decide)).trans (fn rfl (by decide))))
            exact z_iret C hr hlk dX10_slope_153 (by decide) (by decide) ⟨vy273, rfl, rfl, rfl, by omega, ⟨_, _, hMy297, by omega⟩, fun j j1 => by rw [hfvy30 _ (by omega)]; rw [hfvy27 _ (by omega)]; rw [egy25, va_up_ne _ _ (by omega)]⟩
      · refine z_if_ne (tgt := 30) C dX10_slope_25 (by decide) (by omega) (fun h => absurd h (by omega)) (fun _ => ?_)
        refine z_iconst (z := 0) C dX10_slope_28 rfl ?_
        have hgy298 := up_n egy25 ha1 (ne_o (i := i) (c := 1) (d := 0) rfl)
        have hgy299 := (hfvy27 (i + 1) (ne_o (i := i) (c := 1) (d := 0) rfl)).trans hgy298
        have hgy300 := (hfvy30 (i + 1) (ne_o (i := i) (c := 1) (d := 0) rfl)).trans hgy299
        have hFy301 : ∀ f, f ≠ 12 → Fvy30 f = F f := fun f n12 => ((hFvy30 f n12).trans ((hFvy27 f n12).trans ((uZ_n _ _ n12).trans rfl)))
        have hey302 : Fvy30 13 = F 13 := ((hFvy30 13 (by decide)).trans ((hFvy27 13 (by decide)).trans (fn rfl (by decide))))
        have hey303 : Fvy30 14 = F 14 := ((hFvy30 14 (by decide)).trans ((hFvy27 14 (by decide)).trans (fn rfl (by decide))))
        have hey304 : Fvy30 15 = F 15 := ((hFvy30 15 (by decide)).trans ((hFvy27 15 (by decide)).trans (fn rfl (by decide))))
        have hey305 : Fvy30 16 = F 16 := ((hFvy30 16 (by decide)).trans ((hFvy27 16 (by decide)).trans (fn rfl (by decide))))
        have hey306 : Fvy30 17 = F 17 := ((hFvy30 17 (by decide)).trans ((hFvy27 17 (by decide)).trans (fn rfl (by decide))))
        have hey307 : Fvy30 18 = F 18 := ((hFvy30 18 (by decide)).trans ((hFvy27 18 (by decide)).trans (fn rfl (by decide))))
        have hey308 : Fvy30 19 = F 19 := ((hFvy30 19 (by decide)).trans ((hFvy27 19 (by decide)).trans (fn rfl (by decide))))
        have hey309 : Fvy30 20 = F 20 := ((hFvy30 20 (by decide)).trans ((hFvy27 20 (by decide)).trans (fn rfl (by decide))))
        have hey310 : Fvy30 23 = F 23 := ((hFvy30 23 (by decide)).trans ((hFvy27 23 (by decide)).trans (fn rfl (by decide))))
        have hey311 : Fvy30 25 = F 25 := ((hFvy30 25 (by decide)).trans ((hFvy27 25 (by decide)).trans (fn rfl (by decide))))
        have hey312 : Fvy30 27 = F 27 := ((hFvy30 27 (by decide)).trans ((hFvy27 27 (by decide)).trans (fn rfl (by decide))))
        have hey313 : Fvy30 28 = F 28 := ((hFvy30 28 (by decide)).trans ((hFvy27 28 (by decide)).trans (fn rfl (by decide))))
        have hey314 : Fvy30 29 = F 29 := ((hFvy30 29 (by decide)).trans ((hFvy27 29 (by decide)).trans (fn rfl (by decide))))
        have hKy315 : okF Fvy30 := by unfold okF; omega
        have hMy316 : okMr cs ad gvy30 i (x + 1) Fvy30 r := okMr.upd hM hcvy30 hKy315 (fun f a => hFy301 f (by omega)) hgy300 (hA.mono (by omega)) (fun j a b => by
            exact Or.inl (by rw [hfvy30 _ (by omega)]; rw [hfvy27 _ (by omega)]; rw [egy25, va_up_ne _ _ (by omega)]))
        have h23 : Fvy30 23 = F 23 := ((hFvy30 23 (by decide)).trans ((hFvy27 23 (by decide)).trans (fn rfl (by decide))))
        exact z_iret C hr hlk dX10_slope_29 (by decide) (by decide) ⟨0, rfl, rfl, rfl, by omega, ⟨_, _, hMy316, by omega⟩, fun j j1 => by rw [hfvy30 _ (by omega)]; rw [hfvy27 _ (by omega)]; rw [egy25, va_up_ne _ _ (by omega)]⟩
    · refine z_iconst (z := 1) C dX10_slope_21 rfl ?_
      have hey318 : Fvy27 12 = Fvy27 12 := rfl
      refine z_cV (As := [.int (zI (0)), .int (zI (1))]) (rest := []) (ci := 12) C (c_X10_right l D A cs tt N ad _ i hN _ hcvy27 (by omega) (0) (by omega) (1) (by omega)) (by omega) hay1 hcvy27 rfl rfl mv_yX10_right q_1648 hd_yX10_right (by decide) (Nat.le_of_ble_eq_true rfl) (by decide) dX10_slope_22 rfl (kI0 fun vy317 gvy317 hvy317 => ?_)
      obtain ⟨hrvy317, ⟨Fvy317, hcvy317, htvy317, hFvy317⟩, hfvy317⟩ := hvy317
      obtain rfl : vy317 = 0 := by omega
      refine z_if_ne (tgt := 30) C dX10_slope_25 (by decide) (by omega) (fun h => absurd h (by omega)) (fun _ => ?_)
      refine z_iconst (z := 0) C dX10_slope_28 rfl ?_
      have hgy319 := up_n egy25 ha1 (ne_o (i := i) (c := 1) (d := 0) rfl)
      have hgy320 := (hfvy27 (i + 1) (ne_o (i := i) (c := 1) (d := 0) rfl)).trans hgy319
      have hgy321 := (hfvy317 (i + 1) (ne_o (i := i) (c := 1) (d := 0) rfl)).trans hgy320
      have hFy322 : ∀ f, f ≠ 12 → Fvy317 f = F f := fun f n12 => ((hFvy317 f n12).trans ((hFvy27 f n12).trans ((uZ_n _ _ n12).trans rfl)))
      have hey323 : Fvy317 13 = F 13 := ((hFvy317 13 (by decide)).trans ((hFvy27 13 (by decide)).trans (fn rfl (by decide))))
      have hey324 : Fvy317 14 = F 14 := ((hFvy317 14 (by decide)).trans ((hFvy27 14 (by decide)).trans (fn rfl (by decide))))
      have hey325 : Fvy317 15 = F 15 := ((hFvy317 15 (by decide)).trans ((hFvy27 15 (by decide)).trans (fn rfl (by decide))))
      have hey326 : Fvy317 16 = F 16 := ((hFvy317 16 (by decide)).trans ((hFvy27 16 (by decide)).trans (fn rfl (by decide))))
      have hey327 : Fvy317 17 = F 17 := ((hFvy317 17 (by decide)).trans ((hFvy27 17 (by decide)).trans (fn rfl (by decide))))
      have hey328 : Fvy317 18 = F 18 := ((hFvy317 18 (by decide)).trans ((hFvy27 18 (by decide)).trans (fn rfl (by decide))))
      have hey329 : Fvy317 19 = F 19 := ((hFvy317 19 (by decide)).trans ((hFvy27 19 (by decide)).trans (fn rfl (by decide))))
      have hey330 : Fvy317 20 = F 20 := ((hFvy317 20 (by decide)).trans ((hFvy27 20 (by decide)).trans (fn rfl (by decide))))
      have hey331 : Fvy317 23 = F 23 := ((hFvy317 23 (by decide)).trans ((hFvy27 23 (by decide)).trans (fn rfl (by decide))))
      have hey332 : Fvy317 25 = F 25 := ((hFvy317 25 (by decide)).trans ((hFvy27 25 (by decide)).trans (fn rfl (by decide))))
      have hey333 : Fvy317 27 = F 27 := ((hFvy317 27 (by decide)).trans ((hFvy27 27 (by decide)).trans (fn rfl (by decide))))
      have hey334 : Fvy317 28 = F 28 := ((hFvy317 28 (by decide)).trans ((hFvy27 28 (by decide)).trans (fn rfl (by decide))))
      have hey335 : Fvy317 29 = F 29 := ((hFvy317 29 (by decide)).trans ((hFvy27 29 (by decide)).trans (fn rfl (by decide))))
      have hKy336 : okF Fvy317 := by unfold okF; omega
      have hMy337 : okMr cs ad gvy317 i (x + 1) Fvy317 r := okMr.upd hM hcvy317 hKy336 (fun f a => hFy322 f (by omega)) hgy321 (hA.mono (by omega)) (fun j a b => by
          exact Or.inl (by rw [hfvy317 _ (by omega)]; rw [hfvy27 _ (by omega)]; rw [egy25, va_up_ne _ _ (by omega)]))
      have h23 : Fvy317 23 = F 23 := ((hFvy317 23 (by decide)).trans ((hFvy27 23 (by decide)).trans (fn rfl (by decide))))
      exact z_iret C hr hlk dX10_slope_29 (by decide) (by decide) ⟨0, rfl, rfl, rfl, by omega, ⟨_, _, hMy337, by omega⟩, fun j j1 => by rw [hfvy317 _ (by omega)]; rw [hfvy27 _ (by omega)]; rw [egy25, va_up_ne _ _ (by omega)]⟩
  · refine z_if_eq (tgt := 28) C dX10_slope_10 (by decide) (by omega) (fun _ => ?_) (fun h => absurd h (by omega))
    refine z_iconst (z := 0) C dX10_slope_28 rfl ?_
    have hgy338 := up_n egy25 ha1 (ne_o (i := i) (c := 1) (d := 0) rfl)
    have hgy339 := (hfvy27 (i + 1) (ne_o (i := i) (c := 1) (d := 0) rfl)).trans hgy338
    have hFy340 : ∀ f, f ≠ 12 → Fvy27 f = F f := fun f n12 => ((hFvy27 f n12).trans ((uZ_n _ _ n12).trans rfl))
    have hey341 : Fvy27 13 = F 13 := ((hFvy27 13 (by decide)).trans (fn rfl (by decide)))
    have hey342 : Fvy27 14 = F 14 := ((hFvy27 14 (by decide)).trans (fn rfl (by decide)))
    have hey343 : Fvy27 15 = F 15 := ((hFvy27 15 (by decide)).trans (fn rfl (by decide)))
    have hey344 : Fvy27 16 = F 16 := ((hFvy27 16 (by decide)).trans (fn rfl (by decide)))
    have hey345 : Fvy27 17 = F 17 := ((hFvy27 17 (by decide)).trans (fn rfl (by decide)))
    have hey346 : Fvy27 18 = F 18 := ((hFvy27 18 (by decide)).trans (fn rfl (by decide)))
    have hey347 : Fvy27 19 = F 19 := ((hFvy27 19 (by decide)).trans (fn rfl (by decide)))
    have hey348 : Fvy27 20 = F 20 := ((hFvy27 20 (by decide)).trans (fn rfl (by decide)))
    have hey349 : Fvy27 23 = F 23 := ((hFvy27 23 (by decide)).trans (fn rfl (by decide)))
    have hey350 : Fvy27 25 = F 25 := ((hFvy27 25 (by decide)).trans (fn rfl (by decide)))
    have hey351 : Fvy27 27 = F 27 := ((hFvy27 27 (by decide)).trans (fn rfl (by decide)))
    have hey352 : Fvy27 28 = F 28 := ((hFvy27 28 (by decide)).trans (fn rfl (by decide)))
    have hey353 : Fvy27 29 = F 29 := ((hFvy27 29 (by decide)).trans (fn rfl (by decide)))
    have hKy354 : okF Fvy27 := by unfold okF; omega
    have hMy355 : okMr cs ad gvy27 i (x + 1) Fvy27 r := okMr.upd hM hcvy27 hKy354 (fun f a => hFy340 f (by omega)) hgy339 (hA.mono (by omega)) (fun j a b => by
        exact Or.inl (by rw [hfvy27 _ (by omega)]; rw [egy25, va_up_ne _ _ (by omega)]))
    have h23 : Fvy27 23 = F 23 := ((hFvy27 23 (by decide)).trans (fn rfl (by decide)))
    exact z_iret C hr hlk dX10_slope_29 (by decide) (by decide) ⟨0, rfl, rfl, rfl, by omega, ⟨_, _, hMy355, by omega⟩, fun j j1 => by rw [hfvy27 _ (by omega)]; rw [egy25, va_up_ne _ _ (by omega)]⟩

set_option maxRecDepth 100000 in
set_option maxHeartbeats 4000000 in
theorem c_X10_slope_b (l : Launch) (D : va_G) (A : Nat → Prop) (cs : Nat → ClassId) (tt : Nat) (N : Nat) (ad : Nat → Nat) (g : Nat → va_E) (i : Nat) (hN : i + 30 ≤ N) (x : Int) (hx : 0 ≤ x ∧ x ≤ 512) (F r : Nat → Int) (hM : okMr cs ad g i x F r) (z : Int) (hz : -2147483648 ≤ z ∧ z ≤ 2147483647) (hzo : z < 0 ∨ 3 < z) (z1 : Int) (hz1 : -2147483648 ≤ z1 ∧ z1 ≤ 2147483647) : zM l yX10_slope cX10_slope 3 (some .int) ({ frames := 11, cells := 0, slots := 0, locals := 660 } : Room) D A cs tt N ad g [.ref (ad i), .int (zI (z)), .int (zI (z1))] (rI0 N ad fun q g' => (-2147483648 ≤ q ∧ q ≤ 2147483647) ∧ (∃ F' r' : Nat → Int, okMr cs ad g' i (x + 1) F' r' ∧ F' 23 = F 23) ∧ ∀ j, j < i ∨ i + 30 ≤ j → g' j = g j) := by
  obtain ⟨hg, ⟨⟨e13, e14, e25, e27, e29⟩, k15, k16, k17, k18, k19, k20, k23⟩, hRD, hTx, hA, st, op, ai, fa, mu, tb, ns, nh, nd, rf, pi, tp, te, ki, li, ok1, ok2, fo, dd, dps, ⟨ha1, ha2, ha3, ha4, ha5, ha6, ha7, ha8, ha9, ha10, ha11, ha12, ha13, ha14, ha15, ha24, ha25, ha26, ha27, ha28, ha29⟩, hEv, hPt, hns, htp⟩ := id hM
  obtain ⟨-, hop, hai, hfa, hT, hT1⟩ := id hEv
  have hay1 : zAt ad (i) (ad i) := rfl
  have hay2 : zAt ad (i + 1) (ad (i + 1)) := rfl
  have hay3 : zAt ad (i + 2) (ad (i + 2)) := rfl
  have hay4 : zAt ad (i + 3) (ad (i + 3)) := rfl
  have hay5 : zAt ad (i + 4) (ad (i + 4)) := rfl
  have hay6 : zAt ad (i + 5) (ad (i + 5)) := rfl
  have hay7 : zAt ad (i + 6) (ad (i + 6)) := rfl
  have hay8 : zAt ad (i + 7) (ad (i + 7)) := rfl
  have hay9 : zAt ad (i + 8) (ad (i + 8)) := rfl
  have hay10 : zAt ad (i + 9) (ad (i + 9)) := rfl
  have hay11 : zAt ad (i + 10) (ad (i + 10)) := rfl
  have hay12 : zAt ad (i + 11) (ad (i + 11)) := rfl
  have hay13 : zAt ad (i + 12) (ad (i + 12)) := rfl
  have hay14 : zAt ad (i + 13) (ad (i + 13)) := rfl
  have hay15 : zAt ad (i + 14) (ad (i + 14)) := rfl
  have hay16 : zAt ad (i + 15) (ad (i + 15)) := rfl
  have hay17 : zAt ad (i + 24) (ad (i + 24)) := rfl
  have hay18 : zAt ad (i + 25) (ad (i + 25)) := rfl
  have hay19 : zAt ad (i + 26) (ad (i + 26)) := rfl
  have hay20 : zAt ad (i + 27) (ad (i + 27)) := rfl
  have hay21 : zAt ad (i + 28) (ad (i + 28)) := rfl
  have hay22 : zAt ad (i + 29) (ad (i + 29)) := rfl
  obtain ⟨⟨hsyy23, htyy23, hnyy23, hpyy23⟩, hlyy23⟩ := okA.at0 hA
  simp only [Nat.zero_add] at hsyy23 hnyy23 hpyy23
  have hmn : ∀ s, s < 4 → 0 ≤ r (6 + 86 * s) ∧ r (6 + 86 * s) ≤ 12 := fun s hs => (hsyy23 s hs).1
  have h5 : 0 ≤ r 5 ∧ r 5 ≤ 6 := hpyy23
  refine z_of (by decide) (Nat.le_of_ble_eq_true rfl) ?_
  intro pZ eZ sZ mZ below meth cZ C hr hlk hnm
  refine z_lv (lv' := [(0, .ref (ad i)), (1, .int (zI (z))), (2, .int (zI (z1)))]) [0, 1, 2] rfl ?_
  refine z_aload_n C 0 dX10_slope_0 rfl ?_
  refine z_iconst (z := 0) C dX10_slope_1 rfl ?_
  refine z_put (fs' := mF ad (i) (uZ F 12 (0))) C (by omega) hay1 hg tyX10 tyX10_ok nmX10 rfl inA_X10 12 (by decide) q_1471 rfl rfl rfl rfl (Nat.le_of_ble_eq_true rfl) rfl dX10_slope_2 (fun gy24 egy25 => ?_)
  have hgy26 := up_s egy25
  refine z_aload_n C 0 dX10_slope_5 rfl ?_
  refine z_iload_n C 1 dX10_slope_6 rfl ?_
  have h13vy27 : (uZ F 12 (0)) 13 = F 13 := (fn rfl (by decide))
  have hey28 : (uZ F 12 (0)) 12 = 0 := (uZ_s _ _ _)
  refine z_cV (As := [.int (zI (z))]) (rest := []) (ci := 12) C (c_X10_isSlope l D A cs tt N ad _ i hN _ hgy26 (by omega) (by omega) (z) (by omega)) (by omega) hay1 hgy26 rfl rfl mv_yX10_isSlope q_1803 hd_yX10_isSlope (by decide) (Nat.le_of_ble_eq_true rfl) (by decide) dX10_slope_7 rfl (kI0 fun vy27 gvy27 hvy27 => ?_)
  rw [h13vy27] at hvy27
  obtain ⟨hrvy27, ⟨Fvy27, hcvy27, htvy27, hFvy27⟩, hfvy27⟩ := hvy27
  obtain rfl : vy27 = 0 := by omega
  refine z_if_eq (tgt := 28) C dX10_slope_10 (by decide) (by omega) (fun _ => ?_) (fun h => absurd h (by omega))
  refine z_iconst (z := 0) C dX10_slope_28 rfl ?_
  have hgy29 := up_n egy25 ha1 (ne_o (i := i) (c := 1) (d := 0) rfl)
  have hgy30 := (hfvy27 (i + 1) (ne_o (i := i) (c := 1) (d := 0) rfl)).trans hgy29
  have hFy31 : ∀ f, f ≠ 12 → Fvy27 f = F f := fun f n12 => ((hFvy27 f n12).trans ((uZ_n _ _ n12).trans rfl))
  have hey32 : Fvy27 13 = F 13 := ((hFvy27 13 (by decide)).trans (fn rfl (by decide)))
  have hey33 : Fvy27 14 = F 14 := ((hFvy27 14 (by decide)).trans (fn rfl (by decide)))
  have hey34 : Fvy27 15 = F 15 := ((hFvy27 15 (by decide)).trans (fn rfl (by decide)))
  have hey35 : Fvy27 16 = F 16 := ((hFvy27 16 (by decide)).trans (fn rfl (by decide)))
  have hey36 : Fvy27 17 = F 17 := ((hFvy27 17 (by decide)).trans (fn rfl (by decide)))
  have hey37 : Fvy27 18 = F 18 := ((hFvy27 18 (by decide)).trans (fn rfl (by decide)))
  have hey38 : Fvy27 19 = F 19 := ((hFvy27 19 (by decide)).trans (fn rfl (by decide)))
  have hey39 : Fvy27 20 = F 20 := ((hFvy27 20 (by decide)).trans (fn rfl (by decide)))
  have hey40 : Fvy27 23 = F 23 := ((hFvy27 23 (by decide)).trans (fn rfl (by decide)))
  have hey41 : Fvy27 25 = F 25 := ((hFvy27 25 (by decide)).trans (fn rfl (by decide)))
  have hey42 : Fvy27 27 = F 27 := ((hFvy27 27 (by decide)).trans (fn rfl (by decide)))
  have hey43 : Fvy27 28 = F 28 := ((hFvy27 28 (by decide)).trans (fn rfl (by decide)))
  have hey44 : Fvy27 29 = F 29 := ((hFvy27 29 (by decide)).trans (fn rfl (by decide)))
  have hKy45 : okF Fvy27 := by unfold okF; omega
  have hMy46 : okMr cs ad gvy27 i (x + 1) Fvy27 r := okMr.upd hM hcvy27 hKy45 (fun f a => hFy31 f (by omega)) hgy30 (hA.mono (by omega)) (fun j a b => by
      exact Or.inl (by rw [hfvy27 _ (by omega)]; rw [egy25, va_up_ne _ _ (by omega)]))
  have h23 : Fvy27 23 = F 23 := ((hFvy27 23 (by decide)).trans (fn rfl (by decide)))
  exact z_iret C hr hlk dX10_slope_29 (by decide) (by decide) ⟨0, rfl, rfl, rfl, by omega, ⟨_, _, hMy46, by omega⟩, fun j j1 => by rw [hfvy27 _ (by omega)]; rw [egy25, va_up_ne _ _ (by omega)]⟩

set_option maxRecDepth 100000 in
set_option maxHeartbeats 4000000 in
theorem c_X10_slope (l : Launch) (D : va_G) (A : Nat → Prop) (cs : Nat → ClassId) (tt : Nat) (N : Nat) (ad : Nat → Nat) (g : Nat → va_E) (i : Nat) (hN : i + 30 ≤ N) (x : Int) (hx : 0 ≤ x ∧ x ≤ 512) (F r : Nat → Int) (hM : okMr cs ad g i x F r) (z : Int) (hz : -2147483648 ≤ z ∧ z ≤ 2147483647) (z1 : Int) (hz1 : -2147483648 ≤ z1 ∧ z1 ≤ 2147483647) : zM l yX10_slope cX10_slope 3 (some .int) ({ frames := 11, cells := 0, slots := 0, locals := 660 } : Room) D A cs tt N ad g [.ref (ad i), .int (zI (z)), .int (zI (z1))] (rI0 N ad fun q g' => (-2147483648 ≤ q ∧ q ≤ 2147483647) ∧ (∃ F' r' : Nat → Int, okMr cs ad g' i (x + 1) F' r' ∧ F' 23 = F 23) ∧ ∀ j, j < i ∨ i + 30 ≤ j → g' j = g j) := by
  by_cases h9 : 0 ≤ z ∧ z ≤ 3
  · obtain ⟨n, rfl⟩ : ∃ n : Nat, z = (n : Int) := ⟨z.toNat, by omega⟩
    exact c_X10_slope_a l D A cs tt N ad g i hN x hx F r hM n (by omega) z1 hz1
  · exact c_X10_slope_b l D A cs tt N ad g i hN x hx F r hM z hz (by omega) z1 hz1

set_option maxRecDepth 100000 in
set_option maxHeartbeats 4000000 in
theorem c_X10_layer_a (l : Launch) (D : va_G) (A : Nat → Prop) (cs : Nat → ClassId) (tt : Nat) (N : Nat) (ad : Nat → Nat) (g : Nat → va_E) (i : Nat) (hN : i + 30 ≤ N) (x : Int) (hx : 0 ≤ x ∧ x ≤ 512) (F r : Nat → Int) (hM : okMr cs ad g i x F r) (n : Nat) (hn4 : n < 4) (z1 : Int) (hz1 : -2147483648 ≤ z1 ∧ z1 ≤ 2147483647) (z2 : Int) (hz2 : -2147483648 ≤ z2 ∧ z2 ≤ 2147483647) : zM l yX10_layer cX10_layer 4 (some .int) ({ frames := 7, cells := 0, slots := 0, locals := 420 } : Room) D A cs tt N ad g [.ref (ad i), .int (zI ((n : Int))), .int (zI (z1)), .int (zI (z2))] (rI0 N ad fun q g' => (-2147483648 ≤ q ∧ q ≤ 2147483647) ∧ (∃ F' r' : Nat → Int, okMr cs ad g' i (x + 1) F' r' ∧ F' 23 = F 23) ∧ ∀ j, j < i ∨ i + 30 ≤ j → g' j = g j) := by
  obtain ⟨hg, ⟨⟨e13, e14, e25, e27, e29⟩, k15, k16, k17, k18, k19, k20, k23⟩, hRD, hTx, hA, st, op, ai, fa, mu, tb, ns, nh, nd, rf, pi, tp, te, ki, li, ok1, ok2, fo, dd, dps, ⟨ha1, ha2, ha3, ha4, ha5, ha6, ha7, ha8, ha9, ha10, ha11, ha12, ha13, ha14, ha15, ha24, ha25, ha26, ha27, ha28, ha29⟩, hEv, hPt, hns, htp⟩ := id hM
  obtain ⟨-, hop, hai, hfa, hT, hT1⟩ := id hEv
  have hay1 : zAt ad (i) (ad i) := rfl
  have hay2 : zAt ad (i + 1) (ad (i + 1)) := rfl
  have hay3 : zAt ad (i + 2) (ad (i + 2)) := rfl
  have hay4 : zAt ad (i + 3) (ad (i + 3)) := rfl
  have hay5 : zAt ad (i + 4) (ad (i + 4)) := rfl
  have hay6 : zAt ad (i + 5) (ad (i + 5)) := rfl
  have hay7 : zAt ad (i + 6) (ad (i + 6)) := rfl
  have hay8 : zAt ad (i + 7) (ad (i + 7)) := rfl
  have hay9 : zAt ad (i + 8) (ad (i + 8)) := rfl
  have hay10 : zAt ad (i + 9) (ad (i + 9)) := rfl
  have hay11 : zAt ad (i + 10) (ad (i + 10)) := rfl
  have hay12 : zAt ad (i + 11) (ad (i + 11)) := rfl
  have hay13 : zAt ad (i + 12) (ad (i + 12)) := rfl
  have hay14 : zAt ad (i + 13) (ad (i + 13)) := rfl
  have hay15 : zAt ad (i + 14) (ad (i + 14)) := rfl
  have hay16 : zAt ad (i + 15) (ad (i + 15)) := rfl
  have hay17 : zAt ad (i + 24) (ad (i + 24)) := rfl
  have hay18 : zAt ad (i + 25) (ad (i + 25)) := rfl
  have hay19 : zAt ad (i + 26) (ad (i + 26)) := rfl
  have hay20 : zAt ad (i + 27) (ad (i + 27)) := rfl
  have hay21 : zAt ad (i + 28) (ad (i + 28)) := rfl
  have hay22 : zAt ad (i + 29) (ad (i + 29)) := rfl
  obtain ⟨⟨hsyy23, htyy23, hnyy23, hpyy23⟩, hlyy23⟩ := okA.at0 hA
  simp only [Nat.zero_add] at hsyy23 hnyy23 hpyy23
  have hmn : ∀ s, s < 4 → 0 ≤ r (6 + 86 * s) ∧ r (6 + 86 * s) ≤ 12 := fun s hs => (hsyy23 s hs).1
  have h5 : 0 ≤ r 5 ∧ r 5 ≤ 6 := hpyy23
  refine z_of (by decide) (Nat.le_of_ble_eq_true rfl) ?_
  intro pZ eZ sZ mZ below meth cZ C hr hlk hnm
  refine z_lv (lv' := [(0, .ref (ad i)), (1, .int (zI ((n : Int)))), (2, .int (zI (z1))), (3, .int (zI (z2)))]) [0, 1, 2, 3] rfl ?_
  refine z_aload_n C 0 dX10_layer_0 rfl ?_
  refine z_iconst (z := 0) C dX10_layer_1 rfl ?_
  refine z_put (fs' := mF ad (i) (uZ F 12 (0))) C (by omega) hay1 hg tyX10 tyX10_ok nmX10 rfl inA_X10 12 (by decide) q_1471 rfl rfl rfl rfl (Nat.le_of_ble_eq_true rfl) rfl dX10_layer_2 (fun gy24 egy25 => ?_)
  have hgy26 := up_s egy25
  refine z_aload_n C 0 dX10_layer_5 rfl ?_
  refine z_iload_n C 1 dX10_layer_6 rfl ?_
  refine z_iload_n C 2 dX10_layer_7 rfl ?_
  have hgy27 := up_n egy25 ha1 (ne_o (i := i) (c := 1) (d := 0) rfl)
  have h13vy28 : (uZ F 12 (0)) 13 = F 13 := (fn rfl (by decide))
  have hey29 : (uZ F 12 (0)) 12 = 0 := (uZ_s _ _ _)
  obtain ⟨py30, hpy30⟩ : ∃ p9 : Nat, 0 + 6 + 86 * n = p9 := ⟨_, rfl⟩
  refine z_cV (As := [.int (zI ((n : Int))), .int (zI (z1))]) (rest := []) (ci := 12) C (c_X10_isLayer_a l D A cs tt N ad _ i hN _ hgy26 _ hgy27 hmn (by omega) (by omega) n py30 (by omega) (by omega) (z1) (by omega)) (by omega) hay1 hgy26 rfl rfl mv_yX10_isLayer q_1819 hd_yX10_isLayer (by decide) (Nat.le_of_ble_eq_true rfl) (by decide) dX10_layer_8 rfl (kI0 fun vy28 gvy28 hvy28 => ?_)
  rw [h13vy28] at hvy28
  obtain ⟨hrvy28, ⟨Fvy28, hcvy28, htvy28, hFvy28⟩, hfvy28⟩ := hvy28
  rcases (show vy28 = 1 ∨ vy28 = 0 by omega) with rfl | rfl
  · have hxvy28 := hrvy28.2 rfl
    have hmpy30 := hmn n (by omega)
    rw [show 6 + 86 * n = py30 by omega] at hmpy30
    refine z_if_eq (tgt := 29) C dX10_layer_11 (by decide) (by omega) (fun h => absurd h (by omega)) (fun _ => ?_)
    refine z_aload_n C 0 dX10_layer_14 rfl ?_
    refine z_iload_n C 3 dX10_layer_15 rfl ?_
    refine z_iconst (z := 0) C dX10_layer_16 rfl ?_
    refine z_bipush (z := 11) C dX10_layer_17 (by decide) ?_
    refine z_cS (As := [.int (zI (z2)), .int (zI (0)), .int (zI (11))]) (rest := [.ref (ad i)]) C (c_X10_within l D A cs tt N ad _ (z2) (by omega) (0) (by omega) (11) (by omega)) ms_yX10_within q_1686 hd_yX10_within (by decide) (Nat.le_of_ble_eq_true rfl) (by decide) dX10_layer_19 rfl (kI0 fun vy31 gvy31 hvy31 => ?_)
    obtain ⟨hvy31, rfl⟩ := hvy31
    rcases hvy31 with ⟨rfl, hxvy31⟩ | ⟨rfl, hxvy31⟩
    · refine z_iconst (z := 1) C dX10_layer_22 rfl ?_
      have hey33 : Fvy28 12 = Fvy28 12 := rfl
      refine z_cV (As := [.int (zI (1)), .int (zI (1))]) (rest := []) (ci := 12) C (c_X10_right l D A cs tt N ad _ i hN _ hcvy28 (by omega) (1) (by omega) (1) (by omega)) (by omega) hay1 hcvy28 rfl rfl mv_yX10_right q_1648 hd_yX10_right (by decide) (Nat.le_of_ble_eq_true rfl) (by decide) dX10_layer_23 rfl (kI0 fun vy32 gvy32 hvy32 => ?_)
      obtain ⟨hrvy32, ⟨Fvy32, hcvy32, htvy32, hFvy32⟩, hfvy32⟩ := hvy32
      rcases (show vy32 = 1 ∨ vy32 = 0 by omega) with rfl | rfl
      · refine z_if_ne (tgt := 31) C dX10_layer_26 (by decide) (by omega) (fun _ => ?_) (fun h => absurd h (by omega))
        refine z_iload_n C 3 dX10_layer_31 rfl ?_
        by_cases hsy34 : z2 ≠ 7 ∧ z2 ≠ 8 ∧ z2 ≠ 9 ∧ z2 ≠ 10 ∧ z2 ≠ 11
        · refine z_tout (tgt := 127) C dX10_layer_32 (by omega) (by omega) (by decide) ?_
          refine z_aload_n C 0 dX10_layer_127 rfl ?_
          refine z_iconst (z := 0) C dX10_layer_128 rfl ?_
          refine z_iload_n C 1 dX10_layer_129 rfl ?_
          refine z_iload_n C 2 dX10_layer_130 rfl ?_
          refine z_iload_n C 3 dX10_layer_131 rfl ?_
          obtain ⟨ky35, hky35⟩ : ∃ k9 : Nat, (z1) = (k9 : Int) := ⟨((z1) : Int).toNat, by omega⟩
          obtain ⟨qy36, hqy36⟩ : ∃ q9 : Nat, py30 + 2 + 7 * ky35 = q9 := ⟨_, rfl⟩
          have hgy37 := (hfvy28 (i + 1) (ne_o (i := i) (c := 1) (d := 0) rfl)).trans hgy27
          have hgy38 := (hfvy32 (i + 1) (ne_o (i := i) (c := 1) (d := 0) rfl)).trans hgy37
          refine z_cV (As := [.int (zI (0)), .int (zI ((n : Int))), .int (zI (z1)), .int (zI (z2))]) (rest := []) (ci := 12) C (c_X10_of l D A cs tt N ad _ i hN _ hcvy32 _ hgy38 0 n py30 hpy30 (by omega) (by omega) (z1) (z2) (qy36 + (z2).toNat) (by omega) (by omega) (by omega)) (by omega) hay1 hcvy32 rfl rfl mv_yX10_of q_1749 hd_yX10_of (by decide) (Nat.le_of_ble_eq_true rfl) (by decide) dX10_layer_132 rfl (kI0 fun vy39 gvy39 hvy39 => ?_)
          obtain ⟨rfl, rfl⟩ := hvy39
          obtain ⟨xy40, exy41, hxy42⟩ := zI_of (zI (r (qy36 + (z2).toNat)))
          rw [exy41]
          have hFy43 : ∀ f, f ≠ 12 → Fvy32 f = F f := fun f n12 => ((hFvy32 f n12).trans ((hFvy28 f n12).trans ((uZ_n _ _ n12).trans rfl)))
          have hey44 : Fvy32 13 = F 13 := ((hFvy32 13 (by decide)).trans ((hFvy28 13 (by decide)).trans (fn rfl (by decide))))
          have hey45 : Fvy32 14 = F 14 := ((hFvy32 14 (by decide)).trans ((hFvy28 14 (by decide)).trans (fn rfl (by decide))))
          have hey46 : Fvy32 15 = F 15 := ((hFvy32 15 (by decide)).trans ((hFvy28 15 (by decide)).trans (fn rfl (by decide))))
          have hey47 : Fvy32 16 = F 16 := ((hFvy32 16 (by decide)).trans ((hFvy28 16 (by decide)).trans (fn rfl (by decide))))
          have hey48 : Fvy32 17 = F 17 := ((hFvy32 17 (by decide)).trans ((hFvy28 17 (by decide)).trans (fn rfl (by decide))))
          have hey49 : Fvy32 18 = F 18 := ((hFvy32 18 (by decide)).trans ((hFvy28 18 (by decide)).trans (fn rfl (by decide))))
          have hey50 : Fvy32 19 = F 19 := ((hFvy32 19 (by decide)).trans ((hFvy28 19 (by decide)).trans (fn rfl (by decide))))
          have hey51 : Fvy32 20 = F 20 := ((hFvy32 20 (by decide)).trans ((hFvy28 20 (by decide)).trans (fn rfl (by decide))))
          have hey52 : Fvy32 23 = F 23 := ((hFvy32 23 (by decide)).trans ((hFvy28 23 (by decide)).trans (fn rfl (by decide))))
          have hey53 : Fvy32 25 = F 25 := ((hFvy32 25 (by decide)).trans ((hFvy28 25 (by decide)).trans (fn rfl (by decide))))
          have hey54 : Fvy32 27 = F 27 := ((hFvy32 27 (by decide)).trans ((hFvy28 27 (by decide)).trans (fn rfl (by decide))))
          have hey55 : Fvy32 28 = F 28 := ((hFvy32 28 (by decide)).trans ((hFvy28 28 (by decide)).trans (fn rfl (by decide))))
          have hey56 : Fvy32 29 = F 29 := ((hFvy32 29 (by decide)).trans ((hFvy28 29 (by decide)).trans (fn rfl (by decide))))
          have hKy57 : okF Fvy32 := by unfold okF; omega
          have hMy58 : okMr cs ad gvy32 i (x + 1) Fvy32 r := okMr.upd hM hcvy32 hKy57 (fun f a => hFy43 f (by omega)) hgy38 (hA.mono (by omega)) (fun j a b => by
              exact Or.inl (by rw [hfvy32 _ (by omega)]; rw [hfvy28 _ (by omega)]; rw [egy25, va_up_ne _ _ (by omega)]))
          have h23 : Fvy32 23 = F 23 := ((hFvy32 23 (by decide)).trans ((hFvy28 23 (by decide)).trans (fn rfl (by decide))))
          exact z_iret C hr hlk dX10_layer_135 (by decide) (by decide) ⟨xy40, rfl, rfl, rfl, by omega, ⟨_, _, hMy58, by omega⟩, fun j j1 => by rw [hfvy32 _ (by omega)]; rw [hfvy28 _ (by omega)]; rw [egy25, va_up_ne _ _ (by omega)]⟩
        · rcases (show z2 = 7 ∨ z2 = 8 ∨ z2 = 9 ∨ z2 = 10 ∨ z2 = 11 by omega) with rfl | rfl | rfl | rfl | rfl
          · refine z_tin (off := 36) (tgt := 68) C dX10_layer_32 (by omega) (by omega) (by omega) rfl (by decide) ?_
            refine z_aload_n C 0 dX10_layer_68 rfl ?_
            refine z_iconst (z := 0) C dX10_layer_69 rfl ?_
            refine z_iload_n C 1 dX10_layer_70 rfl ?_
            refine z_iload_n C 2 dX10_layer_71 rfl ?_
            have hSy59 := ((okA.at0 hA).1.1 n (by omega)).of (p2 := py30) (by omega)
            obtain ⟨b1hSy59, b2hSy59, b3hSy59, b4hSy59⟩ := mBb (t := r 0 + x) (by omega)
            have hmky60 := hSy59.1
            have hgy61 := (hfvy28 (i + 1) (ne_o (i := i) (c := 1) (d := 0) rfl)).trans hgy27
            have hgy62 := (hfvy32 (i + 1) (ne_o (i := i) (c := 1) (d := 0) rfl)).trans hgy61
            refine z_cV (As := [.int (zI (0)), .int (zI ((n : Int))), .int (zI (z1))]) (rest := []) (ci := 12) C (c_X10_load l D A cs tt N ad _ i hN _ hcvy32 _ hgy62 0 n py30 hpy30 (by omega) (by omega) (mB (r 0 + x)) (eB (r 0 + x)) (by omega) (by omega) hSy59 (z1) (by omega)) (by omega) hay1 hcvy32 rfl rfl mv_yX10_load q_1823 hd_yX10_load (by decide) (Nat.le_of_ble_eq_true rfl) (by decide) dX10_layer_72 rfl (kI0 fun vy63 gvy63 hvy63 => ?_)
            obtain ⟨hvy63, rfl⟩ := hvy63
            have hFy64 : ∀ f, f ≠ 12 → Fvy32 f = F f := fun f n12 => ((hFvy32 f n12).trans ((hFvy28 f n12).trans ((uZ_n _ _ n12).trans rfl)))
            have hey65 : Fvy32 13 = F 13 := ((hFvy32 13 (by decide)).trans ((hFvy28 13 (by decide)).trans (fn rfl (by decide))))
            have hey66 : Fvy32 14 = F 14 := ((hFvy32 14 (by decide)).trans ((hFvy28 14 (by decide)).trans (fn rfl (by decide))))
            have hey67 : Fvy32 15 = F 15 := ((hFvy32 15 (by decide)).trans ((hFvy28 15 (by decide)).trans (fn rfl (by decide))))
            have hey68 : Fvy32 16 = F 16 := ((hFvy32 16 (by decide)).trans ((hFvy28 16 (by decide)).trans (fn rfl (by decide))))
            have hey69 : Fvy32 17 = F 17 := ((hFvy32 17 (by decide)).trans ((hFvy28 17 (by decide)).trans (fn rfl (by decide))))
            have hey70 : Fvy32 18 = F 18 := ((hFvy32 18 (by decide)).trans ((hFvy28 18 (by decide)).trans (fn rfl (by decide))))
            have hey71 : Fvy32 19 = F 19 := ((hFvy32 19 (by decide)).trans ((hFvy28 19 (by decide)).trans (fn rfl (by decide))))
            have hey72 : Fvy32 20 = F 20 := ((hFvy32 20 (by decide)).trans ((hFvy28 20 (by decide)).trans (fn rfl (by decide))))
            have hey73 : Fvy32 23 = F 23 := ((hFvy32 23 (by decide)).trans ((hFvy28 23 (by decide)).trans (fn rfl (by decide))))
            have hey74 : Fvy32 25 = F 25 := ((hFvy32 25 (by decide)).trans ((hFvy28 25 (by decide)).trans (fn rfl (by decide))))
            have hey75 : Fvy32 27 = F 27 := ((hFvy32 27 (by decide)).trans ((hFvy28 27 (by decide)).trans (fn rfl (by decide))))
            have hey76 : Fvy32 28 = F 28 := ((hFvy32 28 (by decide)).trans ((hFvy28 28 (by decide)).trans (fn rfl (by decide))))
            have hey77 : Fvy32 29 = F 29 := ((hFvy32 29 (by decide)).trans ((hFvy28 29 (by decide)).trans (fn rfl (by decide))))
            have hKy78 : okF Fvy32 := by unfold okF; omega
            have hMy79 : okMr cs ad gvy32 i (x + 1) Fvy32 r := okMr.upd hM hcvy32 hKy78 (fun f a => hFy64 f (by omega)) hgy62 (hA.mono (by omega)) (fun j a b => by
                exact Or.inl (by rw [hfvy32 _ (by omega)]; rw [hfvy28 _ (by omega)]; rw [egy25, va_up_ne _ _ (by omega)]))
            have h23 : Fvy32 23 = F 23 := ((hFvy32 23 (by decide)).trans ((hFvy28 23 (by decide)).trans (fn rfl (by decide))))
            exact z_iret C hr hlk dX10_layer_75 (by decide) (by decide) ⟨vy63, rfl, rfl, rfl, by omega, ⟨_, _, hMy79, by omega⟩, fun j j1 => by rw [hfvy32 _ (by omega)]; rw [hfvy28 _ (by omega)]; rw [egy25, va_up_ne _ _ (by omega)]⟩
          · refine z_tin (off := 44) (tgt := 76) C dX10_layer_32 (by omega) (by omega) (by omega) rfl (by decide) ?_
            refine z_aload_n C 0 dX10_layer_76 rfl ?_
            refine z_iconst (z := 0) C dX10_layer_77 rfl ?_
            refine z_iload_n C 1 dX10_layer_78 rfl ?_
            refine z_iload_n C 2 dX10_layer_79 rfl ?_
            refine z_aload_n C 0 dX10_layer_80 rfl ?_
            refine z_iconst (z := 0) C dX10_layer_81 rfl ?_
            have hgy80 := (hfvy28 (i + 1) (ne_o (i := i) (c := 1) (d := 0) rfl)).trans hgy27
            have hgy81 := (hfvy32 (i + 1) (ne_o (i := i) (c := 1) (d := 0) rfl)).trans hgy80
            have hey83 : Fvy32 14 = F 14 := ((hFvy32 14 (by decide)).trans ((hFvy28 14 (by decide)).trans (fn rfl (by decide))))
            have hey84 : Fvy32 25 = F 25 := ((hFvy32 25 (by decide)).trans ((hFvy28 25 (by decide)).trans (fn rfl (by decide))))
            have hgy85 := up_n egy25 ha4 (ne_o (i := i) (c := 4) (d := 0) rfl)
            have hgy86 := (hfvy28 (i + 4) (ne_o (i := i) (c := 4) (d := 0) rfl)).trans hgy85
            have hgy87 := (hfvy32 (i + 4) (ne_o (i := i) (c := 4) (d := 0) rfl)).trans hgy86
            refine z_cV (As := [.int (zI (0))]) (rest := [.int (zI (z1)), .int (zI ((n : Int))), .int (zI (0)), .ref (ad i)]) (ci := 12) C (c_X10_airOf l D A cs tt N ad _ i hN _ hcvy32 _ hgy81 _ hgy87 0 (by omega) (by omega) (by omega) (by omega) hai) (by omega) hay1 hcvy32 rfl rfl mv_yX10_airOf q_1827 hd_yX10_airOf (by decide) (Nat.le_of_ble_eq_true rfl) (by decide) dX10_layer_82 rfl (kI0 fun vy82 gvy82 hvy82 => ?_)
            obtain ⟨hvy82, rfl⟩ := hvy82
            have hqy89 : qS r py30 := (((okA.at0 hA).1.1 n (by omega)).of (p2 := py30) (by omega)).q (by have hb9 := mBb (t := r 0 + x) (by omega); omega)
            have hmky90 := hqy89.1
            refine z_cV (As := [.int (zI (0)), .int (zI ((n : Int))), .int (zI (z1)), .int (zI (vy82))]) (rest := []) (ci := 12) C (c_X10_grade l D A cs tt N ad _ i hN _ hcvy32 _ hgy81 0 n py30 hpy30 (by omega) (by omega) hqy89 (z1) (by omega) (vy82) (by omega)) (by omega) hay1 hcvy32 rfl rfl mv_yX10_grade q_1835 hd_yX10_grade (by decide) (Nat.le_of_ble_eq_true rfl) (by decide) dX10_layer_85 rfl (kI0 fun vy88 gvy88 hvy88 => ?_)
            obtain ⟨hvy88, rfl⟩ := hvy88
            have hFy91 : ∀ f, f ≠ 12 → Fvy32 f = F f := fun f n12 => ((hFvy32 f n12).trans ((hFvy28 f n12).trans ((uZ_n _ _ n12).trans rfl)))
            have hey92 : Fvy32 13 = F 13 := ((hFvy32 13 (by decide)).trans ((hFvy28 13 (by decide)).trans (fn rfl (by decide))))
            have hey93 : Fvy32 14 = F 14 := ((hFvy32 14 (by decide)).trans ((hFvy28 14 (by decide)).trans (fn rfl (by decide))))
            have hey94 : Fvy32 15 = F 15 := ((hFvy32 15 (by decide)).trans ((hFvy28 15 (by decide)).trans (fn rfl (by decide))))
            have hey95 : Fvy32 16 = F 16 := ((hFvy32 16 (by decide)).trans ((hFvy28 16 (by decide)).trans (fn rfl (by decide))))
            have hey96 : Fvy32 17 = F 17 := ((hFvy32 17 (by decide)).trans ((hFvy28 17 (by decide)).trans (fn rfl (by decide))))
            have hey97 : Fvy32 18 = F 18 := ((hFvy32 18 (by decide)).trans ((hFvy28 18 (by decide)).trans (fn rfl (by decide))))
            have hey98 : Fvy32 19 = F 19 := ((hFvy32 19 (by decide)).trans ((hFvy28 19 (by decide)).trans (fn rfl (by decide))))
            have hey99 : Fvy32 20 = F 20 := ((hFvy32 20 (by decide)).trans ((hFvy28 20 (by decide)).trans (fn rfl (by decide))))
            have hey100 : Fvy32 23 = F 23 := ((hFvy32 23 (by decide)).trans ((hFvy28 23 (by decide)).trans (fn rfl (by decide))))
            have hey101 : Fvy32 25 = F 25 := ((hFvy32 25 (by decide)).trans ((hFvy28 25 (by decide)).trans (fn rfl (by decide))))
            have hey102 : Fvy32 27 = F 27 := ((hFvy32 27 (by decide)).trans ((hFvy28 27 (by decide)).trans (fn rfl (by decide))))
            have hey103 : Fvy32 28 = F 28 := ((hFvy32 28 (by decide)).trans ((hFvy28 28 (by decide)).trans (fn rfl (by decide))))
            have hey104 : Fvy32 29 = F 29 := ((hFvy32 29 (by decide)).trans ((hFvy28 29 (by decide)).trans (fn rfl (by decide))))
            have hKy105 : okF Fvy32 := by unfold okF; omega
            have hMy106 : okMr cs ad gvy32 i (x + 1) Fvy32 r := okMr.upd hM hcvy32 hKy105 (fun f a => hFy91 f (by omega)) hgy81 (hA.mono (by omega)) (fun j a b => by
                exact Or.inl (by rw [hfvy32 _ (by omega)]; rw [hfvy28 _ (by omega)]; rw [egy25, va_up_ne _ _ (by omega)]))
            have h23 : Fvy32 23 = F 23 := ((hFvy32 23 (by decide)).trans ((hFvy28 23 (by decide)).trans (fn rfl (by decide))))
            exact z_iret C hr hlk dX10_layer_88 (by decide) (by decide) ⟨vy88, rfl, rfl, rfl, by omega, ⟨_, _, hMy106, by omega⟩, fun j j1 => by rw [hfvy32 _ (by omega)]; rw [hfvy28 _ (by omega)]; rw [egy25, va_up_ne _ _ (by omega)]⟩
          · refine z_tin (off := 57) (tgt := 89) C dX10_layer_32 (by omega) (by omega) (by omega) rfl (by decide) ?_
            refine z_aload_n C 0 dX10_layer_89 rfl ?_
            refine z_iconst (z := 0) C dX10_layer_90 rfl ?_
            refine z_iload_n C 1 dX10_layer_91 rfl ?_
            refine z_iload_n C 2 dX10_layer_92 rfl ?_
            have hgy107 := (hfvy28 (i + 1) (ne_o (i := i) (c := 1) (d := 0) rfl)).trans hgy27
            have hgy108 := (hfvy32 (i + 1) (ne_o (i := i) (c := 1) (d := 0) rfl)).trans hgy107
            have hgy110 := up_n egy25 ha7 (ne_o (i := i) (c := 7) (d := 0) rfl)
            have hgy111 := (hfvy28 (i + 7) (ne_o (i := i) (c := 7) (d := 0) rfl)).trans hgy110
            have hgy112 := (hfvy32 (i + 7) (ne_o (i := i) (c := 7) (d := 0) rfl)).trans hgy111
            have hqy113 : qS r py30 := (((okA.at0 hA).1.1 n (by omega)).of (p2 := py30) (by omega)).q (by have hb9 := mBb (t := r 0 + x) (by omega); omega)
            have hmky114 := hqy113.1
            refine z_cV (As := [.int (zI (0)), .int (zI ((n : Int))), .int (zI (z1))]) (rest := []) (ci := 12) C (c_X10_strength l D A cs tt N ad _ i hN _ hcvy32 _ hgy108 _ hgy112 0 n py30 hpy30 (by omega) (by omega) hqy113 (z1) (by omega)) (by omega) hay1 hcvy32 rfl rfl mv_yX10_strength q_1788 hd_yX10_strength (by decide) (Nat.le_of_ble_eq_true rfl) (by decide) dX10_layer_93 rfl (kI0 fun vy109 gvy109 hvy109 => ?_)
            obtain ⟨hvy109, rfl⟩ := hvy109
            have hFy115 : ∀ f, f ≠ 12 → Fvy32 f = F f := fun f n12 => ((hFvy32 f n12).trans ((hFvy28 f n12).trans ((uZ_n _ _ n12).trans rfl)))
            have hey116 : Fvy32 13 = F 13 := ((hFvy32 13 (by decide)).trans ((hFvy28 13 (by decide)).trans (fn rfl (by decide))))
            have hey117 : Fvy32 14 = F 14 := ((hFvy32 14 (by decide)).trans ((hFvy28 14 (by decide)).trans (fn rfl (by decide))))
            have hey118 : Fvy32 15 = F 15 := ((hFvy32 15 (by decide)).trans ((hFvy28 15 (by decide)).trans (fn rfl (by decide))))
            have hey119 : Fvy32 16 = F 16 := ((hFvy32 16 (by decide)).trans ((hFvy28 16 (by decide)).trans (fn rfl (by decide))))
            have hey120 : Fvy32 17 = F 17 := ((hFvy32 17 (by decide)).trans ((hFvy28 17 (by decide)).trans (fn rfl (by decide))))
            have hey121 : Fvy32 18 = F 18 := ((hFvy32 18 (by decide)).trans ((hFvy28 18 (by decide)).trans (fn rfl (by decide))))
            have hey122 : Fvy32 19 = F 19 := ((hFvy32 19 (by decide)).trans ((hFvy28 19 (by decide)).trans (fn rfl (by decide))))
            have hey123 : Fvy32 20 = F 20 := ((hFvy32 20 (by decide)).trans ((hFvy28 20 (by decide)).trans (fn rfl (by decide))))
            have hey124 : Fvy32 23 = F 23 := ((hFvy32 23 (by decide)).trans ((hFvy28 23 (by decide)).trans (fn rfl (by decide))))
            have hey125 : Fvy32 25 = F 25 := ((hFvy32 25 (by decide)).trans ((hFvy28 25 (by decide)).trans (fn rfl (by decide))))
            have hey126 : Fvy32 27 = F 27 := ((hFvy32 27 (by decide)).trans ((hFvy28 27 (by decide)).trans (fn rfl (by decide))))
            have hey127 : Fvy32 28 = F 28 := ((hFvy32 28 (by decide)).trans ((hFvy28 28 (by decide)).trans (fn rfl (by decide))))
            have hey128 : Fvy32 29 = F 29 := ((hFvy32 29 (by decide)).trans ((hFvy28 29 (by decide)).trans (fn rfl (by decide))))
            have hKy129 : okF Fvy32 := by unfold okF; omega
            have hMy130 : okMr cs ad gvy32 i (x + 1) Fvy32 r := okMr.upd hM hcvy32 hKy129 (fun f a => hFy115 f (by omega)) hgy108 (hA.mono (by omega)) (fun j a b => by
                exact Or.inl (by rw [hfvy32 _ (by omega)]; rw [hfvy28 _ (by omega)]; rw [egy25, va_up_ne _ _ (by omega)]))
            have h23 : Fvy32 23 = F 23 := ((hFvy32 23 (by decide)).trans ((hFvy28 23 (by decide)).trans (fn rfl (by decide))))
            exact z_iret C hr hlk dX10_layer_96 (by decide) (by decide) ⟨vy109, rfl, rfl, rfl, by omega, ⟨_, _, hMy130, by omega⟩, fun j j1 => by rw [hfvy32 _ (by omega)]; rw [hfvy28 _ (by omega)]; rw [egy25, va_up_ne _ _ (by omega)]⟩
          · refine z_tin (off := 65) (tgt := 97) C dX10_layer_32 (by omega) (by omega) (by omega) rfl (by decide) ?_
            refine z_aload_n C 0 dX10_layer_97 rfl ?_
            refine z_iconst (z := 0) C dX10_layer_98 rfl ?_
            refine z_iload_n C 1 dX10_layer_99 rfl ?_
            refine z_iload_n C 2 dX10_layer_100 rfl ?_
            refine z_iconst (z := 0) C dX10_layer_101 rfl ?_
            refine z_aload_n C 0 dX10_layer_102 rfl ?_
            refine z_get (v := .ref (ad (i + 2))) C (by omega) hay1 hcvy32 rfl inA_X10 1 (by decide) q_1460 rfl rfl dX10_layer_103 ?_
            refine z_iload_n C 1 dX10_layer_106 rfl ?_
            have hgy131 := up_n egy25 ha2 (ne_o (i := i) (c := 2) (d := 0) rfl)
            have hgy132 := (hfvy28 (i + 2) (ne_o (i := i) (c := 2) (d := 0) rfl)).trans hgy131
            have hgy133 := (hfvy32 (i + 2) (ne_o (i := i) (c := 2) (d := 0) rfl)).trans hgy132
            refine z_iald C (by omega) hay3 hgy133 (n) (by omega) (by omega) (by decide) dX10_layer_107 ?_
            obtain ⟨xy134, exy135, hxy136⟩ := zI_of (zI (st (n)))
            rw [exy135]
            have hgy137 := (hfvy28 (i + 1) (ne_o (i := i) (c := 1) (d := 0) rfl)).trans hgy27
            have hgy138 := (hfvy32 (i + 1) (ne_o (i := i) (c := 1) (d := 0) rfl)).trans hgy137
            have hqy140 : qS r py30 := (((okA.at0 hA).1.1 n (by omega)).of (p2 := py30) (by omega)).q (by have hb9 := mBb (t := r 0 + x) (by omega); omega)
            have hmky141 := hqy140.1
            refine z_cV (As := [.int (zI (0)), .int (zI ((n : Int))), .int (zI (z1)), .int (zI (0)), .int (zI (xy134))]) (rest := []) (ci := 12) C (c_X10_burden l D A cs tt N ad _ i hN _ hcvy32 _ hgy138 0 n py30 hpy30 (by omega) (by omega) hqy140 (z1) (by omega) (0) (by omega) (xy134) (by omega)) (by omega) hay1 hcvy32 rfl rfl mv_yX10_burden q_1776 hd_yX10_burden (by decide) (Nat.le_of_ble_eq_true rfl) (by decide) dX10_layer_108 rfl (kI0 fun vy139 gvy139 hvy139 => ?_)
            obtain ⟨hvy139, hzvy139, rfl⟩ := hvy139
            have hFy142 : ∀ f, f ≠ 12 → Fvy32 f = F f := fun f n12 => ((hFvy32 f n12).trans ((hFvy28 f n12).trans ((uZ_n _ _ n12).trans rfl)))
            have hey143 : Fvy32 13 = F 13 := ((hFvy32 13 (by decide)).trans ((hFvy28 13 (by decide)).trans (fn rfl (by decide))))
            have hey144 : Fvy32 14 = F 14 := ((hFvy32 14 (by decide)).trans ((hFvy28 14 (by decide)).trans (fn rfl (by decide))))
            have hey145 : Fvy32 15 = F 15 := ((hFvy32 15 (by decide)).trans ((hFvy28 15 (by decide)).trans (fn rfl (by decide))))
            have hey146 : Fvy32 16 = F 16 := ((hFvy32 16 (by decide)).trans ((hFvy28 16 (by decide)).trans (fn rfl (by decide))))
            have hey147 : Fvy32 17 = F 17 := ((hFvy32 17 (by decide)).trans ((hFvy28 17 (by decide)).trans (fn rfl (by decide))))
            have hey148 : Fvy32 18 = F 18 := ((hFvy32 18 (by decide)).trans ((hFvy28 18 (by decide)).trans (fn rfl (by decide))))
            have hey149 : Fvy32 19 = F 19 := ((hFvy32 19 (by decide)).trans ((hFvy28 19 (by decide)).trans (fn rfl (by decide))))
            have hey150 : Fvy32 20 = F 20 := ((hFvy32 20 (by decide)).trans ((hFvy28 20 (by decide)).trans (fn rfl (by decide))))
            have hey151 : Fvy32 23 = F 23 := ((hFvy32 23 (by decide)).trans ((hFvy28 23 (by decide)).trans (fn rfl (by decide))))
            have hey152 : Fvy32 25 = F 25 := ((hFvy32 25 (by decide)).trans ((hFvy28 25 (by decide)).trans (fn rfl (by decide))))
            have hey153 : Fvy32 27 = F 27 := ((hFvy32 27 (by decide)).trans ((hFvy28 27 (by decide)).trans (fn rfl (by decide))))
            have hey154 : Fvy32 28 = F 28 := ((hFvy32 28 (by decide)).trans ((hFvy28 28 (by decide)).trans (fn rfl (by decide))))
            have hey155 : Fvy32 29 = F 29 := ((hFvy32 29 (by decide)).trans ((hFvy28 29 (by decide)).trans (fn rfl (by decide))))
            have hKy156 : okF Fvy32 := by unfold okF; omega
            have hMy157 : okMr cs ad gvy32 i (x + 1) Fvy32 r := okMr.upd hM hcvy32 hKy156 (fun f a => hFy142 f (by omega)) hgy138 (hA.mono (by omega)) (fun j a b => by
                exact Or.inl (by rw [hfvy32 _ (by omega)]; rw [hfvy28 _ (by omega)]; rw [egy25, va_up_ne _ _ (by omega)]))
            have h23 : Fvy32 23 = F 23 := ((hFvy32 23 (by decide)).trans ((hFvy28 23 (by decide)).trans (fn rfl (by decide))))
            exact z_iret C hr hlk dX10_layer_111 (by decide) (by decide) ⟨vy139, rfl, rfl, rfl, by omega, ⟨_, _, hMy157, by omega⟩, fun j j1 => by rw [hfvy32 _ (by omega)]; rw [hfvy28 _ (by omega)]; rw [egy25, va_up_ne _ _ (by omega)]⟩
          · refine z_tin (off := 80) (tgt := 112) C dX10_layer_32 (by omega) (by omega) (by omega) rfl (by decide) ?_
            refine z_aload_n C 0 dX10_layer_112 rfl ?_
            refine z_iconst (z := 0) C dX10_layer_113 rfl ?_
            refine z_iload_n C 1 dX10_layer_114 rfl ?_
            refine z_iload_n C 2 dX10_layer_115 rfl ?_
            refine z_iconst (z := 0) C dX10_layer_116 rfl ?_
            refine z_aload_n C 0 dX10_layer_117 rfl ?_
            refine z_get (v := .ref (ad (i + 2))) C (by omega) hay1 hcvy32 rfl inA_X10 1 (by decide) q_1460 rfl rfl dX10_layer_118 ?_
            refine z_iload_n C 1 dX10_layer_121 rfl ?_
            have hgy158 := up_n egy25 ha2 (ne_o (i := i) (c := 2) (d := 0) rfl)
            have hgy159 := (hfvy28 (i + 2) (ne_o (i := i) (c := 2) (d := 0) rfl)).trans hgy158
            have hgy160 := (hfvy32 (i + 2) (ne_o (i := i) (c := 2) (d := 0) rfl)).trans hgy159
            refine z_iald C (by omega) hay3 hgy160 (n) (by omega) (by omega) (by decide) dX10_layer_122 ?_
            obtain ⟨xy161, exy162, hxy163⟩ := zI_of (zI (st (n)))
            rw [exy162]
            have hgy164 := (hfvy28 (i + 1) (ne_o (i := i) (c := 1) (d := 0) rfl)).trans hgy27
            have hgy165 := (hfvy32 (i + 1) (ne_o (i := i) (c := 1) (d := 0) rfl)).trans hgy164
            have hgy167 := up_n egy25 ha7 (ne_o (i := i) (c := 7) (d := 0) rfl)
            have hgy168 := (hfvy28 (i + 7) (ne_o (i := i) (c := 7) (d := 0) rfl)).trans hgy167
            have hgy169 := (hfvy32 (i + 7) (ne_o (i := i) (c := 7) (d := 0) rfl)).trans hgy168
            have hqy170 : qS r py30 := (((okA.at0 hA).1.1 n (by omega)).of (p2 := py30) (by omega)).q (by have hb9 := mBb (t := r 0 + x) (by omega); omega)
            have hmky171 := hqy170.1
            refine z_cV (As := [.int (zI (0)), .int (zI ((n : Int))), .int (zI (z1)), .int (zI (0)), .int (zI (xy161))]) (rest := []) (ci := 12) C (c_X10_ratio l D A cs tt N ad _ i hN _ hcvy32 _ hgy165 _ hgy169 0 n py30 hpy30 (by omega) (by omega) hqy170 (z1) (by omega) (0) (by omega) (xy161) (by omega)) (by omega) hay1 hcvy32 rfl rfl mv_yX10_ratio q_1772 hd_yX10_ratio (by decide) (Nat.le_of_ble_eq_true rfl) (by decide) dX10_layer_123 rfl (kI0 fun vy166 gvy166 hvy166 => ?_)
            obtain ⟨hvy166, hzvy166, rfl⟩ := hvy166
            have hFy172 : ∀ f, f ≠ 12 → Fvy32 f = F f := fun f n12 => ((hFvy32 f n12).trans ((hFvy28 f n12).trans ((uZ_n _ _ n12).trans rfl)))
            have hey173 : Fvy32 13 = F 13 := ((hFvy32 13 (by decide)).trans ((hFvy28 13 (by decide)).trans (fn rfl (by decide))))
            have hey174 : Fvy32 14 = F 14 := ((hFvy32 14 (by decide)).trans ((hFvy28 14 (by decide)).trans (fn rfl (by decide))))
            have hey175 : Fvy32 15 = F 15 := ((hFvy32 15 (by decide)).trans ((hFvy28 15 (by decide)).trans (fn rfl (by decide))))
            have hey176 : Fvy32 16 = F 16 := ((hFvy32 16 (by decide)).trans ((hFvy28 16 (by decide)).trans (fn rfl (by decide))))
            have hey177 : Fvy32 17 = F 17 := ((hFvy32 17 (by decide)).trans ((hFvy28 17 (by decide)).trans (fn rfl (by decide))))
            have hey178 : Fvy32 18 = F 18 := ((hFvy32 18 (by decide)).trans ((hFvy28 18 (by decide)).trans (fn rfl (by decide))))
            have hey179 : Fvy32 19 = F 19 := ((hFvy32 19 (by decide)).trans ((hFvy28 19 (by decide)).trans (fn rfl (by decide))))
            have hey180 : Fvy32 20 = F 20 := ((hFvy32 20 (by decide)).trans ((hFvy28 20 (by decide)).trans (fn rfl (by decide))))
            have hey181 : Fvy32 23 = F 23 := ((hFvy32 23 (by decide)).trans ((hFvy28 23 (by decide)).trans (fn rfl (by decide))))
            have hey182 : Fvy32 25 = F 25 := ((hFvy32 25 (by decide)).trans ((hFvy28 25 (by decide)).trans (fn rfl (by decide))))
            have hey183 : Fvy32 27 = F 27 := ((hFvy32 27 (by decide)).trans ((hFvy28 27 (by decide)).trans (fn rfl (by decide))))
            have hey184 : Fvy32 28 = F 28 := ((hFvy32 28 (by decide)).trans ((hFvy28 28 (by decide)).trans (fn rfl (by decide))))
            have hey185 : Fvy32 29 = F 29 := ((hFvy32 29 (by decide)).trans ((hFvy28 29 (by decide)).trans (fn rfl (by decide))))
            have hKy186 : okF Fvy32 := by unfold okF; omega
            have hMy187 : okMr cs ad gvy32 i (x + 1) Fvy32 r := okMr.upd hM hcvy32 hKy186 (fun f a => hFy172 f (by omega)) hgy165 (hA.mono (by omega)) (fun j a b => by
                exact Or.inl (by rw [hfvy32 _ (by omega)]; rw [hfvy28 _ (by omega)]; rw [egy25, va_up_ne _ _ (by omega)]))
            have h23 : Fvy32 23 = F 23 := ((hFvy32 23 (by decide)).trans ((hFvy28 23 (by decide)).trans (fn rfl (by decide))))
            exact z_iret C hr hlk dX10_layer_126 (by decide) (by decide) ⟨vy166, rfl, rfl, rfl, by omega, ⟨_, _, hMy187, by omega⟩, fun j j1 => by rw [hfvy32 _ (by omega)]; rw [hfvy28 _ (by omega)]; rw [egy25, va_up_ne _ _ (by omega)]⟩
      · refine z_if_ne (tgt := 31) C dX10_layer_26 (by decide) (by omega) (fun h => absurd h (by omega)) (fun _ => ?_)
        refine z_iconst (z := 0) C dX10_layer_29 rfl ?_
        have hgy188 := (hfvy28 (i + 1) (ne_o (i := i) (c := 1) (d := 0) rfl)).trans hgy27
        have hgy189 := (hfvy32 (i + 1) (ne_o (i := i) (c := 1) (d := 0) rfl)).trans hgy188
        have hFy190 : ∀ f, f ≠ 12 → Fvy32 f = F f := fun f n12 => ((hFvy32 f n12).trans ((hFvy28 f n12).trans ((uZ_n _ _ n12).trans rfl)))
        have hey191 : Fvy32 13 = F 13 := ((hFvy32 13 (by decide)).trans ((hFvy28 13 (by decide)).trans (fn rfl (by decide))))
        have hey192 : Fvy32 14 = F 14 := ((hFvy32 14 (by decide)).trans ((hFvy28 14 (by decide)).trans (fn rfl (by decide))))
        have hey193 : Fvy32 15 = F 15 := ((hFvy32 15 (by decide)).trans ((hFvy28 15 (by decide)).trans (fn rfl (by decide))))
        have hey194 : Fvy32 16 = F 16 := ((hFvy32 16 (by decide)).trans ((hFvy28 16 (by decide)).trans (fn rfl (by decide))))
        have hey195 : Fvy32 17 = F 17 := ((hFvy32 17 (by decide)).trans ((hFvy28 17 (by decide)).trans (fn rfl (by decide))))
        have hey196 : Fvy32 18 = F 18 := ((hFvy32 18 (by decide)).trans ((hFvy28 18 (by decide)).trans (fn rfl (by decide))))
        have hey197 : Fvy32 19 = F 19 := ((hFvy32 19 (by decide)).trans ((hFvy28 19 (by decide)).trans (fn rfl (by decide))))
        have hey198 : Fvy32 20 = F 20 := ((hFvy32 20 (by decide)).trans ((hFvy28 20 (by decide)).trans (fn rfl (by decide))))
        have hey199 : Fvy32 23 = F 23 := ((hFvy32 23 (by decide)).trans ((hFvy28 23 (by decide)).trans (fn rfl (by decide))))
        have hey200 : Fvy32 25 = F 25 := ((hFvy32 25 (by decide)).trans ((hFvy28 25 (by decide)).trans (fn rfl (by decide))))
        have hey201 : Fvy32 27 = F 27 := ((hFvy32 27 (by decide)).trans ((hFvy28 27 (by decide)).trans (fn rfl (by decide))))
        have hey202 : Fvy32 28 = F 28 := ((hFvy32 28 (by decide)).trans ((hFvy28 28 (by decide)).trans (fn rfl (by decide))))
        have hey203 : Fvy32 29 = F 29 := ((hFvy32 29 (by decide)).trans ((hFvy28 29 (by decide)).trans (fn rfl (by decide))))
        have hKy204 : okF Fvy32 := by unfold okF; omega
        have hMy205 : okMr cs ad gvy32 i (x + 1) Fvy32 r := okMr.upd hM hcvy32 hKy204 (fun f a => hFy190 f (by omega)) hgy189 (hA.mono (by omega)) (fun j a b => by
            exact Or.inl (by rw [hfvy32 _ (by omega)]; rw [hfvy28 _ (by omega)]; rw [egy25, va_up_ne _ _ (by omega)]))
        have h23 : Fvy32 23 = F 23 := ((hFvy32 23 (by decide)).trans ((hFvy28 23 (by decide)).trans (fn rfl (by decide))))
        exact z_iret C hr hlk dX10_layer_30 (by decide) (by decide) ⟨0, rfl, rfl, rfl, by omega, ⟨_, _, hMy205, by omega⟩, fun j j1 => by rw [hfvy32 _ (by omega)]; rw [hfvy28 _ (by omega)]; rw [egy25, va_up_ne _ _ (by omega)]⟩
    · refine z_iconst (z := 1) C dX10_layer_22 rfl ?_
      have hey207 : Fvy28 12 = Fvy28 12 := rfl
      refine z_cV (As := [.int (zI (0)), .int (zI (1))]) (rest := []) (ci := 12) C (c_X10_right l D A cs tt N ad _ i hN _ hcvy28 (by omega) (0) (by omega) (1) (by omega)) (by omega) hay1 hcvy28 rfl rfl mv_yX10_right q_1648 hd_yX10_right (by decide) (Nat.le_of_ble_eq_true rfl) (by decide) dX10_layer_23 rfl (kI0 fun vy206 gvy206 hvy206 => ?_)
      obtain ⟨hrvy206, ⟨Fvy206, hcvy206, htvy206, hFvy206⟩, hfvy206⟩ := hvy206
      obtain rfl : vy206 = 0 := by omega
      refine z_if_ne (tgt := 31) C dX10_layer_26 (by decide) (by omega) (fun h => absurd h (by omega)) (fun _ => ?_)
      refine z_iconst (z := 0) C dX10_layer_29 rfl ?_
      have hgy208 := (hfvy28 (i + 1) (ne_o (i := i) (c := 1) (d := 0) rfl)).trans hgy27
      have hgy209 := (hfvy206 (i + 1) (ne_o (i := i) (c := 1) (d := 0) rfl)).trans hgy208
      have hFy210 : ∀ f, f ≠ 12 → Fvy206 f = F f := fun f n12 => ((hFvy206 f n12).trans ((hFvy28 f n12).trans ((uZ_n _ _ n12).trans rfl)))
      have hey211 : Fvy206 13 = F 13 := ((hFvy206 13 (by decide)).trans ((hFvy28 13 (by decide)).trans (fn rfl (by decide))))
      have hey212 : Fvy206 14 = F 14 := ((hFvy206 14 (by decide)).trans ((hFvy28 14 (by decide)).trans (fn rfl (by decide))))
      have hey213 : Fvy206 15 = F 15 := ((hFvy206 15 (by decide)).trans ((hFvy28 15 (by decide)).trans (fn rfl (by decide))))
      have hey214 : Fvy206 16 = F 16 := ((hFvy206 16 (by decide)).trans ((hFvy28 16 (by decide)).trans (fn rfl (by decide))))
      have hey215 : Fvy206 17 = F 17 := ((hFvy206 17 (by decide)).trans ((hFvy28 17 (by decide)).trans (fn rfl (by decide))))
      have hey216 : Fvy206 18 = F 18 := ((hFvy206 18 (by decide)).trans ((hFvy28 18 (by decide)).trans (fn rfl (by decide))))
      have hey217 : Fvy206 19 = F 19 := ((hFvy206 19 (by decide)).trans ((hFvy28 19 (by decide)).trans (fn rfl (by decide))))
      have hey218 : Fvy206 20 = F 20 := ((hFvy206 20 (by decide)).trans ((hFvy28 20 (by decide)).trans (fn rfl (by decide))))
      have hey219 : Fvy206 23 = F 23 := ((hFvy206 23 (by decide)).trans ((hFvy28 23 (by decide)).trans (fn rfl (by decide))))
      have hey220 : Fvy206 25 = F 25 := ((hFvy206 25 (by decide)).trans ((hFvy28 25 (by decide)).trans (fn rfl (by decide))))
      have hey221 : Fvy206 27 = F 27 := ((hFvy206 27 (by decide)).trans ((hFvy28 27 (by decide)).trans (fn rfl (by decide))))
      have hey222 : Fvy206 28 = F 28 := ((hFvy206 28 (by decide)).trans ((hFvy28 28 (by decide)).trans (fn rfl (by decide))))
      have hey223 : Fvy206 29 = F 29 := ((hFvy206 29 (by decide)).trans ((hFvy28 29 (by decide)).trans (fn rfl (by decide))))
      have hKy224 : okF Fvy206 := by unfold okF; omega
      have hMy225 : okMr cs ad gvy206 i (x + 1) Fvy206 r := okMr.upd hM hcvy206 hKy224 (fun f a => hFy210 f (by omega)) hgy209 (hA.mono (by omega)) (fun j a b => by
          exact Or.inl (by rw [hfvy206 _ (by omega)]; rw [hfvy28 _ (by omega)]; rw [egy25, va_up_ne _ _ (by omega)]))
      have h23 : Fvy206 23 = F 23 := ((hFvy206 23 (by decide)).trans ((hFvy28 23 (by decide)).trans (fn rfl (by decide))))
      exact z_iret C hr hlk dX10_layer_30 (by decide) (by decide) ⟨0, rfl, rfl, rfl, by omega, ⟨_, _, hMy225, by omega⟩, fun j j1 => by rw [hfvy206 _ (by omega)]; rw [hfvy28 _ (by omega)]; rw [egy25, va_up_ne _ _ (by omega)]⟩
  · refine z_if_eq (tgt := 29) C dX10_layer_11 (by decide) (by omega) (fun _ => ?_) (fun h => absurd h (by omega))
    refine z_iconst (z := 0) C dX10_layer_29 rfl ?_
    have hgy226 := (hfvy28 (i + 1) (ne_o (i := i) (c := 1) (d := 0) rfl)).trans hgy27
    have hFy227 : ∀ f, f ≠ 12 → Fvy28 f = F f := fun f n12 => ((hFvy28 f n12).trans ((uZ_n _ _ n12).trans rfl))
    have hey228 : Fvy28 13 = F 13 := ((hFvy28 13 (by decide)).trans (fn rfl (by decide)))
    have hey229 : Fvy28 14 = F 14 := ((hFvy28 14 (by decide)).trans (fn rfl (by decide)))
    have hey230 : Fvy28 15 = F 15 := ((hFvy28 15 (by decide)).trans (fn rfl (by decide)))
    have hey231 : Fvy28 16 = F 16 := ((hFvy28 16 (by decide)).trans (fn rfl (by decide)))
    have hey232 : Fvy28 17 = F 17 := ((hFvy28 17 (by decide)).trans (fn rfl (by decide)))
    have hey233 : Fvy28 18 = F 18 := ((hFvy28 18 (by decide)).trans (fn rfl (by decide)))
    have hey234 : Fvy28 19 = F 19 := ((hFvy28 19 (by decide)).trans (fn rfl (by decide)))
    have hey235 : Fvy28 20 = F 20 := ((hFvy28 20 (by decide)).trans (fn rfl (by decide)))
    have hey236 : Fvy28 23 = F 23 := ((hFvy28 23 (by decide)).trans (fn rfl (by decide)))
    have hey237 : Fvy28 25 = F 25 := ((hFvy28 25 (by decide)).trans (fn rfl (by decide)))
    have hey238 : Fvy28 27 = F 27 := ((hFvy28 27 (by decide)).trans (fn rfl (by decide)))
    have hey239 : Fvy28 28 = F 28 := ((hFvy28 28 (by decide)).trans (fn rfl (by decide)))
    have hey240 : Fvy28 29 = F 29 := ((hFvy28 29 (by decide)).trans (fn rfl (by decide)))
    have hKy241 : okF Fvy28 := by unfold okF; omega
    have hMy242 : okMr cs ad gvy28 i (x + 1) Fvy28 r := okMr.upd hM hcvy28 hKy241 (fun f a => hFy227 f (by omega)) hgy226 (hA.mono (by omega)) (fun j a b => by
        exact Or.inl (by rw [hfvy28 _ (by omega)]; rw [egy25, va_up_ne _ _ (by omega)]))
    have h23 : Fvy28 23 = F 23 := ((hFvy28 23 (by decide)).trans (fn rfl (by decide)))
    exact z_iret C hr hlk dX10_layer_30 (by decide) (by decide) ⟨0, rfl, rfl, rfl, by omega, ⟨_, _, hMy242, by omega⟩, fun j j1 => by rw [hfvy28 _ (by omega)]; rw [egy25, va_up_ne _ _ (by omega)]⟩

set_option maxRecDepth 100000 in
set_option maxHeartbeats 4000000 in
theorem c_X10_layer_b (l : Launch) (D : va_G) (A : Nat → Prop) (cs : Nat → ClassId) (tt : Nat) (N : Nat) (ad : Nat → Nat) (g : Nat → va_E) (i : Nat) (hN : i + 30 ≤ N) (x : Int) (hx : 0 ≤ x ∧ x ≤ 512) (F r : Nat → Int) (hM : okMr cs ad g i x F r) (z : Int) (hz : -2147483648 ≤ z ∧ z ≤ 2147483647) (hzo : z < 0 ∨ 3 < z) (z1 : Int) (hz1 : -2147483648 ≤ z1 ∧ z1 ≤ 2147483647) (z2 : Int) (hz2 : -2147483648 ≤ z2 ∧ z2 ≤ 2147483647) : zM l yX10_layer cX10_layer 4 (some .int) ({ frames := 7, cells := 0, slots := 0, locals := 420 } : Room) D A cs tt N ad g [.ref (ad i), .int (zI (z)), .int (zI (z1)), .int (zI (z2))] (rI0 N ad fun q g' => (-2147483648 ≤ q ∧ q ≤ 2147483647) ∧ (∃ F' r' : Nat → Int, okMr cs ad g' i (x + 1) F' r' ∧ F' 23 = F 23) ∧ ∀ j, j < i ∨ i + 30 ≤ j → g' j = g j) := by
  obtain ⟨hg, ⟨⟨e13, e14, e25, e27, e29⟩, k15, k16, k17, k18, k19, k20, k23⟩, hRD, hTx, hA, st, op, ai, fa, mu, tb, ns, nh, nd, rf, pi, tp, te, ki, li, ok1, ok2, fo, dd, dps, ⟨ha1, ha2, ha3, ha4, ha5, ha6, ha7, ha8, ha9, ha10, ha11, ha12, ha13, ha14, ha15, ha24, ha25, ha26, ha27, ha28, ha29⟩, hEv, hPt, hns, htp⟩ := id hM
  obtain ⟨-, hop, hai, hfa, hT, hT1⟩ := id hEv
  have hay1 : zAt ad (i) (ad i) := rfl
  have hay2 : zAt ad (i + 1) (ad (i + 1)) := rfl
  have hay3 : zAt ad (i + 2) (ad (i + 2)) := rfl
  have hay4 : zAt ad (i + 3) (ad (i + 3)) := rfl
  have hay5 : zAt ad (i + 4) (ad (i + 4)) := rfl
  have hay6 : zAt ad (i + 5) (ad (i + 5)) := rfl
  have hay7 : zAt ad (i + 6) (ad (i + 6)) := rfl
  have hay8 : zAt ad (i + 7) (ad (i + 7)) := rfl
  have hay9 : zAt ad (i + 8) (ad (i + 8)) := rfl
  have hay10 : zAt ad (i + 9) (ad (i + 9)) := rfl
  have hay11 : zAt ad (i + 10) (ad (i + 10)) := rfl
  have hay12 : zAt ad (i + 11) (ad (i + 11)) := rfl
  have hay13 : zAt ad (i + 12) (ad (i + 12)) := rfl
  have hay14 : zAt ad (i + 13) (ad (i + 13)) := rfl
  have hay15 : zAt ad (i + 14) (ad (i + 14)) := rfl
  have hay16 : zAt ad (i + 15) (ad (i + 15)) := rfl
  have hay17 : zAt ad (i + 24) (ad (i + 24)) := rfl
  have hay18 : zAt ad (i + 25) (ad (i + 25)) := rfl
  have hay19 : zAt ad (i + 26) (ad (i + 26)) := rfl
  have hay20 : zAt ad (i + 27) (ad (i + 27)) := rfl
  have hay21 : zAt ad (i + 28) (ad (i + 28)) := rfl
  have hay22 : zAt ad (i + 29) (ad (i + 29)) := rfl
  obtain ⟨⟨hsyy23, htyy23, hnyy23, hpyy23⟩, hlyy23⟩ := okA.at0 hA
  simp only [Nat.zero_add] at hsyy23 hnyy23 hpyy23
  have hmn : ∀ s, s < 4 → 0 ≤ r (6 + 86 * s) ∧ r (6 + 86 * s) ≤ 12 := fun s hs => (hsyy23 s hs).1
  have h5 : 0 ≤ r 5 ∧ r 5 ≤ 6 := hpyy23
  refine z_of (by decide) (Nat.le_of_ble_eq_true rfl) ?_
  intro pZ eZ sZ mZ below meth cZ C hr hlk hnm
  refine z_lv (lv' := [(0, .ref (ad i)), (1, .int (zI (z))), (2, .int (zI (z1))), (3, .int (zI (z2)))]) [0, 1, 2, 3] rfl ?_
  refine z_aload_n C 0 dX10_layer_0 rfl ?_
  refine z_iconst (z := 0) C dX10_layer_1 rfl ?_
  refine z_put (fs' := mF ad (i) (uZ F 12 (0))) C (by omega) hay1 hg tyX10 tyX10_ok nmX10 rfl inA_X10 12 (by decide) q_1471 rfl rfl rfl rfl (Nat.le_of_ble_eq_true rfl) rfl dX10_layer_2 (fun gy24 egy25 => ?_)
  have hgy26 := up_s egy25
  refine z_aload_n C 0 dX10_layer_5 rfl ?_
  refine z_iload_n C 1 dX10_layer_6 rfl ?_
  refine z_iload_n C 2 dX10_layer_7 rfl ?_
  have hgy27 := up_n egy25 ha1 (ne_o (i := i) (c := 1) (d := 0) rfl)
  have h13vy28 : (uZ F 12 (0)) 13 = F 13 := (fn rfl (by decide))
  have hey29 : (uZ F 12 (0)) 12 = 0 := (uZ_s _ _ _)
  refine z_cV (As := [.int (zI (z)), .int (zI (z1))]) (rest := []) (ci := 12) C (c_X10_isLayer_b l D A cs tt N ad _ i hN _ hgy26 (by omega) (by omega) (z) (by omega) (by omega) (z1)) (by omega) hay1 hgy26 rfl rfl mv_yX10_isLayer q_1819 hd_yX10_isLayer (by decide) (Nat.le_of_ble_eq_true rfl) (by decide) dX10_layer_8 rfl (kI0 fun vy28 gvy28 hvy28 => ?_)
  obtain ⟨rfl, ⟨Fvy28, hcvy28, htvy28, hFvy28⟩, hfvy28⟩ := hvy28
  refine z_if_eq (tgt := 29) C dX10_layer_11 (by decide) (by omega) (fun _ => ?_) (fun h => absurd h (by omega))
  refine z_iconst (z := 0) C dX10_layer_29 rfl ?_
  have hgy30 := (hfvy28 (i + 1) (ne_o (i := i) (c := 1) (d := 0) rfl)).trans hgy27
  have hFy31 : ∀ f, f ≠ 12 → Fvy28 f = F f := fun f n12 => ((hFvy28 f n12).trans ((uZ_n _ _ n12).trans rfl))
  have hey32 : Fvy28 13 = F 13 := ((hFvy28 13 (by decide)).trans (fn rfl (by decide)))
  have hey33 : Fvy28 14 = F 14 := ((hFvy28 14 (by decide)).trans (fn rfl (by decide)))
  have hey34 : Fvy28 15 = F 15 := ((hFvy28 15 (by decide)).trans (fn rfl (by decide)))
  have hey35 : Fvy28 16 = F 16 := ((hFvy28 16 (by decide)).trans (fn rfl (by decide)))
  have hey36 : Fvy28 17 = F 17 := ((hFvy28 17 (by decide)).trans (fn rfl (by decide)))
  have hey37 : Fvy28 18 = F 18 := ((hFvy28 18 (by decide)).trans (fn rfl (by decide)))
  have hey38 : Fvy28 19 = F 19 := ((hFvy28 19 (by decide)).trans (fn rfl (by decide)))
  have hey39 : Fvy28 20 = F 20 := ((hFvy28 20 (by decide)).trans (fn rfl (by decide)))
  have hey40 : Fvy28 23 = F 23 := ((hFvy28 23 (by decide)).trans (fn rfl (by decide)))
  have hey41 : Fvy28 25 = F 25 := ((hFvy28 25 (by decide)).trans (fn rfl (by decide)))
  have hey42 : Fvy28 27 = F 27 := ((hFvy28 27 (by decide)).trans (fn rfl (by decide)))
  have hey43 : Fvy28 28 = F 28 := ((hFvy28 28 (by decide)).trans (fn rfl (by decide)))
  have hey44 : Fvy28 29 = F 29 := ((hFvy28 29 (by decide)).trans (fn rfl (by decide)))
  have hKy45 : okF Fvy28 := by unfold okF; omega
  have hMy46 : okMr cs ad gvy28 i (x + 1) Fvy28 r := okMr.upd hM hcvy28 hKy45 (fun f a => hFy31 f (by omega)) hgy30 (hA.mono (by omega)) (fun j a b => by
      exact Or.inl (by rw [hfvy28 _ (by omega)]; rw [egy25, va_up_ne _ _ (by omega)]))
  have h23 : Fvy28 23 = F 23 := ((hFvy28 23 (by decide)).trans (fn rfl (by decide)))
  exact z_iret C hr hlk dX10_layer_30 (by decide) (by decide) ⟨0, rfl, rfl, rfl, by omega, ⟨_, _, hMy46, by omega⟩, fun j j1 => by rw [hfvy28 _ (by omega)]; rw [egy25, va_up_ne _ _ (by omega)]⟩

set_option maxRecDepth 100000 in
set_option maxHeartbeats 4000000 in
theorem c_X10_layer (l : Launch) (D : va_G) (A : Nat → Prop) (cs : Nat → ClassId) (tt : Nat) (N : Nat) (ad : Nat → Nat) (g : Nat → va_E) (i : Nat) (hN : i + 30 ≤ N) (x : Int) (hx : 0 ≤ x ∧ x ≤ 512) (F r : Nat → Int) (hM : okMr cs ad g i x F r) (z : Int) (hz : -2147483648 ≤ z ∧ z ≤ 2147483647) (z1 : Int) (hz1 : -2147483648 ≤ z1 ∧ z1 ≤ 2147483647) (z2 : Int) (hz2 : -2147483648 ≤ z2 ∧ z2 ≤ 2147483647) : zM l yX10_layer cX10_layer 4 (some .int) ({ frames := 7, cells := 0, slots := 0, locals := 420 } : Room) D A cs tt N ad g [.ref (ad i), .int (zI (z)), .int (zI (z1)), .int (zI (z2))] (rI0 N ad fun q g' => (-2147483648 ≤ q ∧ q ≤ 2147483647) ∧ (∃ F' r' : Nat → Int, okMr cs ad g' i (x + 1) F' r' ∧ F' 23 = F 23) ∧ ∀ j, j < i ∨ i + 30 ≤ j → g' j = g j) := by
  by_cases h9 : 0 ≤ z ∧ z ≤ 3
  · obtain ⟨n, rfl⟩ : ∃ n : Nat, z = (n : Int) := ⟨z.toNat, by omega⟩
    exact c_X10_layer_a l D A cs tt N ad g i hN x hx F r hM n (by omega) z1 hz1 z2 hz2
  · exact c_X10_layer_b l D A cs tt N ad g i hN x hx F r hM z hz (by omega) z1 hz1 z2 hz2

