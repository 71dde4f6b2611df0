section
-- 9lr.ub.lean.txt
theorem dgW_0 (W : WL9) (k : Nat) : (dgW W k).1 0 = W.1 0 := by
  show uZ W.1 2 (W.1 2 + mZ (W.2 k).2.1 ((W.2 k).1 - 1)) 0 = W.1 0
  exact uZ_n _ _ (by decide)
theorem slW_0 (W : WL9) (k w : Nat) : (slW W k w).1 0 = W.1 0 := by
  show uZ (uZ W.1 3 (W.1 3 + abZ (W.2 k).2.1 (W.2 k).1 w)) 4 (W.1 4 + 1) 0 = W.1 0
  exact (uZ_n _ _ (by decide)).trans (uZ_n _ _ (by decide))
theorem foW_0 (what much air : Int) (k : Nat) (W : WL9) : (foW what much air k W).1 0 = W.1 0 := by
  show uZ W.1 1 (W.1 1 + foN what air) 0 = W.1 0
  exact uZ_n _ _ (by decide)
theorem rAi_F {F F' ai : Nat → Int} {t t' : Int} (h14 : F' 14 = F 14) (h25 : F' 25 = F 25) (ht : t' = t) : rAi F' ai t' = rAi F ai t := by
  unfold rAi
  rw [h14, h25, ht]
theorem isWk_ex {tb K : Nat → Int} {n : Nat} {more steep : Int} (ht : okTb tb) (h : okP K n) (hx : okX K n) (hm : 0 ≤ more ∧ more ≤ 40000) (hs : 0 ≤ steep ∧ steep ≤ 90) (hn : 0 < n) : ∃ wk : Nat, isWk tb K n more steep (wk : Int) := by
  have hj : ∀ j, j ≤ n → ∃ wh le, wkU tb K n more steep j wh le := by
    intro j
    induction j with
    | zero => exact fun _ => ⟨-1, 10000, Or.inl ⟨rfl, rfl, rfl⟩⟩
    | succ j ih =>
      intro hj
      obtain ⟨wh, le, h1⟩ := ih (by omega)
      by_cases e : rlZ tb K n more steep j < le
      · exact ⟨_, _, h1.takes e⟩
      · exact ⟨_, _, h1.keeps (rlZ_b ht h hx (by omega) hm hs).2 (by omega)⟩
  obtain ⟨wh, le, h1⟩ := hj n (Nat.le_refl _)
  rcases h1.done with ⟨a, b⟩ | ⟨w, a, b⟩
  · omega
  · exact ⟨w, Or.inr ⟨w, rfl, b⟩⟩
theorem okSl.cut {M E G X ro : Int} {n m : Nat} {K : Nat → Int} (h : okSl M E G (n, K, ro)) (hm : m ≤ n) : okSl M E G (m, K, ro) ∧ (okSx X (n, K, ro) → okSx X (m, K, ro)) := by
  obtain ⟨h1, h2, h3, h4, h5⟩ := h
  have h1 : okP K n := h1
  have h2 : 0 ≤ ro := h2
  have h3 : ro + sZ K n ≤ M := h3
  have h4 : dZ K n ≤ E := h4
  have h5 : ∀ l, l < n → K (7 * l + 5) ≤ G := h5
  have a := sZ_n h1 hm
  have b := dZ_b h1.2.1 m hm
  refine ⟨⟨h1.cut hm, h2, (show ro + sZ K m ≤ M by omega), (show dZ K m ≤ E by omega), fun l hl => h5 l (by have h9 : l < m := hl; omega)⟩, fun hx => ⟨fun l hl => hx.1 l (by have h9 : l < m := hl; show l < n; omega), ?_⟩⟩
  have c := (xZ_m (C := K) n m hm).2
  have d : xZ K n ≤ X := hx.2
  show xZ K m ≤ X
  omega
/-- a world with one slope changed -/
theorem okWl.sl {x y X Y : Int} {W : WL9} {s : Nat} (t : Nat → Int) (S : SL9) (h : okWl x X W) (hx : x ≤ y) (hX : X ≤ Y) (hS : okSl (mB (W.1 0 + y)) (eB (W.1 0 + y)) (W.1 0) S ∧ okSx Y S) (h0 : t 0 = W.1 0) (h1 : 0 ≤ t 1 ∧ t 1 ≤ 900 + 4 * (W.1 0 + y)) (h5 : t 5 = W.1 5) : okWl y Y (t, uS W.2 s S) := by
  have q := h.mono hx hX
  obtain ⟨q1, q2, q3, q4⟩ := q
  refine ⟨fun k hk => ?_, by show 0 ≤ t 0 ∧ t 0 ≤ 2180; rw [h0]; exact q2, by show 0 ≤ t 1 ∧ t 1 ≤ 900 + 4 * (t 0 + y); rw [h0]; exact h1, by show 0 ≤ t 5 ∧ t 5 ≤ 6; rw [h5]; exact q4⟩
  show okSl (mB (t 0 + y)) (eB (t 0 + y)) (t 0) (uS W.2 s S k) ∧ okSx Y (uS W.2 s S k)
  rw [h0]
  by_cases e : k = s
  · subst e; rw [uS_s]; exact hS
  · rw [uS_n _ _ e]; exact q1 k hk
theorem okWl.dg {x X : Int} {W : WL9} {s : Nat} (h : okWl x X W) (hs : s < 4) : okWl x X (dgW W s) := by
  obtain ⟨a, b⟩ := h.1 s hs
  have c := okSl.cut (X := X) (n := (W.2 s).1) (K := (W.2 s).2.1) (ro := (W.2 s).2.2) a (m := (W.2 s).1 - 1) (by omega)
  exact h.sl _ _ (Int.le_refl _) (Int.le_refl _) ⟨c.1, c.2 b⟩ (uZ_n _ _ (by decide)) (by rw [uZ_n _ _ (by decide)]; exact h.2.2.1) (uZ_n _ _ (by decide))
theorem okWl.sd {x X : Int} {W : WL9} {s w : Nat} (h : okWl x X W) (hs : s < 4) (hw : w < (W.2 s).1) : okWl x X (slW W s w) := by
  obtain ⟨a, b⟩ := h.1 s hs
  have c := okSl.cut (X := X) (n := (W.2 s).1) (K := (W.2 s).2.1) (ro := (W.2 s).2.2) a (m := w + 1) (by omega)
  exact h.sl _ _ (Int.le_refl _) (Int.le_refl _) ⟨c.1, c.2 b⟩ ((uZ_n _ _ (by decide)).trans (uZ_n _ _ (by decide))) (by rw [uZ_n _ _ (by decide), uZ_n _ _ (by decide)]; exact h.2.2.1) ((uZ_n _ _ (by decide)).trans (uZ_n _ _ (by decide)))
theorem okWl.fo {x X : Int} {W : WL9} {s : Nat} {what much air : Int} (h : okWl x X W) (hs : s < 4) (hx : 0 ≤ x) (hT : W.1 0 + x ≤ 2700) (hw : what = 1 ∨ what = 2 → 1 ≤ much ∧ much ≤ 50) (ha : -300 ≤ air ∧ air ≤ 100) : okWl (x + 1) (X + 50) (foW what much air s W) := by
  obtain ⟨a, b⟩ := h.1 s hs
  obtain ⟨-, h2, h3, -⟩ := id h
  have e1 : mB (W.1 0 + x) = 2400 + 50 * (W.1 0 + x) := rfl
  have e2 : eB (W.1 0 + x) = 12000 + 139000 * (W.1 0 + x) := rfl
  have e3 : mB (W.1 0 + (x + 1)) = 2400 + 50 * (W.1 0 + (x + 1)) := rfl
  have e4 : eB (W.1 0 + (x + 1)) = 12000 + 139000 * (W.1 0 + (x + 1)) := rfl
  have c := fo_sl (X := X) (nm := W.1 1) a (by omega) (by omega) hw ha (by omega) h2.1
  have d := foN_b what air
  exact h.sl _ _ (by omega) (by omega) ⟨c.1.mono (by omega) (by omega) (Int.le_refl _), c.2 b⟩ (uZ_n _ _ (by decide)) (by rw [uZ_s]; omega) (uZ_n _ _ (by decide))
/-- a SLIDE, as an answer and worlds -/
def sldA (st tb : Nat → Int) (nsl : Nat) (z : Int) (W : WL9) (na : Nat) (H : Nat → WL9) (q : Int) (W' : WL9) (na' : Nat) (H' : Nat → WL9) : Prop := ((¬ (0 ≤ z ∧ z < (nsl : Int)) ∨ ∃ v, isLr tb (W.2 z.toNat).2.1 (W.2 z.toNat).1 0 (st z.toNat) v ∧ 100 ≤ v) ∧ q = -1 ∧ W' = W ∧ na' = na ∧ H' = H) ∨ ((0 ≤ z ∧ z < (nsl : Int)) ∧ (∃ v, isLr tb (W.2 z.toNat).2.1 (W.2 z.toNat).1 0 (st z.toNat) v ∧ v < 100) ∧ ∃ wk : Nat, isWk tb (W.2 z.toNat).2.1 (W.2 z.toNat).1 0 (st z.toNat) (wk : Int) ∧ q = ((W.2 z.toNat).1 : Int) - 1 - (wk : Int) ∧ W' = slW W z.toNat wk ∧ na' = kpN na ∧ H' = kpH na H W)
/-- a FALL by hand -/
def falA (F ai : Nat → Int) (nsl : Nat) (z z1 z2 : Int) (W : WL9) (na : Nat) (H : Nat → WL9) : Int × WL9 × Nat × (Nat → WL9) := if (0 ≤ z ∧ z < (nsl : Int)) ∧ (1 ≤ z1 ∧ z1 ≤ 3) ∧ (z1 < 3 → 1 ≤ z2 ∧ z2 ≤ 50) ∧ (z1 = 3 → rAi F ai (W.1 0) < 0) then ((((foW z1 z2 (rAi F ai (W.1 0)) z.toNat W).2 z.toNat).1 : Int), foW z1 z2 (rAi F ai (W.1 0)) z.toNat W, kpN na, kpH na H W) else (-1, W, na, H)

set_option maxRecDepth 100000 in
set_option maxHeartbeats 4000000 in
theorem c_vDig_a (l : Launch) (D : va_G) (A : Nat → Prop) (cs : Nat → ClassId) (tt : Nat) (N : Nat) (ad : Nat → Nat) (g : Nat → va_E) (i : Nat) (hN : i + 30 ≤ N) (x : Int) (hx : 0 ≤ x ∧ x ≤ 512) (F r : Nat → Int) {st op ai fa mu tb tp : Nat → Int} (hM : okMr cs ad g i x F r st op ai fa mu tb tp) (hfr : okFr F op ai fa mu tb) (nsl : Nat) (hnsl : F 13 = (nsl : Int)) (W : WL9) (na : Nat) (H : Nat → WL9) (hRX : okRX F r x W na H) (rr : Nat → Int) (hrr : g (i + 11) = iA cs 6 rr) (n : Nat) (hn4 : n < 4) : zM l yX10_dig cX10_dig 3 (some .int) ({ frames := 5, cells := 0, slots := 0, locals := 300 } : Room) D A cs tt N ad g [.ref (ad i), .int (zI ((n : Int)))] (rI0 N ad fun q g' => q = (digA nsl ((n : Int)) W na H).1 ∧ (∃ F' r' : Nat → Int, okMr cs ad g' i (x + 1) F' r' st op ai fa mu tb tp ∧ (F' 13 = F 13 ∧ F' 14 = F 14 ∧ F' 17 = F 17 ∧ F' 18 = F 18 ∧ F' 19 = F 19 ∧ F' 20 = F 20 ∧ F' 21 = F 21 ∧ F' 23 = F 23 ∧ F' 24 = F 24 ∧ F' 25 = F 25 ∧ F' 26 = F 26 ∧ F' 27 = F 27 ∧ F' 28 = F 28 ∧ F' 29 = F 29) ∧ okRX F' r' (x + 1) (digA nsl ((n : Int)) W na H).2.1 (digA nsl ((n : Int)) W na H).2.2.1 (digA nsl ((n : Int)) W na H).2.2.2 ∧ ∀ j, 14700 ≤ j → r' j = r j) ∧ (∃ rr' : Nat → Int, g' (i + 11) = iA cs 6 rr' ∧ ((q = -1 ∧ rr' = uZ rr 1 (rr 1 + 1)) ∨ (q ≠ -1 ∧ rr' = rr))) ∧ (∀ j, j < i ∨ i + 30 ≤ j → g' j = g j) ∧ ∀ j, i + 8 ≤ j → j ≤ i + 12 → j ≠ i + 11 → g' j = g j) := by
  obtain ⟨hg, ⟨⟨e13, e14, e25, e27, e29⟩, k15, k16, k17, k18, k19, k20, k23, k21⟩, hRD, hTx, hA, ns, nh, nd, rf, pi, te, ki, li, ok1, ok2, fo, dd, dps, ⟨ha1, ha2, ha3, ha4, ha5, ha6, ha7, ha8, ha9, ha10, ha11, ha12, ha13, ha14, ha15, ha24, ha25, ha26, ha27, ha28, ha29⟩, hEv, hPt, hns, htp⟩ := id hM
  obtain ⟨-, hop, hai, hfa, hT, hT1⟩ := id hEv
  have hay1 : zAt ad (i) (ad i) := rfl
  have hay2 : zAt ad (i + 1) (ad (i + 1)) := rfl
  have hay3 : zAt ad (i + 2) (ad (i + 2)) := rfl
  have hay4 : zAt ad (i + 3) (ad (i + 3)) := rfl
  have hay5 : zAt ad (i + 4) (ad (i + 4)) := rfl
  have hay6 : zAt ad (i + 5) (ad (i + 5)) := rfl
  have hay7 : zAt ad (i + 6) (ad (i + 6)) := rfl
  have hay8 : zAt ad (i + 7) (ad (i + 7)) := rfl
  have hay9 : zAt ad (i + 8) (ad (i + 8)) := rfl
  have hay10 : zAt ad (i + 9) (ad (i + 9)) := rfl
  have hay11 : zAt ad (i + 10) (ad (i + 10)) := rfl
  have hay12 : zAt ad (i + 11) (ad (i + 11)) := rfl
  have hay13 : zAt ad (i + 12) (ad (i + 12)) := rfl
  have hay14 : zAt ad (i + 13) (ad (i + 13)) := rfl
  have hay15 : zAt ad (i + 14) (ad (i + 14)) := rfl
  have hay16 : zAt ad (i + 15) (ad (i + 15)) := rfl
  have hay17 : zAt ad (i + 24) (ad (i + 24)) := rfl
  have hay18 : zAt ad (i + 25) (ad (i + 25)) := rfl
  have hay19 : zAt ad (i + 26) (ad (i + 26)) := rfl
  have hay20 : zAt ad (i + 27) (ad (i + 27)) := rfl
  have hay21 : zAt ad (i + 28) (ad (i + 28)) := rfl
  have hay22 : zAt ad (i + 29) (ad (i + 29)) := rfl
  obtain ⟨⟨hsyy23, htyy23, hnyy23, hpyy23⟩, hlyy23⟩ := okA.at0 hA
  simp only [Nat.zero_add] at hsyy23 hnyy23 hpyy23
  have hmn : ∀ s, s < 4 → 0 ≤ r (6 + 86 * s) ∧ r (6 + 86 * s) ≤ 12 := fun s hs => (hsyy23 s hs).1
  have h5 : 0 ≤ r 5 ∧ r 5 ≤ 6 := hpyy23
  obtain ⟨⟨hW, hwx⟩, ⟨fi, ⟨h15, h16⟩, ⟨hna, hfi⟩, hxh⟩, hHx⟩ := id hRX
  have hok9 := hwx.1
  have hW0 : r 0 = W.1 0 := hW.1 0 (by decide)
  have ht9 := hwx.2
  have ht8 := hok9.2.1
  obtain ⟨p, hp⟩ : ∃ p9 : Nat, 0 + 6 + 86 * n = p9 := ⟨_, rfl⟩
  have hS0 : isS r p (W.2 n) := by rw [← hp]; exact hW.2 n hn4
  have hOs := (hok9.1 n hn4).1
  obtain ⟨bB1, bB2, bB3, bB4⟩ := mBb (t := W.1 0 + x) (by omega)
  obtain ⟨⟨ny24, Ky25, roy26⟩, hSy27⟩ : ∃ S9 : SL9, S9 = W.2 n := ⟨_, rfl⟩
  obtain ⟨hny28, hry29, hCy30⟩ := (show isS r p (ny24, Ky25, roy26) by rw [hSy27]; exact hS0)
  have hny28 : r p = (ny24 : Int) := hny28
  have hry29 : r (p + 1) = roy26 := hry29
  have hCy30 : ∀ q, q < 7 * ny24 → r (p + 2 + q) = Ky25 q := hCy30
  have hOy319 := hOs
  rw [← hSy27] at hOy319
  obtain ⟨hOy31, hpy32, hmy33, hdy34, hagy35⟩ := id hOy319
  have hpy32 : 0 ≤ roy26 := hpy32
  have hmy33 : roy26 + sZ Ky25 ny24 ≤ _ := hmy33
  have hdy34 : dZ Ky25 ny24 ≤ _ := hdy34
  have hOy31 : okP Ky25 ny24 := hOy31
  have hsy36 := sZ_n hOy31 (k := ny24) (Nat.le_refl _)
  have hsy36n : ny24 ≤ 12 := hOy31.1
  have hagy35 : ∀ l, l < ny24 → Ky25 (7 * l + 5) ≤ _ := hagy35
  refine z_of (by decide) (Nat.le_of_ble_eq_true rfl) ?_
  intro pY eY sY mY below meth cY C hr hlk hnm
  refine z_lv (lv' := [(0, .ref (ad i)), (1, .int (zI ((n : Int))))]) [0, 1] rfl ?_
  refine z_aload_n C 0 dX10_dig_0 rfl ?_
  refine z_iconst (z := 0) C dX10_dig_1 rfl ?_
  refine z_put (fs' := mF ad (i) (uZ F 12 (0))) C (lt_A0 hN rfl) hay1 hg tyX10 tyX10_ok nmX10 rfl inA_X10 12 (by decide) q_1471 rfl rfl rfl rfl (Nat.le_of_ble_eq_true rfl) rfl dX10_dig_2 (fun gy37 egy38 => ?_)
  have hgy39 := up_s egy38
  refine z_iload_n C 1 dX10_dig_5 rfl ?_
  refine z_iconst (z := 0) C dX10_dig_6 rfl ?_
  refine z_aload_n C 0 dX10_dig_7 rfl ?_
  refine z_get (v := .int (zI (F 13))) C (lt_A0 hN rfl) hay1 hgy39 rfl inA_X10 13 (by decide) q_1472 rfl (fv (F := (uZ F 12 (0))) (f := 13) (fn rfl (by decide))) dX10_dig_8 ?_
  refine z_iconst (z := 1) C dX10_dig_11 rfl ?_
  refine z_isub C dX10_dig_12 ?_
  refine z_cS (As := [.int (zI ((n : Int))), .int (zI (0)), .int (zI ((F 13) - 1))]) (rest := []) C (c_X10_within l D A cs tt N ad _ ((n : Int)) (by omega) (0) (by omega) ((F 13) - 1) (by omega)) ms_yX10_within q_1686 hd_yX10_within (by decide) (Nat.le_of_ble_eq_true rfl) (by decide) dX10_dig_13 rfl (kI0 fun vy40 gvy40 hvy40 => ?_)
  obtain ⟨hvy40, rfl⟩ := hvy40
  rcases hvy40 with ⟨rfl, hxvy40⟩ | ⟨rfl, hxvy40⟩
  · refine z_if_eq (tgt := 28) C dX10_dig_16 (by decide) (by omega) (fun h => absurd h (by omega)) (fun _ => ?_)
    refine z_aload_n C 0 dX10_dig_19 rfl ?_
    refine z_iconst (z := 0) C dX10_dig_20 rfl ?_
    refine z_iload_n C 1 dX10_dig_21 rfl ?_
    have hgy41 := up_n egy38 ha1 (ne_o (i := i) (c := 1) (d := 0) rfl)
    refine z_cV (As := [.int (zI (0)), .int (zI ((n : Int)))]) (rest := []) (ci := 12) C (c_X10_many l D A cs tt N ad _ i hN _ hgy39 _ hgy41 0 n p hp (by omega) (by omega)) (lt_A0 hN rfl) hay1 hgy39 rfl rfl mv_yX10_many q_1733 hd_yX10_many (by decide) (Nat.le_of_ble_eq_true rfl) (by decide) dX10_dig_22 rfl (kI0 fun vy42 gvy42 hvy42 => ?_)
    obtain ⟨rfl, rfl⟩ := hvy42
    rw [show r (p) = (ny24 : Int) from hny28]
    refine z_if_ne (tgt := 34) C dX10_dig_25 (by decide) (by omega) (fun hby43 => ?_) (fun hby43 => ?_)
    · refine z_aload_n C 0 dX10_dig_34 rfl ?_
      have hey45 : (uZ F 12 (0)) 15 = F 15 := (fn rfl (by decide))
      have hey46 : (uZ F 12 (0)) 16 = F 16 := (fn rfl (by decide))
      refine z_cV (As := []) (rest := []) (ci := 12) C (c_uKeeps l D A cs tt N ad _ i hN _ hgy39 _ hgy41 na fi (by omega) (by omega) hna hfi) (lt_A0 hN rfl) hay1 hgy39 rfl rfl mv_yX10_keeps q_1870 hd_yX10_keeps (by decide) (Nat.le_of_ble_eq_true rfl) (by decide) dX10_dig_35 rfl (kV0 fun gvy44 hvy44 => ?_)
      obtain ⟨⟨Fvy44, hcvy44, ⟨h15vy44, h16vy44⟩, hFvy44⟩, ⟨rvy44, hdvy44, hyvy44c, hyvy44f⟩, hfvy44⟩ := hvy44
      obtain ⟨fj, hfj⟩ : ∃ f9 : Nat, f9 = if na = 40 then (fi + 1) % 40 else fi := ⟨_, rfl⟩
      obtain ⟨mj, hmj⟩ : ∃ f9 : Nat, f9 = if na = 40 then 39 else na := ⟨_, rfl⟩
      rw [← hfj] at h16vy44 hyvy44c hyvy44f
      rw [← hmj] at hyvy44c hyvy44f
      have hfj4 : fj < 40 := by rw [hfj]; split <;> omega
      have hka9 : kA fj mj = 350 * (2 + (fj + mj) % 40) := by unfold kA; omega
      have hkb9 : 700 ≤ kA fj mj ∧ kA fj mj ≤ 14350 := by omega
      have hkn9 : kpN na ≤ 40 := by unfold kpN; split <;> omega
      have hAvy44 : okA rvy44 (x) := okA.copy (a := 0) (b := 2 + (fj + mj) % 40) (m := 1) hA (by omega) (by omega) (by omega) (fun k hk => by rw [← hka9, Nat.mul_zero, Nat.zero_add]; exact hyvy44c k (by omega)) (fun j hj => hyvy44f j (by omega))
      have hyvy44 : ∀ j, j < 700 → rvy44 j = r j := fun j hj => hyvy44f j (by omega)
      obtain ⟨⟨hsyy47, htyy47, hnyy47, hpyy47⟩, hlyy47⟩ := okA.at0 hAvy44
      simp only [Nat.zero_add] at hsyy47 hnyy47 hpyy47
      have hmn : ∀ s, s < 4 → 0 ≤ rvy44 (6 + 86 * s) ∧ rvy44 (6 + 86 * s) ≤ 12 := fun s hs => (hsyy47 s hs).1
      have h5 : 0 ≤ rvy44 5 ∧ rvy44 5 ≤ 6 := hpyy47
      have hk0vy44 : rvy44 0 = r 0 := hyvy44 0 (by omega)
      have hk1vy44 : rvy44 1 = r 1 := hyvy44 1 (by omega)
      have hk5vy44 : rvy44 5 = r 5 := hyvy44 5 (by omega)
      have hWk : isWr rvy44 0 W := hW.ext hok9.n12 (fun j a1 a2 => hyvy44 j (by omega))
      have hSk : isS rvy44 p (W.2 n) := by rw [← hp]; exact hWk.2 n hn4
      have hSj : isS rvy44 p (ny24, Ky25, roy26) := by rw [hSy27]; exact hSk
      obtain ⟨hnk, hrk, hCk⟩ := hSj
      have hnk : rvy44 p = (ny24 : Int) := hnk
      have hCk : ∀ q, q < 7 * ny24 → rvy44 (p + 2 + q) = Ky25 q := hCk
      refine z_aload_n C 0 dX10_dig_38 rfl ?_
      refine z_iconst (z := 0) C dX10_dig_39 rfl ?_
      refine z_iload_n C 1 dX10_dig_40 rfl ?_
      refine z_aload_n C 0 dX10_dig_41 rfl ?_
      refine z_iconst (z := 0) C dX10_dig_42 rfl ?_
      refine z_iload_n C 1 dX10_dig_43 rfl ?_
      refine z_cV (As := [.int (zI (0)), .int (zI ((n : Int)))]) (rest := [.int (zI ((n : Int))), .int (zI (0)), .ref (ad i)]) (ci := 12) C (c_X10_many l D A cs tt N ad _ i hN _ hcvy44 _ hdvy44 0 n p hp (by omega) (by omega)) (lt_A0 hN rfl) hay1 hcvy44 rfl rfl mv_yX10_many q_1733 hd_yX10_many (by decide) (Nat.le_of_ble_eq_true rfl) (by decide) dX10_dig_44 rfl (kI0 fun vy48 gvy48 hvy48 => ?_)
      obtain ⟨rfl, rfl⟩ := hvy48
      rw [show rvy44 (p) = (ny24 : Int) from hnk]
      refine z_iconst (z := 1) C dX10_dig_47 rfl ?_
      refine z_isub C dX10_dig_48 ?_
      obtain ⟨j, hj9⟩ : ∃ j, ny24 = j + 1 := ⟨ny24 - 1, by omega⟩
      rw [show ((ny24 : Int)) - 1 = (j : Int) by omega]
      have h1n : 1 ≤ (W.2 n).1 := by rw [← hSy27]; show 1 ≤ ny24; omega
      refine z_bipush (z := 6) C dX10_dig_49 (by decide) ?_
      have hqy49k : ((j : Int) : Int) = ((j : Nat) : Int) := by omega
      obtain ⟨qy49, hqy49⟩ : ∃ q9 : Nat, p + 2 + 7 * j = q9 := ⟨_, rfl⟩
      refine z_cV (As := [.int (zI (0)), .int (zI ((n : Int))), .int (zI ((j : Int))), .int (zI (6))]) (rest := []) (ci := 12) C (c_X10_of l D A cs tt N ad _ i hN _ hcvy44 _ hdvy44 0 n p hp (by omega) (by omega) ((j : Int)) (6) (qy49 + 6) (by omega) (by omega) (by omega)) (lt_A0 hN rfl) hay1 hcvy44 rfl rfl mv_yX10_of q_1749 hd_yX10_of (by decide) (Nat.le_of_ble_eq_true rfl) (by decide) dX10_dig_51 rfl (kI0 fun vy50 gvy50 hvy50 => ?_)
      obtain ⟨rfl, rfl⟩ := hvy50
      rw [show rvy44 (qy49 + 6) = Ky25 (7 * j + 6) from (congrArg rvy44 (show qy49 + 6 = p + 2 + (7 * j + 6) by omega)).trans (hCk (7 * j + 6) (by omega))]
      obtain ⟨⟨qy510, qy511, qy512, qy513, qy514, qy515, qy516⟩, qy519⟩ := hOy31.ly (l := j) (by omega)
      refine z_istore_n (lv' := [(2, .int (zI (Ky25 (7 * j + 6)))), (0, .ref (ad i)), (1, .int (zI ((n : Int))))]) C dX10_dig_54 rfl (by decide) rfl ?_
      refine z_aload_n C 1 dX10_dig_55 rfl ?_
      refine z_iconst (z := 0) C dX10_dig_56 rfl ?_
      refine z_iload_n C 2 dX10_dig_57 rfl ?_
      refine z_cV (As := [.int (zI (0)), .int (zI ((n : Int)))]) (rest := []) (ci := 12) C (c_uDigs l D A cs tt N ad _ i hN _ hcvy44 _ hdvy44 0 n p hp (by omega) (by omega) W hWk hok9.n12 _ _ _ hOs h1n) (lt_A0 hN rfl) hay1 hcvy44 rfl rfl mv_yX10_digs q_1956 hd_yX10_digs (by decide) (Nat.le_of_ble_eq_true rfl) (by decide) dX10_dig_58 rfl (kV0 fun gvy52 hvy52 => ?_)
      obtain ⟨⟨rvy52, hcvy52, hwvy52, hyvy52⟩, hfvy52⟩ := hvy52
      have hokd : okWl (x + 1) (50 * (x + 1)) (dgW W n) := (hok9.dg hn4).mono (by omega) (by omega)
      have ht0vy52 : (dgW W n).1 0 = W.1 0 := dgW_0 W n
      have hAvy52 : okA rvy52 (x + 1) := okA.first hAvy44 (by omega) (fun j a => hyvy52 j (by omega)) (hwvy52.okW hokd) (by have h9 := hwvy52.1 0 (by decide); rw [Nat.add_zero] at h9; have h8 : (dgW W n).1 0 = W.1 0 := ht0vy52; omega)
      obtain ⟨⟨hsyy53, htyy53, hnyy53, hpyy53⟩, hlyy53⟩ := okA.at0 hAvy52
      simp only [Nat.zero_add] at hsyy53 hnyy53 hpyy53
      have hmn : ∀ s, s < 4 → 0 ≤ rvy52 (6 + 86 * s) ∧ rvy52 (6 + 86 * s) ≤ 12 := fun s hs => (hsyy53 s hs).1
      have h5 : 0 ≤ rvy52 5 ∧ rvy52 5 ≤ 6 := hpyy53
      refine z_iload_n C 0 dX10_dig_61 rfl ?_
      have hans9 : Ky25 (7 * j + 6) = (W.2 n).2.1 (7 * ((W.2 n).1 - 1) + 6) := by rw [← hSy27]; exact congrArg Ky25 (show _ = 7 * (ny24 - 1) + 6 by omega)
      have hWf : okWx (x + 1) (dgW W n) := ⟨hokd, by have h8 := dgW_0 W n; omega⟩
      have hgy54 := (hfvy52 (i) (ne_o (i := i) (c := 0) (d := 1) rfl)).trans hcvy44
      have hFy55 : ∀ f, f ≠ 12 → f ≠ 15 → f ≠ 16 → Fvy44 f = F f := fun f n12 n15 n16 => ((hFvy44 f n15 n16).trans ((uZ_n _ _ n12).trans rfl))
      have hey56 : Fvy44 13 = F 13 := ((hFvy44 13 (by decide) (by decide)).trans (fn rfl (by decide)))
      have hey57 : Fvy44 14 = F 14 := ((hFvy44 14 (by decide) (by decide)).trans (fn rfl (by decide)))
      have hey58 : Fvy44 15 = Fvy44 15 := rfl
      have hey59 : Fvy44 16 = Fvy44 16 := rfl
      have hey60 : Fvy44 17 = F 17 := ((hFvy44 17 (by decide) (by decide)).trans (fn rfl (by decide)))
      have hey61 : Fvy44 18 = F 18 := ((hFvy44 18 (by decide) (by decide)).trans (fn rfl (by decide)))
      have hey62 : Fvy44 19 = F 19 := ((hFvy44 19 (by decide) (by decide)).trans (fn rfl (by decide)))
      have hey63 : Fvy44 20 = F 20 := ((hFvy44 20 (by decide) (by decide)).trans (fn rfl (by decide)))
      have hey64 : Fvy44 21 = F 21 := ((hFvy44 21 (by decide) (by decide)).trans (fn rfl (by decide)))
      have hey65 : Fvy44 23 = F 23 := ((hFvy44 23 (by decide) (by decide)).trans (fn rfl (by decide)))
      have hey66 : Fvy44 25 = F 25 := ((hFvy44 25 (by decide) (by decide)).trans (fn rfl (by decide)))
      have hey67 : Fvy44 27 = F 27 := ((hFvy44 27 (by decide) (by decide)).trans (fn rfl (by decide)))
      have hey68 : Fvy44 28 = F 28 := ((hFvy44 28 (by decide) (by decide)).trans (fn rfl (by decide)))
      have hey69 : Fvy44 29 = F 29 := ((hFvy44 29 (by decide) (by decide)).trans (fn rfl (by decide)))
      have hKy70 : okF Fvy44 := by unfold okF; omega
      have hMy71 : okMr cs ad gvy52 i (x + 1) Fvy44 rvy52 st op ai fa mu tb tp := okMr.upd hM hgy54 hKy70 (fun f a => hFy55 f (by omega) (by omega) (by omega)) hcvy52 (hAvy52.mono (by omega)) (fun j a b => by
          exact Or.inl (by rw [hfvy52 _ (by omega)]; rw [hfvy44 _ (by omega) (by omega)]; rw [egy38, va_up_ne _ _ (by omega)]))
      have hkpy72 : Fvy44 13 = F 13 := ((hFvy44 13 (by decide) (by decide)).trans (fn rfl (by decide)))
      have hkpy73 : Fvy44 14 = F 14 := ((hFvy44 14 (by decide) (by decide)).trans (fn rfl (by decide)))
      have hkpy74 : Fvy44 17 = F 17 := ((hFvy44 17 (by decide) (by decide)).trans (fn rfl (by decide)))
      have hkpy75 : Fvy44 18 = F 18 := ((hFvy44 18 (by decide) (by decide)).trans (fn rfl (by decide)))
      have hkpy76 : Fvy44 19 = F 19 := ((hFvy44 19 (by decide) (by decide)).trans (fn rfl (by decide)))
      have hkpy77 : Fvy44 20 = F 20 := ((hFvy44 20 (by decide) (by decide)).trans (fn rfl (by decide)))
      have hkpy78 : Fvy44 21 = F 21 := ((hFvy44 21 (by decide) (by decide)).trans (fn rfl (by decide)))
      have hkpy79 : Fvy44 23 = F 23 := ((hFvy44 23 (by decide) (by decide)).trans (fn rfl (by decide)))
      have hkpy80 : Fvy44 24 = F 24 := ((hFvy44 24 (by decide) (by decide)).trans (fn rfl (by decide)))
      have hkpy81 : Fvy44 25 = F 25 := ((hFvy44 25 (by decide) (by decide)).trans (fn rfl (by decide)))
      have hkpy82 : Fvy44 26 = F 26 := ((hFvy44 26 (by decide) (by decide)).trans (fn rfl (by decide)))
      have hkpy83 : Fvy44 27 = F 27 := ((hFvy44 27 (by decide) (by decide)).trans (fn rfl (by decide)))
      have hkpy84 : Fvy44 28 = F 28 := ((hFvy44 28 (by decide) (by decide)).trans (fn rfl (by decide)))
      have hkpy85 : Fvy44 29 = F 29 := ((hFvy44 29 (by decide) (by decide)).trans (fn rfl (by decide)))
      have hE9 : digA nsl ((n : Int)) W na H = ((W.2 n).2.1 (7 * ((W.2 n).1 - 1) + 6), dgW W n, kpN na, kpH na H W) := by unfold digA; rw [Int.toNat_natCast]; exact if_pos (by omega)
      rw [hE9]
      have hX9 : okRX Fvy44 rvy52 (x + 1) (dgW W n) (kpN na) (kpH na H W) := hRX.act (by omega) h16 hfj hmj (by omega) (by omega) (fun q hq => (hyvy52 _ (by omega)).trans (hyvy44c q hq)) (fun j a1 a2 => (hyvy52 j (by omega)).trans (hyvy44f j a2)) hwvy52 hWf
      have hgy86 := up_n egy38 hrr (ne_o (i := i) (c := 11) (d := 0) rfl)
      have hgy87 := (hfvy44 (i + 11) (ne_o (i := i) (c := 11) (d := 0) rfl) (ne_o (i := i) (c := 11) (d := 1) rfl)).trans hgy86
      have hgy88 := (hfvy52 (i + 11) (ne_o (i := i) (c := 11) (d := 1) rfl)).trans hgy87
      exact z_iret C hr hlk dX10_dig_62 (by decide) (by decide) ⟨Ky25 (7 * j + 6), rfl, rfl, rfl, by omega, ⟨_, _, hMy71, by omega, hX9, fun j a1 => (hyvy52 j (by omega)).trans (hyvy44f j (by omega))⟩, ⟨_, hgy88, Or.inr ⟨by omega, rfl⟩⟩, fun j j1 => by rw [hfvy52 _ (by omega)]; rw [hfvy44 _ (by omega) (by omega)]; rw [egy38, va_up_ne _ _ (by omega)], fun j j1 j2 j3 => by rw [hfvy52 _ (by omega)]; rw [hfvy44 _ (by omega) (by omega)]; rw [egy38, va_up_ne _ _ (by omega)]⟩
    · refine z_aload_n C 0 dX10_dig_28 rfl ?_
      refine z_iconst (z := 1) C dX10_dig_29 rfl ?_
      have hgy89 := up_n egy38 hrr (ne_o (i := i) (c := 11) (d := 0) rfl)
      refine z_cV (As := [.int (zI (1))]) (rest := []) (ci := 12) C (c_uRefuses l D A cs tt N ad _ i hN _ hgy39 _ hgy89 1 (by omega)) (lt_A0 hN rfl) hay1 hgy39 rfl rfl mv_yX10_refuses q_1866 hd_yX10_refuses (by decide) (Nat.le_of_ble_eq_true rfl) (by decide) dX10_dig_30 rfl (kI0 fun vy90 gvy90 hvy90 => ?_)
      obtain ⟨rfl, hdvy90, hfvy90⟩ := hvy90
      have hn9 : (W.2 n).1 = ny24 := by rw [← hSy27]
      have hgy91 := (hfvy90 (i) (ne_o (i := i) (c := 0) (d := 11) rfl)).trans hgy39
      have hgy92 := (hfvy90 (i + 1) (ne_o (i := i) (c := 1) (d := 11) rfl)).trans hgy41
      have hFy93 : ∀ f, f ≠ 12 → (uZ F 12 (0)) f = F f := fun f n12 => ((uZ_n _ _ n12).trans rfl)
      have hey94 : (uZ F 12 (0)) 13 = F 13 := (fn rfl (by decide))
      have hey95 : (uZ F 12 (0)) 14 = F 14 := (fn rfl (by decide))
      have hey96 : (uZ F 12 (0)) 15 = F 15 := (fn rfl (by decide))
      have hey97 : (uZ F 12 (0)) 16 = F 16 := (fn rfl (by decide))
      have hey98 : (uZ F 12 (0)) 17 = F 17 := (fn rfl (by decide))
      have hey99 : (uZ F 12 (0)) 18 = F 18 := (fn rfl (by decide))
      have hey100 : (uZ F 12 (0)) 19 = F 19 := (fn rfl (by decide))
      have hey101 : (uZ F 12 (0)) 20 = F 20 := (fn rfl (by decide))
      have hey102 : (uZ F 12 (0)) 21 = F 21 := (fn rfl (by decide))
      have hey103 : (uZ F 12 (0)) 23 = F 23 := (fn rfl (by decide))
      have hey104 : (uZ F 12 (0)) 25 = F 25 := (fn rfl (by decide))
      have hey105 : (uZ F 12 (0)) 27 = F 27 := (fn rfl (by decide))
      have hey106 : (uZ F 12 (0)) 28 = F 28 := (fn rfl (by decide))
      have hey107 : (uZ F 12 (0)) 29 = F 29 := (fn rfl (by decide))
      have hKy108 : okF (uZ F 12 (0)) := okF.mv hM.2.1 hey94 hey95 hey96 hey97 hey98 hey99 hey100 hey101 hey102 hey103 hey104 hey105 hey106 hey107
      have hMy109 : okMr cs ad gvy90 i (x + 1) (uZ F 12 (0)) r st op ai fa mu tb tp := okMr.upd hM hgy91 hKy108 (fun f a => hFy93 f (by omega)) hgy92 (hA.mono (by omega)) (fun j a b => by
          by_cases e0 : j = i + 11
          · exact Or.inr ⟨11, _, e0, lsP.l (by decide), by rw [e0]; exact hdvy90⟩
          exact Or.inl (by rw [hfvy90 _ (by omega)]; rw [egy38, va_up_ne _ _ (by omega)]))
      have hkpy110 : (uZ F 12 (0)) 13 = F 13 := (fn rfl (by decide))
      have hkpy111 : (uZ F 12 (0)) 14 = F 14 := (fn rfl (by decide))
      have hkpy112 : (uZ F 12 (0)) 17 = F 17 := (fn rfl (by decide))
      have hkpy113 : (uZ F 12 (0)) 18 = F 18 := (fn rfl (by decide))
      have hkpy114 : (uZ F 12 (0)) 19 = F 19 := (fn rfl (by decide))
      have hkpy115 : (uZ F 12 (0)) 20 = F 20 := (fn rfl (by decide))
      have hkpy116 : (uZ F 12 (0)) 21 = F 21 := (fn rfl (by decide))
      have hkpy117 : (uZ F 12 (0)) 23 = F 23 := (fn rfl (by decide))
      have hkpy118 : (uZ F 12 (0)) 24 = F 24 := (fn rfl (by decide))
      have hkpy119 : (uZ F 12 (0)) 25 = F 25 := (fn rfl (by decide))
      have hkpy120 : (uZ F 12 (0)) 26 = F 26 := (fn rfl (by decide))
      have hkpy121 : (uZ F 12 (0)) 27 = F 27 := (fn rfl (by decide))
      have hkpy122 : (uZ F 12 (0)) 28 = F 28 := (fn rfl (by decide))
      have hkpy123 : (uZ F 12 (0)) 29 = F 29 := (fn rfl (by decide))
      rw [show digA nsl ((n : Int)) W na H = (-1, W, na, H) from if_neg (by rw [Int.toNat_natCast]; omega)]
      exact z_iret C hr hlk dX10_dig_33 (by decide) (by decide) ⟨-1, rfl, rfl, rfl, by omega, ⟨_, _, hMy109, by omega, hRX.nx (by omega) (fn rfl (by decide)) (fn rfl (by decide)) (fun j _ => rfl), fun j _ => rfl⟩, ⟨_, hdvy90, Or.inl ⟨by omega, rfl⟩⟩, fun j j1 => by rw [hfvy90 _ (by omega)]; rw [egy38, va_up_ne _ _ (by omega)], fun j j1 j2 j3 => by rw [hfvy90 _ (by omega)]; rw [egy38, va_up_ne _ _ (by omega)]⟩
  · refine z_if_eq (tgt := 28) C dX10_dig_16 (by decide) (by omega) (fun _ => ?_) (fun h => absurd h (by omega))
    refine z_aload_n C 0 dX10_dig_28 rfl ?_
    refine z_iconst (z := 1) C dX10_dig_29 rfl ?_
    have hgy124 := up_n egy38 hrr (ne_o (i := i) (c := 11) (d := 0) rfl)
    refine z_cV (As := [.int (zI (1))]) (rest := []) (ci := 12) C (c_uRefuses l D A cs tt N ad _ i hN _ hgy39 _ hgy124 1 (by omega)) (lt_A0 hN rfl) hay1 hgy39 rfl rfl mv_yX10_refuses q_1866 hd_yX10_refuses (by decide) (Nat.le_of_ble_eq_true rfl) (by decide) dX10_dig_30 rfl (kI0 fun vy125 gvy125 hvy125 => ?_)
    obtain ⟨rfl, hdvy125, hfvy125⟩ := hvy125
    have hn9 : (W.2 n).1 = ny24 := by rw [← hSy27]
    have hgy126 := (hfvy125 (i) (ne_o (i := i) (c := 0) (d := 11) rfl)).trans hgy39
    have hgy127 := up_n egy38 ha1 (ne_o (i := i) (c := 1) (d := 0) rfl)
    have hgy128 := (hfvy125 (i + 1) (ne_o (i := i) (c := 1) (d := 11) rfl)).trans hgy127
    have hFy129 : ∀ f, f ≠ 12 → (uZ F 12 (0)) f = F f := fun f n12 => ((uZ_n _ _ n12).trans rfl)
    have hey130 : (uZ F 12 (0)) 13 = F 13 := (fn rfl (by decide))
    have hey131 : (uZ F 12 (0)) 14 = F 14 := (fn rfl (by decide))
    have hey132 : (uZ F 12 (0)) 15 = F 15 := (fn rfl (by decide))
    have hey133 : (uZ F 12 (0)) 16 = F 16 := (fn rfl (by decide))
    have hey134 : (uZ F 12 (0)) 17 = F 17 := (fn rfl (by decide))
    have hey135 : (uZ F 12 (0)) 18 = F 18 := (fn rfl (by decide))
    have hey136 : (uZ F 12 (0)) 19 = F 19 := (fn rfl (by decide))
    have hey137 : (uZ F 12 (0)) 20 = F 20 := (fn rfl (by decide))
    have hey138 : (uZ F 12 (0)) 21 = F 21 := (fn rfl (by decide))
    have hey139 : (uZ F 12 (0)) 23 = F 23 := (fn rfl (by decide))
    have hey140 : (uZ F 12 (0)) 25 = F 25 := (fn rfl (by decide))
    have hey141 : (uZ F 12 (0)) 27 = F 27 := (fn rfl (by decide))
    have hey142 : (uZ F 12 (0)) 28 = F 28 := (fn rfl (by decide))
    have hey143 : (uZ F 12 (0)) 29 = F 29 := (fn rfl (by decide))
    have hKy144 : okF (uZ F 12 (0)) := okF.mv hM.2.1 hey130 hey131 hey132 hey133 hey134 hey135 hey136 hey137 hey138 hey139 hey140 hey141 hey142 hey143
    have hMy145 : okMr cs ad gvy125 i (x + 1) (uZ F 12 (0)) r st op ai fa mu tb tp := okMr.upd hM hgy126 hKy144 (fun f a => hFy129 f (by omega)) hgy128 (hA.mono (by omega)) (fun j a b => by
        by_cases e0 : j = i + 11
        · exact Or.inr ⟨11, _, e0, lsP.l (by decide), by rw [e0]; exact hdvy125⟩
        exact Or.inl (by rw [hfvy125 _ (by omega)]; rw [egy38, va_up_ne _ _ (by omega)]))
    have hkpy146 : (uZ F 12 (0)) 13 = F 13 := (fn rfl (by decide))
    have hkpy147 : (uZ F 12 (0)) 14 = F 14 := (fn rfl (by decide))
    have hkpy148 : (uZ F 12 (0)) 17 = F 17 := (fn rfl (by decide))
    have hkpy149 : (uZ F 12 (0)) 18 = F 18 := (fn rfl (by decide))
    have hkpy150 : (uZ F 12 (0)) 19 = F 19 := (fn rfl (by decide))
    have hkpy151 : (uZ F 12 (0)) 20 = F 20 := (fn rfl (by decide))
    have hkpy152 : (uZ F 12 (0)) 21 = F 21 := (fn rfl (by decide))
    have hkpy153 : (uZ F 12 (0)) 23 = F 23 := (fn rfl (by decide))
    have hkpy154 : (uZ F 12 (0)) 24 = F 24 := (fn rfl (by decide))
    have hkpy155 : (uZ F 12 (0)) 25 = F 25 := (fn rfl (by decide))
    have hkpy156 : (uZ F 12 (0)) 26 = F 26 := (fn rfl (by decide))
    have hkpy157 : (uZ F 12 (0)) 27 = F 27 := (fn rfl (by decide))
    have hkpy158 : (uZ F 12 (0)) 28 = F 28 := (fn rfl (by decide))
    have hkpy159 : (uZ F 12 (0)) 29 = F 29 := (fn rfl (by decide))
    rw [show digA nsl ((n : Int)) W na H = (-1, W, na, H) from if_neg (by rw [Int.toNat_natCast]; omega)]
    exact z_iret C hr hlk dX10_dig_33 (by decide) (by decide) ⟨-1, rfl, rfl, rfl, by omega, ⟨_, _, hMy145, by omega, hRX.nx (by omega) (fn rfl (by decide)) (fn rfl (by decide)) (fun j _ => rfl), fun j _ => rfl⟩, ⟨_, hdvy125, Or.inl ⟨by omega, rfl⟩⟩, fun j j1 => by rw [hfvy125 _ (by omega)]; rw [egy38, va_up_ne _ _ (by omega)], fun j j1 j2 j3 => by rw [hfvy125 _ (by omega)]; rw [egy38, va_up_ne _ _ (by omega)]⟩

set_option maxRecDepth 100000 in
set_option maxHeartbeats 4000000 in
theorem c_vDig_b (l : Launch) (D : va_G) (A : Nat → Prop) (cs : Nat → ClassId) (tt : Nat) (N : Nat) (ad : Nat → Nat) (g : Nat → va_E) (i : Nat) (hN : i + 30 ≤ N) (x : Int) (hx : 0 ≤ x ∧ x ≤ 512) (F r : Nat → Int) {st op ai fa mu tb tp : Nat → Int} (hM : okMr cs ad g i x F r st op ai fa mu tb tp) (hfr : okFr F op ai fa mu tb) (nsl : Nat) (hnsl : F 13 = (nsl : Int)) (W : WL9) (na : Nat) (H : Nat → WL9) (hRX : okRX F r x W na H) (rr : Nat → Int) (hrr : g (i + 11) = iA cs 6 rr) (z : Int) (hz : -2147483648 ≤ z ∧ z ≤ 2147483647) (hzo : z < 0 ∨ 3 < z) : zM l yX10_dig cX10_dig 3 (some .int) ({ frames := 5, cells := 0, slots := 0, locals := 300 } : Room) D A cs tt N ad g [.ref (ad i), .int (zI (z))] (rI0 N ad fun q g' => q = (digA nsl (z) W na H).1 ∧ (∃ F' r' : Nat → Int, okMr cs ad g' i (x + 1) F' r' st op ai fa mu tb tp ∧ (F' 13 = F 13 ∧ F' 14 = F 14 ∧ F' 17 = F 17 ∧ F' 18 = F 18 ∧ F' 19 = F 19 ∧ F' 20 = F 20 ∧ F' 21 = F 21 ∧ F' 23 = F 23 ∧ F' 24 = F 24 ∧ F' 25 = F 25 ∧ F' 26 = F 26 ∧ F' 27 = F 27 ∧ F' 28 = F 28 ∧ F' 29 = F 29) ∧ okRX F' r' (x + 1) (digA nsl (z) W na H).2.1 (digA nsl (z) W na H).2.2.1 (digA nsl (z) W na H).2.2.2 ∧ ∀ j, 14700 ≤ j → r' j = r j) ∧ (∃ rr' : Nat → Int, g' (i + 11) = iA cs 6 rr' ∧ ((q = -1 ∧ rr' = uZ rr 1 (rr 1 + 1)) ∨ (q ≠ -1 ∧ rr' = rr))) ∧ (∀ j, j < i ∨ i + 30 ≤ j → g' j = g j) ∧ ∀ j, i + 8 ≤ j → j ≤ i + 12 → j ≠ i + 11 → g' j = g j) := by
  obtain ⟨hg, ⟨⟨e13, e14, e25, e27, e29⟩, k15, k16, k17, k18, k19, k20, k23, k21⟩, hRD, hTx, hA, ns, nh, nd, rf, pi, te, ki, li, ok1, ok2, fo, dd, dps, ⟨ha1, ha2, ha3, ha4, ha5, ha6, ha7, ha8, ha9, ha10, ha11, ha12, ha13, ha14, ha15, ha24, ha25, ha26, ha27, ha28, ha29⟩, hEv, hPt, hns, htp⟩ := id hM
  obtain ⟨-, hop, hai, hfa, hT, hT1⟩ := id hEv
  have hay1 : zAt ad (i) (ad i) := rfl
  have hay2 : zAt ad (i + 1) (ad (i + 1)) := rfl
  have hay3 : zAt ad (i + 2) (ad (i + 2)) := rfl
  have hay4 : zAt ad (i + 3) (ad (i + 3)) := rfl
  have hay5 : zAt ad (i + 4) (ad (i + 4)) := rfl
  have hay6 : zAt ad (i + 5) (ad (i + 5)) := rfl
  have hay7 : zAt ad (i + 6) (ad (i + 6)) := rfl
  have hay8 : zAt ad (i + 7) (ad (i + 7)) := rfl
  have hay9 : zAt ad (i + 8) (ad (i + 8)) := rfl
  have hay10 : zAt ad (i + 9) (ad (i + 9)) := rfl
  have hay11 : zAt ad (i + 10) (ad (i + 10)) := rfl
  have hay12 : zAt ad (i + 11) (ad (i + 11)) := rfl
  have hay13 : zAt ad (i + 12) (ad (i + 12)) := rfl
  have hay14 : zAt ad (i + 13) (ad (i + 13)) := rfl
  have hay15 : zAt ad (i + 14) (ad (i + 14)) := rfl
  have hay16 : zAt ad (i + 15) (ad (i + 15)) := rfl
  have hay17 : zAt ad (i + 24) (ad (i + 24)) := rfl
  have hay18 : zAt ad (i + 25) (ad (i + 25)) := rfl
  have hay19 : zAt ad (i + 26) (ad (i + 26)) := rfl
  have hay20 : zAt ad (i + 27) (ad (i + 27)) := rfl
  have hay21 : zAt ad (i + 28) (ad (i + 28)) := rfl
  have hay22 : zAt ad (i + 29) (ad (i + 29)) := rfl
  obtain ⟨⟨hsyy23, htyy23, hnyy23, hpyy23⟩, hlyy23⟩ := okA.at0 hA
  simp only [Nat.zero_add] at hsyy23 hnyy23 hpyy23
  have hmn : ∀ s, s < 4 → 0 ≤ r (6 + 86 * s) ∧ r (6 + 86 * s) ≤ 12 := fun s hs => (hsyy23 s hs).1
  have h5 : 0 ≤ r 5 ∧ r 5 ≤ 6 := hpyy23
  obtain ⟨⟨hW, hwx⟩, ⟨fi, ⟨h15, h16⟩, ⟨hna, hfi⟩, hxh⟩, hHx⟩ := id hRX
  have hok9 := hwx.1
  have hW0 : r 0 = W.1 0 := hW.1 0 (by decide)
  have ht9 := hwx.2
  have ht8 := hok9.2.1
  refine z_of (by decide) (Nat.le_of_ble_eq_true rfl) ?_
  intro pY eY sY mY below meth cY C hr hlk hnm
  refine z_lv (lv' := [(0, .ref (ad i)), (1, .int (zI (z)))]) [0, 1] rfl ?_
  refine z_aload_n C 0 dX10_dig_0 rfl ?_
  refine z_iconst (z := 0) C dX10_dig_1 rfl ?_
  refine z_put (fs' := mF ad (i) (uZ F 12 (0))) C (lt_A0 hN rfl) hay1 hg tyX10 tyX10_ok nmX10 rfl inA_X10 12 (by decide) q_1471 rfl rfl rfl rfl (Nat.le_of_ble_eq_true rfl) rfl dX10_dig_2 (fun gy24 egy25 => ?_)
  have hgy26 := up_s egy25
  refine z_iload_n C 1 dX10_dig_5 rfl ?_
  refine z_iconst (z := 0) C dX10_dig_6 rfl ?_
  refine z_aload_n C 0 dX10_dig_7 rfl ?_
  refine z_get (v := .int (zI (F 13))) C (lt_A0 hN rfl) hay1 hgy26 rfl inA_X10 13 (by decide) q_1472 rfl (fv (F := (uZ F 12 (0))) (f := 13) (fn rfl (by decide))) dX10_dig_8 ?_
  refine z_iconst (z := 1) C dX10_dig_11 rfl ?_
  refine z_isub C dX10_dig_12 ?_
  refine z_cS (As := [.int (zI (z)), .int (zI (0)), .int (zI ((F 13) - 1))]) (rest := []) C (c_X10_within l D A cs tt N ad _ (z) (by omega) (0) (by omega) ((F 13) - 1) (by omega)) ms_yX10_within q_1686 hd_yX10_within (by decide) (Nat.le_of_ble_eq_true rfl) (by decide) dX10_dig_13 rfl (kI0 fun vy27 gvy27 hvy27 => ?_)
  obtain ⟨hvy27, rfl⟩ := hvy27
  obtain rfl : vy27 = 0 := by omega
  refine z_if_eq (tgt := 28) C dX10_dig_16 (by decide) (by omega) (fun _ => ?_) (fun h => absurd h (by omega))
  refine z_aload_n C 0 dX10_dig_28 rfl ?_
  refine z_iconst (z := 1) C dX10_dig_29 rfl ?_
  have hgy28 := up_n egy25 hrr (ne_o (i := i) (c := 11) (d := 0) rfl)
  refine z_cV (As := [.int (zI (1))]) (rest := []) (ci := 12) C (c_uRefuses l D A cs tt N ad _ i hN _ hgy26 _ hgy28 1 (by omega)) (lt_A0 hN rfl) hay1 hgy26 rfl rfl mv_yX10_refuses q_1866 hd_yX10_refuses (by decide) (Nat.le_of_ble_eq_true rfl) (by decide) dX10_dig_30 rfl (kI0 fun vy29 gvy29 hvy29 => ?_)
  obtain ⟨rfl, hdvy29, hfvy29⟩ := hvy29
  have hgy30 := (hfvy29 (i) (ne_o (i := i) (c := 0) (d := 11) rfl)).trans hgy26
  have hgy31 := up_n egy25 ha1 (ne_o (i := i) (c := 1) (d := 0) rfl)
  have hgy32 := (hfvy29 (i + 1) (ne_o (i := i) (c := 1) (d := 11) rfl)).trans hgy31
  have hFy33 : ∀ f, f ≠ 12 → (uZ F 12 (0)) f = F f := fun f n12 => ((uZ_n _ _ n12).trans rfl)
  have hey34 : (uZ F 12 (0)) 13 = F 13 := (fn rfl (by decide))
  have hey35 : (uZ F 12 (0)) 14 = F 14 := (fn rfl (by decide))
  have hey36 : (uZ F 12 (0)) 15 = F 15 := (fn rfl (by decide))
  have hey37 : (uZ F 12 (0)) 16 = F 16 := (fn rfl (by decide))
  have hey38 : (uZ F 12 (0)) 17 = F 17 := (fn rfl (by decide))
  have hey39 : (uZ F 12 (0)) 18 = F 18 := (fn rfl (by decide))
  have hey40 : (uZ F 12 (0)) 19 = F 19 := (fn rfl (by decide))
  have hey41 : (uZ F 12 (0)) 20 = F 20 := (fn rfl (by decide))
  have hey42 : (uZ F 12 (0)) 21 = F 21 := (fn rfl (by decide))
  have hey43 : (uZ F 12 (0)) 23 = F 23 := (fn rfl (by decide))
  have hey44 : (uZ F 12 (0)) 25 = F 25 := (fn rfl (by decide))
  have hey45 : (uZ F 12 (0)) 27 = F 27 := (fn rfl (by decide))
  have hey46 : (uZ F 12 (0)) 28 = F 28 := (fn rfl (by decide))
  have hey47 : (uZ F 12 (0)) 29 = F 29 := (fn rfl (by decide))
  have hKy48 : okF (uZ F 12 (0)) := okF.mv hM.2.1 hey34 hey35 hey36 hey37 hey38 hey39 hey40 hey41 hey42 hey43 hey44 hey45 hey46 hey47
  have hMy49 : okMr cs ad gvy29 i (x + 1) (uZ F 12 (0)) r st op ai fa mu tb tp := okMr.upd hM hgy30 hKy48 (fun f a => hFy33 f (by omega)) hgy32 (hA.mono (by omega)) (fun j a b => by
      by_cases e0 : j = i + 11
      · exact Or.inr ⟨11, _, e0, lsP.l (by decide), by rw [e0]; exact hdvy29⟩
      exact Or.inl (by rw [hfvy29 _ (by omega)]; rw [egy25, va_up_ne _ _ (by omega)]))
  have hkpy50 : (uZ F 12 (0)) 13 = F 13 := (fn rfl (by decide))
  have hkpy51 : (uZ F 12 (0)) 14 = F 14 := (fn rfl (by decide))
  have hkpy52 : (uZ F 12 (0)) 17 = F 17 := (fn rfl (by decide))
  have hkpy53 : (uZ F 12 (0)) 18 = F 18 := (fn rfl (by decide))
  have hkpy54 : (uZ F 12 (0)) 19 = F 19 := (fn rfl (by decide))
  have hkpy55 : (uZ F 12 (0)) 20 = F 20 := (fn rfl (by decide))
  have hkpy56 : (uZ F 12 (0)) 21 = F 21 := (fn rfl (by decide))
  have hkpy57 : (uZ F 12 (0)) 23 = F 23 := (fn rfl (by decide))
  have hkpy58 : (uZ F 12 (0)) 24 = F 24 := (fn rfl (by decide))
  have hkpy59 : (uZ F 12 (0)) 25 = F 25 := (fn rfl (by decide))
  have hkpy60 : (uZ F 12 (0)) 26 = F 26 := (fn rfl (by decide))
  have hkpy61 : (uZ F 12 (0)) 27 = F 27 := (fn rfl (by decide))
  have hkpy62 : (uZ F 12 (0)) 28 = F 28 := (fn rfl (by decide))
  have hkpy63 : (uZ F 12 (0)) 29 = F 29 := (fn rfl (by decide))
  rw [show digA nsl (z) W na H = (-1, W, na, H) from if_neg (by omega)]
  exact z_iret C hr hlk dX10_dig_33 (by decide) (by decide) ⟨-1, rfl, rfl, rfl, by omega, ⟨_, _, hMy49, by omega, hRX.nx (by omega) (fn rfl (by decide)) (fn rfl (by decide)) (fun j _ => rfl), fun j _ => rfl⟩, ⟨_, hdvy29, Or.inl ⟨by omega, rfl⟩⟩, fun j j1 => by rw [hfvy29 _ (by omega)]; rw [egy25, va_up_ne _ _ (by omega)], fun j j1 j2 j3 => by rw [hfvy29 _ (by omega)]; rw [egy25, va_up_ne _ _ (by omega)]⟩

set_option maxRecDepth 100000 in
set_option maxHeartbeats 4000000 in
theorem c_vDig (l : Launch) (D : va_G) (A : Nat → Prop) (cs : Nat → ClassId) (tt : Nat) (N : Nat) (ad : Nat → Nat) (g : Nat → va_E) (i : Nat) (hN : i + 30 ≤ N) (x : Int) (hx : 0 ≤ x ∧ x ≤ 512) (F r : Nat → Int) {st op ai fa mu tb tp : Nat → Int} (hM : okMr cs ad g i x F r st op ai fa mu tb tp) (hfr : okFr F op ai fa mu tb) (nsl : Nat) (hnsl : F 13 = (nsl : Int)) (W : WL9) (na : Nat) (H : Nat → WL9) (hRX : okRX F r x W na H) (rr : Nat → Int) (hrr : g (i + 11) = iA cs 6 rr) (z : Int) (hz : -2147483648 ≤ z ∧ z ≤ 2147483647) : zM l yX10_dig cX10_dig 3 (some .int) ({ frames := 5, cells := 0, slots := 0, locals := 300 } : Room) D A cs tt N ad g [.ref (ad i), .int (zI (z))] (rI0 N ad fun q g' => q = (digA nsl (z) W na H).1 ∧ (∃ F' r' : Nat → Int, okMr cs ad g' i (x + 1) F' r' st op ai fa mu tb tp ∧ (F' 13 = F 13 ∧ F' 14 = F 14 ∧ F' 17 = F 17 ∧ F' 18 = F 18 ∧ F' 19 = F 19 ∧ F' 20 = F 20 ∧ F' 21 = F 21 ∧ F' 23 = F 23 ∧ F' 24 = F 24 ∧ F' 25 = F 25 ∧ F' 26 = F 26 ∧ F' 27 = F 27 ∧ F' 28 = F 28 ∧ F' 29 = F 29) ∧ okRX F' r' (x + 1) (digA nsl (z) W na H).2.1 (digA nsl (z) W na H).2.2.1 (digA nsl (z) W na H).2.2.2 ∧ ∀ j, 14700 ≤ j → r' j = r j) ∧ (∃ rr' : Nat → Int, g' (i + 11) = iA cs 6 rr' ∧ ((q = -1 ∧ rr' = uZ rr 1 (rr 1 + 1)) ∨ (q ≠ -1 ∧ rr' = rr))) ∧ (∀ j, j < i ∨ i + 30 ≤ j → g' j = g j) ∧ ∀ j, i + 8 ≤ j → j ≤ i + 12 → j ≠ i + 11 → g' j = g j) := by
  by_cases h9 : 0 ≤ z ∧ z ≤ 3
  · obtain ⟨n, rfl⟩ : ∃ n : Nat, z = (n : Int) := ⟨z.toNat, by omega⟩
    exact c_vDig_a l D A cs tt N ad g i hN x hx F r hM hfr nsl hnsl W na H hRX rr hrr  n (by omega) 
  · exact c_vDig_b l D A cs tt N ad g i hN x hx F r hM hfr nsl hnsl W na H hRX rr hrr  z hz (by omega) 

set_option maxRecDepth 100000 in
set_option maxHeartbeats 4000000 in
theorem c_vUndo (l : Launch) (D : va_G) (A : Nat → Prop) (cs : Nat → ClassId) (tt : Nat) (N : Nat) (ad : Nat → Nat) (g : Nat → va_E) (i : Nat) (hN : i + 30 ≤ N) (x : Int) (hx : 0 ≤ x ∧ x ≤ 512) (F r : Nat → Int) {st op ai fa mu tb tp : Nat → Int} (hM : okMr cs ad g i x F r st op ai fa mu tb tp) (hfr : okFr F op ai fa mu tb) (nsl : Nat) (hnsl : F 13 = (nsl : Int)) (W : WL9) (na : Nat) (H : Nat → WL9) (hRX : okRX F r x W na H) (rr : Nat → Int) (hrr : g (i + 11) = iA cs 6 rr) : zM l yX10_undo cX10_undo 1 (some .int) ({ frames := 2, cells := 0, slots := 0, locals := 120 } : Room) D A cs tt N ad g [.ref (ad i)] (rI0 N ad fun q g' => q = (undA W na H).1 ∧ (∃ F' r' : Nat → Int, okMr cs ad g' i (x + 1) F' r' st op ai fa mu tb tp ∧ (F' 13 = F 13 ∧ F' 14 = F 14 ∧ F' 17 = F 17 ∧ F' 18 = F 18 ∧ F' 19 = F 19 ∧ F' 20 = F 20 ∧ F' 21 = F 21 ∧ F' 23 = F 23 ∧ F' 24 = F 24 ∧ F' 25 = F 25 ∧ F' 26 = F 26 ∧ F' 27 = F 27 ∧ F' 28 = F 28 ∧ F' 29 = F 29) ∧ okRX F' r' (x + 1) (undA W na H).2.1 (undA W na H).2.2.1 (undA W na H).2.2.2 ∧ ∀ j, 14700 ≤ j → r' j = r j) ∧ (∃ rr' : Nat → Int, g' (i + 11) = iA cs 6 rr' ∧ rr' = rr) ∧ (∀ j, j < i ∨ i + 30 ≤ j → g' j = g j) ∧ ∀ j, i + 8 ≤ j → j ≤ i + 12 → j ≠ i + 11 → g' j = g j) := by
  obtain ⟨hg, ⟨⟨e13, e14, e25, e27, e29⟩, k15, k16, k17, k18, k19, k20, k23, k21⟩, hRD, hTx, hA, ns, nh, nd, rf, pi, te, ki, li, ok1, ok2, fo, dd, dps, ⟨ha1, ha2, ha3, ha4, ha5, ha6, ha7, ha8, ha9, ha10, ha11, ha12, ha13, ha14, ha15, ha24, ha25, ha26, ha27, ha28, ha29⟩, hEv, hPt, hns, htp⟩ := id hM
  obtain ⟨-, hop, hai, hfa, hT, hT1⟩ := id hEv
  have hay1 : zAt ad (i) (ad i) := rfl
  have hay2 : zAt ad (i + 1) (ad (i + 1)) := rfl
  have hay3 : zAt ad (i + 2) (ad (i + 2)) := rfl
  have hay4 : zAt ad (i + 3) (ad (i + 3)) := rfl
  have hay5 : zAt ad (i + 4) (ad (i + 4)) := rfl
  have hay6 : zAt ad (i + 5) (ad (i + 5)) := rfl
  have hay7 : zAt ad (i + 6) (ad (i + 6)) := rfl
  have hay8 : zAt ad (i + 7) (ad (i + 7)) := rfl
  have hay9 : zAt ad (i + 8) (ad (i + 8)) := rfl
  have hay10 : zAt ad (i + 9) (ad (i + 9)) := rfl
  have hay11 : zAt ad (i + 10) (ad (i + 10)) := rfl
  have hay12 : zAt ad (i + 11) (ad (i + 11)) := rfl
  have hay13 : zAt ad (i + 12) (ad (i + 12)) := rfl
  have hay14 : zAt ad (i + 13) (ad (i + 13)) := rfl
  have hay15 : zAt ad (i + 14) (ad (i + 14)) := rfl
  have hay16 : zAt ad (i + 15) (ad (i + 15)) := rfl
  have hay17 : zAt ad (i + 24) (ad (i + 24)) := rfl
  have hay18 : zAt ad (i + 25) (ad (i + 25)) := rfl
  have hay19 : zAt ad (i + 26) (ad (i + 26)) := rfl
  have hay20 : zAt ad (i + 27) (ad (i + 27)) := rfl
  have hay21 : zAt ad (i + 28) (ad (i + 28)) := rfl
  have hay22 : zAt ad (i + 29) (ad (i + 29)) := rfl
  obtain ⟨⟨hsyy23, htyy23, hnyy23, hpyy23⟩, hlyy23⟩ := okA.at0 hA
  simp only [Nat.zero_add] at hsyy23 hnyy23 hpyy23
  have hmn : ∀ s, s < 4 → 0 ≤ r (6 + 86 * s) ∧ r (6 + 86 * s) ≤ 12 := fun s hs => (hsyy23 s hs).1
  have h5 : 0 ≤ r 5 ∧ r 5 ≤ 6 := hpyy23
  obtain ⟨⟨hW, hwx⟩, ⟨fi, ⟨h15, h16⟩, ⟨hna, hfi⟩, hxh⟩, hHx⟩ := id hRX
  have hok9 := hwx.1
  have hW0 : r 0 = W.1 0 := hW.1 0 (by decide)
  have ht9 := hwx.2
  have ht8 := hok9.2.1
  refine z_of (by decide) (Nat.le_of_ble_eq_true rfl) ?_
  intro pY eY sY mY below meth cY C hr hlk hnm
  refine z_lv (lv' := [(0, .ref (ad i))]) [0] rfl ?_
  refine z_aload_n C 0 dX10_undo_0 rfl ?_
  refine z_iconst (z := 0) C dX10_undo_1 rfl ?_
  refine z_put (fs' := mF ad (i) (uZ F 12 (0))) C (lt_A0 hN rfl) hay1 hg tyX10 tyX10_ok nmX10 rfl inA_X10 12 (by decide) q_1471 rfl rfl rfl rfl (Nat.le_of_ble_eq_true rfl) rfl dX10_undo_2 (fun gy24 egy25 => ?_)
  have hgy26 := up_s egy25
  refine z_aload_n C 0 dX10_undo_5 rfl ?_
  refine z_get (v := .int (zI (F 15))) C (lt_A0 hN rfl) hay1 hgy26 rfl inA_X10 15 (by decide) q_1474 rfl (fv (F := (uZ F 12 (0))) (f := 15) (fn rfl (by decide))) dX10_undo_6 ?_
  refine z_if_ne (tgt := 14) C dX10_undo_9 (by decide) (by omega) (fun hby27 => ?_) (fun hby27 => ?_)
  · refine z_aload_n C 0 dX10_undo_14 rfl ?_
    refine z_dup C dX10_undo_15 rfl ?_
    refine z_get (v := .int (zI (F 15))) C (lt_A0 hN rfl) hay1 hgy26 rfl inA_X10 15 (by decide) q_1474 rfl (fv (F := (uZ F 12 (0))) (f := 15) (fn rfl (by decide))) dX10_undo_16 ?_
    refine z_iconst (z := 1) C dX10_undo_19 rfl ?_
    refine z_isub C dX10_undo_20 ?_
    refine z_put (fs' := mF ad (i) (uZ (uZ F 12 (0)) 15 ((F 15) - 1))) C (lt_A0 hN rfl) hay1 hgy26 tyX10 tyX10_ok nmX10 rfl inA_X10 15 (by decide) q_1474 rfl rfl rfl rfl (Nat.le_of_ble_eq_true rfl) rfl dX10_undo_21 (fun gy28 egy29 => ?_)
    have hgy30 := up_s egy29
    refine z_aload_n C 0 dX10_undo_24 rfl ?_
    refine z_aload_n C 0 dX10_undo_25 rfl ?_
    refine z_get (v := .int (zI (F 16))) C (lt_A0 hN rfl) hay1 hgy30 rfl inA_X10 16 (by decide) q_1475 rfl (fv (F := (uZ (uZ F 12 (0)) 15 ((F 15) - 1))) (f := 16) (fn (fn rfl (by decide)) (by decide))) dX10_undo_26 ?_
    refine z_aload_n C 0 dX10_undo_29 rfl ?_
    refine z_get (v := .int (zI ((F 15) - 1))) C (lt_A0 hN rfl) hay1 hgy30 rfl inA_X10 15 (by decide) q_1474 rfl (fv (F := (uZ (uZ F 12 (0)) 15 ((F 15) - 1))) (f := 15) (uZ_s _ _ _)) dX10_undo_30 ?_
    obtain ⟨j9, rfl⟩ : ∃ j9, na = j9 + 1 := ⟨na - 1, by omega⟩
    rw [show F 16 = (fi : Int) by omega]
    rw [show (F 15) - 1 = (j9 : Int) by omega]
    refine z_cS (As := [.int (zI ((fi : Int))), .int (zI ((j9 : Int)))]) (rest := [.ref (ad i)]) C (c_uKeptAt l D A cs tt N ad _ fi j9 (by omega) (by omega)) ms_yX10_keptAt q_1874 hd_yX10_keptAt (by decide) (Nat.le_of_ble_eq_true rfl) (by decide) dX10_undo_33 rfl (kI0 fun vy31 gvy31 hvy31 => ?_)
    obtain ⟨rfl, rfl⟩ := hvy31
    obtain ⟨bvy31, hbvy31⟩ : ∃ b9 : Nat, b9 = kA fi j9 := ⟨_, rfl⟩
    have hbrvy31 : 700 ≤ bvy31 ∧ bvy31 ≤ 14350 := by rw [hbvy31]; unfold kA; omega
    rw [← hbvy31]
    refine z_iconst (z := 0) C dX10_undo_36 rfl ?_
    refine z_sipush (z := 350) C dX10_undo_37 (by decide) ?_
    have hgy32 := up_n egy25 ha1 (ne_o (i := i) (c := 1) (d := 0) rfl)
    have hgy33 := up_n egy29 hgy32 (ne_o (i := i) (c := 1) (d := 0) rfl)
    refine z_cV (As := [.int (zI ((bvy31 : Int))), .int (zI (0)), .int (zI (350))]) (rest := []) (ci := 12) C (c_X10_copies l D A cs tt N ad _ i hN _ hgy30 _ hgy33 bvy31 0 350 (by omega) (by omega) (by omega)) (lt_A0 hN rfl) hay1 hgy30 rfl rfl mv_yX10_copies q_1877 hd_yX10_copies (by decide) (Nat.le_of_ble_eq_true rfl) (by decide) dX10_undo_40 rfl (kV0 fun gvy34 hvy34 => ?_)
    obtain ⟨⟨rvy34, hcvy34, hevy34, hovy34⟩, hfvy34⟩ := hvy34
    have hkw : bvy31 = 350 * (2 + (fi + j9) % 40) := by rw [hbvy31]; unfold kA; omega
    have hAy35 : okA rvy34 (x) := okA.copy (a := 2 + (fi + j9) % 40) (b := 0) (m := 1) hA (by omega) (by omega) (by omega) (fun k hk => by rw [← hkw]; exact hevy34 k (by omega)) (fun j hj => hovy34 j (by omega))
    refine z_aload_n C 0 dX10_undo_43 rfl ?_
    have hgy36 := (hfvy34 (i) (ne_o (i := i) (c := 0) (d := 1) rfl)).trans hgy30
    refine z_get (v := .int (zI ((F 15) - 1))) C (lt_A0 hN rfl) hay1 hgy36 rfl inA_X10 15 (by decide) q_1474 rfl (fv (F := (uZ (uZ F 12 (0)) 15 ((F 15) - 1))) (f := 15) (uZ_s _ _ _)) dX10_undo_44 ?_
    have hFy37 : ∀ f, f ≠ 12 → f ≠ 15 → (uZ (uZ F 12 (0)) 15 ((F 15) - 1)) f = F f := fun f n12 n15 => ((uZ_n _ _ n15).trans ((uZ_n _ _ n12).trans rfl))
    have hey38 : (uZ (uZ F 12 (0)) 15 ((F 15) - 1)) 13 = F 13 := (fn (fn rfl (by decide)) (by decide))
    have hey39 : (uZ (uZ F 12 (0)) 15 ((F 15) - 1)) 14 = F 14 := (fn (fn rfl (by decide)) (by decide))
    have hey40 : (uZ (uZ F 12 (0)) 15 ((F 15) - 1)) 15 = (F 15) - 1 := (uZ_s _ _ _)
    have hey41 : (uZ (uZ F 12 (0)) 15 ((F 15) - 1)) 16 = F 16 := (fn (fn rfl (by decide)) (by decide))
    have hey42 : (uZ (uZ F 12 (0)) 15 ((F 15) - 1)) 17 = F 17 := (fn (fn rfl (by decide)) (by decide))
    have hey43 : (uZ (uZ F 12 (0)) 15 ((F 15) - 1)) 18 = F 18 := (fn (fn rfl (by decide)) (by decide))
    have hey44 : (uZ (uZ F 12 (0)) 15 ((F 15) - 1)) 19 = F 19 := (fn (fn rfl (by decide)) (by decide))
    have hey45 : (uZ (uZ F 12 (0)) 15 ((F 15) - 1)) 20 = F 20 := (fn (fn rfl (by decide)) (by decide))
    have hey46 : (uZ (uZ F 12 (0)) 15 ((F 15) - 1)) 21 = F 21 := (fn (fn rfl (by decide)) (by decide))
    have hey47 : (uZ (uZ F 12 (0)) 15 ((F 15) - 1)) 23 = F 23 := (fn (fn rfl (by decide)) (by decide))
    have hey48 : (uZ (uZ F 12 (0)) 15 ((F 15) - 1)) 25 = F 25 := (fn (fn rfl (by decide)) (by decide))
    have hey49 : (uZ (uZ F 12 (0)) 15 ((F 15) - 1)) 27 = F 27 := (fn (fn rfl (by decide)) (by decide))
    have hey50 : (uZ (uZ F 12 (0)) 15 ((F 15) - 1)) 28 = F 28 := (fn (fn rfl (by decide)) (by decide))
    have hey51 : (uZ (uZ F 12 (0)) 15 ((F 15) - 1)) 29 = F 29 := (fn (fn rfl (by decide)) (by decide))
    have hKy52 : okF (uZ (uZ F 12 (0)) 15 ((F 15) - 1)) := by unfold okF; omega
    have hMy53 : okMr cs ad gvy34 i (x + 1) (uZ (uZ F 12 (0)) 15 ((F 15) - 1)) rvy34 st op ai fa mu tb tp := okMr.upd hM hgy36 hKy52 (fun f a => hFy37 f (by omega) (by omega)) hcvy34 (hAy35.mono (by omega)) (fun j a b => by
        exact Or.inl (by rw [hfvy34 _ (by omega)]; rw [egy29, va_up_ne _ _ (by omega)]; rw [egy25, va_up_ne _ _ (by omega)]))
    have hkpy54 : (uZ (uZ F 12 (0)) 15 ((F 15) - 1)) 13 = F 13 := (fn (fn rfl (by decide)) (by decide))
    have hkpy55 : (uZ (uZ F 12 (0)) 15 ((F 15) - 1)) 14 = F 14 := (fn (fn rfl (by decide)) (by decide))
    have hkpy56 : (uZ (uZ F 12 (0)) 15 ((F 15) - 1)) 17 = F 17 := (fn (fn rfl (by decide)) (by decide))
    have hkpy57 : (uZ (uZ F 12 (0)) 15 ((F 15) - 1)) 18 = F 18 := (fn (fn rfl (by decide)) (by decide))
    have hkpy58 : (uZ (uZ F 12 (0)) 15 ((F 15) - 1)) 19 = F 19 := (fn (fn rfl (by decide)) (by decide))
    have hkpy59 : (uZ (uZ F 12 (0)) 15 ((F 15) - 1)) 20 = F 20 := (fn (fn rfl (by decide)) (by decide))
    have hkpy60 : (uZ (uZ F 12 (0)) 15 ((F 15) - 1)) 21 = F 21 := (fn (fn rfl (by decide)) (by decide))
    have hkpy61 : (uZ (uZ F 12 (0)) 15 ((F 15) - 1)) 23 = F 23 := (fn (fn rfl (by decide)) (by decide))
    have hkpy62 : (uZ (uZ F 12 (0)) 15 ((F 15) - 1)) 24 = F 24 := (fn (fn rfl (by decide)) (by decide))
    have hkpy63 : (uZ (uZ F 12 (0)) 15 ((F 15) - 1)) 25 = F 25 := (fn (fn rfl (by decide)) (by decide))
    have hkpy64 : (uZ (uZ F 12 (0)) 15 ((F 15) - 1)) 26 = F 26 := (fn (fn rfl (by decide)) (by decide))
    have hkpy65 : (uZ (uZ F 12 (0)) 15 ((F 15) - 1)) 27 = F 27 := (fn (fn rfl (by decide)) (by decide))
    have hkpy66 : (uZ (uZ F 12 (0)) 15 ((F 15) - 1)) 28 = F 28 := (fn (fn rfl (by decide)) (by decide))
    have hkpy67 : (uZ (uZ F 12 (0)) 15 ((F 15) - 1)) 29 = F 29 := (fn (fn rfl (by decide)) (by decide))
    have hE9 : undA W (j9 + 1) H = ((((j9 + 1 : Nat) : Int) - 1), H j9, j9, H) := if_neg (by omega)
    rw [hE9]
    have hX9 : okRX (uZ (uZ F 12 (0)) 15 ((F 15) - 1)) rvy34 (x + 1) (H j9) j9 H := hRX.back (by omega) h16 (((uZ_s _ _ _)).trans (by omega)) ((fn (fn rfl (by decide)) (by decide))) (fun q hq => by have h9 := hevy34 q (by omega); rw [Nat.zero_add, hbvy31] at h9; exact h9) (fun j a1 => hovy34 j (by omega))
    have hgy68 := up_n egy25 hrr (ne_o (i := i) (c := 11) (d := 0) rfl)
    have hgy69 := up_n egy29 hgy68 (ne_o (i := i) (c := 11) (d := 0) rfl)
    have hgy70 := (hfvy34 (i + 11) (ne_o (i := i) (c := 11) (d := 1) rfl)).trans hgy69
    exact z_iret C hr hlk dX10_undo_47 (by decide) (by decide) ⟨(F 15) - 1, rfl, rfl, rfl, by omega, ⟨_, _, hMy53, by omega, hX9, fun j a1 => hovy34 j (by omega)⟩, ⟨_, hgy70, rfl⟩, fun j j1 => by rw [hfvy34 _ (by omega)]; rw [egy29, va_up_ne _ _ (by omega)]; rw [egy25, va_up_ne _ _ (by omega)], fun j j1 j2 j3 => by rw [hfvy34 _ (by omega)]; rw [egy29, va_up_ne _ _ (by omega)]; rw [egy25, va_up_ne _ _ (by omega)]⟩
  · refine z_iconst (z := -1) C dX10_undo_12 rfl ?_
    have hna0 : na = 0 := by omega
    have hgy71 := up_n egy25 ha1 (ne_o (i := i) (c := 1) (d := 0) rfl)
    have hFy72 : ∀ f, f ≠ 12 → (uZ F 12 (0)) f = F f := fun f n12 => ((uZ_n _ _ n12).trans rfl)
    have hey73 : (uZ F 12 (0)) 13 = F 13 := (fn rfl (by decide))
    have hey74 : (uZ F 12 (0)) 14 = F 14 := (fn rfl (by decide))
    have hey75 : (uZ F 12 (0)) 15 = F 15 := (fn rfl (by decide))
    have hey76 : (uZ F 12 (0)) 16 = F 16 := (fn rfl (by decide))
    have hey77 : (uZ F 12 (0)) 17 = F 17 := (fn rfl (by decide))
    have hey78 : (uZ F 12 (0)) 18 = F 18 := (fn rfl (by decide))
    have hey79 : (uZ F 12 (0)) 19 = F 19 := (fn rfl (by decide))
    have hey80 : (uZ F 12 (0)) 20 = F 20 := (fn rfl (by decide))
    have hey81 : (uZ F 12 (0)) 21 = F 21 := (fn rfl (by decide))
    have hey82 : (uZ F 12 (0)) 23 = F 23 := (fn rfl (by decide))
    have hey83 : (uZ F 12 (0)) 25 = F 25 := (fn rfl (by decide))
    have hey84 : (uZ F 12 (0)) 27 = F 27 := (fn rfl (by decide))
    have hey85 : (uZ F 12 (0)) 28 = F 28 := (fn rfl (by decide))
    have hey86 : (uZ F 12 (0)) 29 = F 29 := (fn rfl (by decide))
    have hKy87 : okF (uZ F 12 (0)) := okF.mv hM.2.1 hey73 hey74 hey75 hey76 hey77 hey78 hey79 hey80 hey81 hey82 hey83 hey84 hey85 hey86
    have hMy88 : okMr cs ad gy24 i (x + 1) (uZ F 12 (0)) r st op ai fa mu tb tp := okMr.upd hM hgy26 hKy87 (fun f a => hFy72 f (by omega)) hgy71 (hA.mono (by omega)) (fun j a b => by
        exact Or.inl (by rw [egy25, va_up_ne _ _ (by omega)]))
    have hkpy89 : (uZ F 12 (0)) 13 = F 13 := (fn rfl (by decide))
    have hkpy90 : (uZ F 12 (0)) 14 = F 14 := (fn rfl (by decide))
    have hkpy91 : (uZ F 12 (0)) 17 = F 17 := (fn rfl (by decide))
    have hkpy92 : (uZ F 12 (0)) 18 = F 18 := (fn rfl (by decide))
    have hkpy93 : (uZ F 12 (0)) 19 = F 19 := (fn rfl (by decide))
    have hkpy94 : (uZ F 12 (0)) 20 = F 20 := (fn rfl (by decide))
    have hkpy95 : (uZ F 12 (0)) 21 = F 21 := (fn rfl (by decide))
    have hkpy96 : (uZ F 12 (0)) 23 = F 23 := (fn rfl (by decide))
    have hkpy97 : (uZ F 12 (0)) 24 = F 24 := (fn rfl (by decide))
    have hkpy98 : (uZ F 12 (0)) 25 = F 25 := (fn rfl (by decide))
    have hkpy99 : (uZ F 12 (0)) 26 = F 26 := (fn rfl (by decide))
    have hkpy100 : (uZ F 12 (0)) 27 = F 27 := (fn rfl (by decide))
    have hkpy101 : (uZ F 12 (0)) 28 = F 28 := (fn rfl (by decide))
    have hkpy102 : (uZ F 12 (0)) 29 = F 29 := (fn rfl (by decide))
    rw [show undA W na H = (-1, W, na, H) from if_pos hna0]
    have hgy103 := up_n egy25 hrr (ne_o (i := i) (c := 11) (d := 0) rfl)
    exact z_iret C hr hlk dX10_undo_13 (by decide) (by decide) ⟨-1, rfl, rfl, rfl, by omega, ⟨_, _, hMy88, by omega, hRX.nx (by omega) (fn rfl (by decide)) (fn rfl (by decide)) (fun j _ => rfl), fun j _ => rfl⟩, ⟨_, hgy103, rfl⟩, fun j j1 => by rw [egy25, va_up_ne _ _ (by omega)], fun j j1 j2 j3 => by rw [egy25, va_up_ne _ _ (by omega)]⟩

set_option maxRecDepth 100000 in
set_option maxHeartbeats 4000000 in
theorem c_vSlide_a (l : Launch) (D : va_G) (A : Nat → Prop) (cs : Nat → ClassId) (tt : Nat) (N : Nat) (ad : Nat → Nat) (g : Nat → va_E) (i : Nat) (hN : i + 30 ≤ N) (x : Int) (hx : 0 ≤ x ∧ x ≤ 512) (F r : Nat → Int) {st op ai fa mu tb tp : Nat → Int} (hM : okMr cs ad g i x F r st op ai fa mu tb tp) (hfr : okFr F op ai fa mu tb) (nsl : Nat) (hnsl : F 13 = (nsl : Int)) (W : WL9) (na : Nat) (H : Nat → WL9) (hRX : okRX F r x W na H) (rr : Nat → Int) (hrr : g (i + 11) = iA cs 6 rr) (hst9 : ∀ k, k < nsl → 0 ≤ st k ∧ st k ≤ 90) (n : Nat) (hn4 : n < 4) : zM l yX10_slide cX10_slide 2 (some .int) ({ frames := 11, cells := 0, slots := 0, locals := 660 } : Room) D A cs tt N ad g [.ref (ad i), .int (zI ((n : Int)))] (rI0 N ad fun q g' => (∃ (W' : WL9) (na' : Nat) (H' : Nat → WL9), sldA st tb nsl ((n : Int)) W na H q W' na' H' ∧ ∃ F' r' : Nat → Int, okMr cs ad g' i (x + 1) F' r' st op ai fa mu tb tp ∧ (F' 13 = F 13 ∧ F' 14 = F 14 ∧ F' 17 = F 17 ∧ F' 18 = F 18 ∧ F' 19 = F 19 ∧ F' 20 = F 20 ∧ F' 21 = F 21 ∧ F' 23 = F 23 ∧ F' 24 = F 24 ∧ F' 25 = F 25 ∧ F' 26 = F 26 ∧ F' 27 = F 27 ∧ F' 28 = F 28 ∧ F' 29 = F 29) ∧ okRX F' r' (x + 1) W' na' H' ∧ ∀ j, 14700 ≤ j → r' j = r j) ∧ (∃ rr' : Nat → Int, g' (i + 11) = iA cs 6 rr' ∧ ((q = -1 ∧ rr' = uZ rr 1 (rr 1 + 1)) ∨ (q ≠ -1 ∧ rr' = rr))) ∧ (∀ j, j < i ∨ i + 30 ≤ j → g' j = g j) ∧ ∀ j, i + 8 ≤ j → j ≤ i + 12 → j ≠ i + 11 → g' j = g j) := by
  obtain ⟨hg, ⟨⟨e13, e14, e25, e27, e29⟩, k15, k16, k17, k18, k19, k20, k23, k21⟩, hRD, hTx, hA, ns, nh, nd, rf, pi, te, ki, li, ok1, ok2, fo, dd, dps, ⟨ha1, ha2, ha3, ha4, ha5, ha6, ha7, ha8, ha9, ha10, ha11, ha12, ha13, ha14, ha15, ha24, ha25, ha26, ha27, ha28, ha29⟩, hEv, hPt, hns, htp⟩ := id hM
  obtain ⟨-, hop, hai, hfa, hT, hT1⟩ := id hEv
  have hay1 : zAt ad (i) (ad i) := rfl
  have hay2 : zAt ad (i + 1) (ad (i + 1)) := rfl
  have hay3 : zAt ad (i + 2) (ad (i + 2)) := rfl
  have hay4 : zAt ad (i + 3) (ad (i + 3)) := rfl
  have hay5 : zAt ad (i + 4) (ad (i + 4)) := rfl
  have hay6 : zAt ad (i + 5) (ad (i + 5)) := rfl
  have hay7 : zAt ad (i + 6) (ad (i + 6)) := rfl
  have hay8 : zAt ad (i + 7) (ad (i + 7)) := rfl
  have hay9 : zAt ad (i + 8) (ad (i + 8)) := rfl
  have hay10 : zAt ad (i + 9) (ad (i + 9)) := rfl
  have hay11 : zAt ad (i + 10) (ad (i + 10)) := rfl
  have hay12 : zAt ad (i + 11) (ad (i + 11)) := rfl
  have hay13 : zAt ad (i + 12) (ad (i + 12)) := rfl
  have hay14 : zAt ad (i + 13) (ad (i + 13)) := rfl
  have hay15 : zAt ad (i + 14) (ad (i + 14)) := rfl
  have hay16 : zAt ad (i + 15) (ad (i + 15)) := rfl
  have hay17 : zAt ad (i + 24) (ad (i + 24)) := rfl
  have hay18 : zAt ad (i + 25) (ad (i + 25)) := rfl
  have hay19 : zAt ad (i + 26) (ad (i + 26)) := rfl
  have hay20 : zAt ad (i + 27) (ad (i + 27)) := rfl
  have hay21 : zAt ad (i + 28) (ad (i + 28)) := rfl
  have hay22 : zAt ad (i + 29) (ad (i + 29)) := rfl
  obtain ⟨⟨hsyy23, htyy23, hnyy23, hpyy23⟩, hlyy23⟩ := okA.at0 hA
  simp only [Nat.zero_add] at hsyy23 hnyy23 hpyy23
  have hmn : ∀ s, s < 4 → 0 ≤ r (6 + 86 * s) ∧ r (6 + 86 * s) ≤ 12 := fun s hs => (hsyy23 s hs).1
  have h5 : 0 ≤ r 5 ∧ r 5 ≤ 6 := hpyy23
  obtain ⟨⟨hW, hwx⟩, ⟨fi, ⟨h15, h16⟩, ⟨hna, hfi⟩, hxh⟩, hHx⟩ := id hRX
  have hok9 := hwx.1
  have hW0 : r 0 = W.1 0 := hW.1 0 (by decide)
  have ht9 := hwx.2
  have ht8 := hok9.2.1
  obtain ⟨p, hp⟩ : ∃ p9 : Nat, 0 + 6 + 86 * n = p9 := ⟨_, rfl⟩
  have hS0 : isS r p (W.2 n) := by rw [← hp]; exact hW.2 n hn4
  have hOs := (hok9.1 n hn4).1
  obtain ⟨bB1, bB2, bB3, bB4⟩ := mBb (t := W.1 0 + x) (by omega)
  obtain ⟨⟨ny24, Ky25, roy26⟩, hSy27⟩ : ∃ S9 : SL9, S9 = W.2 n := ⟨_, rfl⟩
  obtain ⟨hny28, hry29, hCy30⟩ := (show isS r p (ny24, Ky25, roy26) by rw [hSy27]; exact hS0)
  have hny28 : r p = (ny24 : Int) := hny28
  have hry29 : r (p + 1) = roy26 := hry29
  have hCy30 : ∀ q, q < 7 * ny24 → r (p + 2 + q) = Ky25 q := hCy30
  have hOy319 := hOs
  rw [← hSy27] at hOy319
  obtain ⟨hOy31, hpy32, hmy33, hdy34, hagy35⟩ := id hOy319
  have hpy32 : 0 ≤ roy26 := hpy32
  have hmy33 : roy26 + sZ Ky25 ny24 ≤ _ := hmy33
  have hdy34 : dZ Ky25 ny24 ≤ _ := hdy34
  have hOy31 : okP Ky25 ny24 := hOy31
  have hsy36 := sZ_n hOy31 (k := ny24) (Nat.le_refl _)
  have hsy36n : ny24 ≤ 12 := hOy31.1
  have hagy35 : ∀ l, l < ny24 → Ky25 (7 * l + 5) ≤ _ := hagy35
  have ht : okTb tb := hfr.2.2.2.2
  have hX : okX Ky25 ny24 := by have h9 := (hok9.1 n hn4).2.x (by omega); rw [← hSy27] at h9; exact h9
  refine z_of (by decide) (Nat.le_of_ble_eq_true rfl) ?_
  intro pY eY sY mY below meth cY C hr hlk hnm
  refine z_lv (lv' := [(0, .ref (ad i)), (1, .int (zI ((n : Int))))]) [0, 1] rfl ?_
  refine z_aload_n C 0 dX10_slide_0 rfl ?_
  refine z_iconst (z := 0) C dX10_slide_1 rfl ?_
  refine z_put (fs' := mF ad (i) (uZ F 12 (0))) C (lt_A0 hN rfl) hay1 hg tyX10 tyX10_ok nmX10 rfl inA_X10 12 (by decide) q_1471 rfl rfl rfl rfl (Nat.le_of_ble_eq_true rfl) rfl dX10_slide_2 (fun gy37 egy38 => ?_)
  have hgy39 := up_s egy38
  refine z_iload_n C 1 dX10_slide_5 rfl ?_
  refine z_iconst (z := 0) C dX10_slide_6 rfl ?_
  refine z_aload_n C 0 dX10_slide_7 rfl ?_
  refine z_get (v := .int (zI (F 13))) C (lt_A0 hN rfl) hay1 hgy39 rfl inA_X10 13 (by decide) q_1472 rfl (fv (F := (uZ F 12 (0))) (f := 13) (fn rfl (by decide))) dX10_slide_8 ?_
  refine z_iconst (z := 1) C dX10_slide_11 rfl ?_
  refine z_isub C dX10_slide_12 ?_
  refine z_cS (As := [.int (zI ((n : Int))), .int (zI (0)), .int (zI ((F 13) - 1))]) (rest := []) C (c_X10_within l D A cs tt N ad _ ((n : Int)) (by omega) (0) (by omega) ((F 13) - 1) (by omega)) ms_yX10_within q_1686 hd_yX10_within (by decide) (Nat.le_of_ble_eq_true rfl) (by decide) dX10_slide_13 rfl (kI0 fun vy40 gvy40 hvy40 => ?_)
  obtain ⟨hvy40, rfl⟩ := hvy40
  rcases hvy40 with ⟨rfl, hxvy40⟩ | ⟨rfl, hxvy40⟩
  · refine z_if_eq (tgt := 28) C dX10_slide_16 (by decide) (by omega) (fun h => absurd h (by omega)) (fun _ => ?_)
    refine z_aload_n C 0 dX10_slide_19 rfl ?_
    refine z_iconst (z := 0) C dX10_slide_20 rfl ?_
    refine z_iload_n C 1 dX10_slide_21 rfl ?_
    have hst : 0 ≤ st n ∧ st n ≤ 90 := hst9 n (by omega)
    have hgy41 := up_n egy38 ha1 (ne_o (i := i) (c := 1) (d := 0) rfl)
    have hgy43 := up_n egy38 ha2 (ne_o (i := i) (c := 2) (d := 0) rfl)
    have hgy44 := up_n egy38 ha7 (ne_o (i := i) (c := 7) (d := 0) rfl)
    refine z_cV (As := [.int (zI (0)), .int (zI ((n : Int)))]) (rest := []) (ci := 12) C (c_uUnst l D A cs tt N ad _ i hN _ hgy39 _ hgy41 _ hgy43 _ hgy44 0 n p hp (by omega) (by omega) ny24 Ky25 hny28 hCy30 hOy31 ht hX hst) (lt_A0 hN rfl) hay1 hgy39 rfl rfl mv_yX10_isUnstable q_1811 hd_yX10_isUnstable (by decide) (Nat.le_of_ble_eq_true rfl) (by decide) dX10_slide_22 rfl (kI0 fun vy42 gvy42 hvy42 => ?_)
    obtain ⟨⟨lrvy42, hlvy42, huvy42⟩, rfl⟩ := hvy42
    refine z_if_ne (tgt := 34) C dX10_slide_25 (by decide) (by omega) (fun hby45 => ?_) (fun hby45 => ?_)
    · refine z_aload_n C 0 dX10_slide_34 rfl ?_
      have hey47 : (uZ F 12 (0)) 15 = F 15 := (fn rfl (by decide))
      have hey48 : (uZ F 12 (0)) 16 = F 16 := (fn rfl (by decide))
      refine z_cV (As := []) (rest := []) (ci := 12) C (c_uKeeps l D A cs tt N ad _ i hN _ hgy39 _ hgy41 na fi (by omega) (by omega) hna hfi) (lt_A0 hN rfl) hay1 hgy39 rfl rfl mv_yX10_keeps q_1870 hd_yX10_keeps (by decide) (Nat.le_of_ble_eq_true rfl) (by decide) dX10_slide_35 rfl (kV0 fun gvy46 hvy46 => ?_)
      obtain ⟨⟨Fvy46, hcvy46, ⟨h15vy46, h16vy46⟩, hFvy46⟩, ⟨rvy46, hdvy46, hyvy46c, hyvy46f⟩, hfvy46⟩ := hvy46
      obtain ⟨fj, hfj⟩ : ∃ f9 : Nat, f9 = if na = 40 then (fi + 1) % 40 else fi := ⟨_, rfl⟩
      obtain ⟨mj, hmj⟩ : ∃ f9 : Nat, f9 = if na = 40 then 39 else na := ⟨_, rfl⟩
      rw [← hfj] at h16vy46 hyvy46c hyvy46f
      rw [← hmj] at hyvy46c hyvy46f
      have hfj4 : fj < 40 := by rw [hfj]; split <;> omega
      have hka9 : kA fj mj = 350 * (2 + (fj + mj) % 40) := by unfold kA; omega
      have hkb9 : 700 ≤ kA fj mj ∧ kA fj mj ≤ 14350 := by omega
      have hkn9 : kpN na ≤ 40 := by unfold kpN; split <;> omega
      have hAvy46 : okA rvy46 (x) := okA.copy (a := 0) (b := 2 + (fj + mj) % 40) (m := 1) hA (by omega) (by omega) (by omega) (fun k hk => by rw [← hka9, Nat.mul_zero, Nat.zero_add]; exact hyvy46c k (by omega)) (fun j hj => hyvy46f j (by omega))
      have hyvy46 : ∀ j, j < 700 → rvy46 j = r j := fun j hj => hyvy46f j (by omega)
      obtain ⟨⟨hsyy49, htyy49, hnyy49, hpyy49⟩, hlyy49⟩ := okA.at0 hAvy46
      simp only [Nat.zero_add] at hsyy49 hnyy49 hpyy49
      have hmn : ∀ s, s < 4 → 0 ≤ rvy46 (6 + 86 * s) ∧ rvy46 (6 + 86 * s) ≤ 12 := fun s hs => (hsyy49 s hs).1
      have h5 : 0 ≤ rvy46 5 ∧ rvy46 5 ≤ 6 := hpyy49
      have hk0vy46 : rvy46 0 = r 0 := hyvy46 0 (by omega)
      have hk1vy46 : rvy46 1 = r 1 := hyvy46 1 (by omega)
      have hk5vy46 : rvy46 5 = r 5 := hyvy46 5 (by omega)
      have hWk : isWr rvy46 0 W := hW.ext hok9.n12 (fun j a1 a2 => hyvy46 j (by omega))
      have hSk : isS rvy46 p (W.2 n) := by rw [← hp]; exact hWk.2 n hn4
      have hSj : isS rvy46 p (ny24, Ky25, roy26) := by rw [hSy27]; exact hSk
      obtain ⟨hnk, hrk, hCk⟩ := hSj
      have hnk : rvy46 p = (ny24 : Int) := hnk
      have hCk : ∀ q, q < 7 * ny24 → rvy46 (p + 2 + q) = Ky25 q := hCk
      refine z_aload_n C 0 dX10_slide_38 rfl ?_
      refine z_iconst (z := 0) C dX10_slide_39 rfl ?_
      refine z_iload_n C 1 dX10_slide_40 rfl ?_
      have hgy51 := (hfvy46 (i + 2) (ne_o (i := i) (c := 2) (d := 0) rfl) (ne_o (i := i) (c := 2) (d := 1) rfl)).trans hgy43
      have hgy52 := (hfvy46 (i + 7) (ne_o (i := i) (c := 7) (d := 0) rfl) (ne_o (i := i) (c := 7) (d := 1) rfl)).trans hgy44
      have hn0 : 0 < ny24 := by rcases hlvy42 with ⟨a9, b9⟩ | ⟨k9, a9, -⟩ <;> omega
      obtain ⟨wk, hwd⟩ := isWk_ex (more := 0) (steep := st n) ht hOy31 hX (by decide) hst hn0
      have hwk : isWk tb (W.2 n).2.1 (W.2 n).1 0 (st n) (wk : Int) := by rw [← hSy27]; exact hwd
      have hXn : okX (W.2 n).2.1 (W.2 n).1 := by rw [← hSy27]; exact hX
      have hwn : wk < (W.2 n).1 := by rcases hwk with ⟨a9, b9⟩ | ⟨k9, a9, b9, -⟩ <;> omega
      refine z_cV (As := [.int (zI (0)), .int (zI ((n : Int)))]) (rest := []) (ci := 12) C (c_uSlides l D A cs tt N ad _ i hN _ hcvy46 _ hdvy46 _ hgy51 _ hgy52 0 n p hp (by omega) (by omega) W hWk hok9.n12 _ _ _ hOs ht hXn hst wk hwk) (lt_A0 hN rfl) hay1 hcvy46 rfl rfl mv_yX10_slides q_1964 hd_yX10_slides (by decide) (Nat.le_of_ble_eq_true rfl) (by decide) dX10_slide_41 rfl (kI0 fun vy50 gvy50 hvy50 => ?_)
      obtain ⟨rfl, ⟨rvy50, hcvy50, hwvy50, hyvy50⟩, hfvy50⟩ := hvy50
      have hnm12 := hok9.n12 n hn4
      have hokd : okWl (x + 1) (50 * (x + 1)) (slW W n wk) := (hok9.sd hn4 hwn).mono (by omega) (by omega)
      have ht0vy50 : (slW W n wk).1 0 = W.1 0 := slW_0 W n wk
      have hAvy50 : okA rvy50 (x + 1) := okA.first hAvy46 (by omega) (fun j a => hyvy50 j (by omega)) (hwvy50.okW hokd) (by have h9 := hwvy50.1 0 (by decide); rw [Nat.add_zero] at h9; have h8 : (slW W n wk).1 0 = W.1 0 := ht0vy50; omega)
      obtain ⟨⟨hsyy53, htyy53, hnyy53, hpyy53⟩, hlyy53⟩ := okA.at0 hAvy50
      simp only [Nat.zero_add] at hsyy53 hnyy53 hpyy53
      have hmn : ∀ s, s < 4 → 0 ≤ rvy50 (6 + 86 * s) ∧ rvy50 (6 + 86 * s) ≤ 12 := fun s hs => (hsyy53 s hs).1
      have h5 : 0 ≤ rvy50 5 ∧ rvy50 5 ≤ 6 := hpyy53
      have hgy54 := (hfvy50 (i) (ne_o (i := i) (c := 0) (d := 1) rfl)).trans hcvy46
      have hFy55 : ∀ f, f ≠ 12 → f ≠ 15 → f ≠ 16 → Fvy46 f = F f := fun f n12 n15 n16 => ((hFvy46 f n15 n16).trans ((uZ_n _ _ n12).trans rfl))
      have hey56 : Fvy46 13 = F 13 := ((hFvy46 13 (by decide) (by decide)).trans (fn rfl (by decide)))
      have hey57 : Fvy46 14 = F 14 := ((hFvy46 14 (by decide) (by decide)).trans (fn rfl (by decide)))
      have hey58 : Fvy46 15 = Fvy46 15 := rfl
      have hey59 : Fvy46 16 = Fvy46 16 := rfl
      have hey60 : Fvy46 17 = F 17 := ((hFvy46 17 (by decide) (by decide)).trans (fn rfl (by decide)))
      have hey61 : Fvy46 18 = F 18 := ((hFvy46 18 (by decide) (by decide)).trans (fn rfl (by decide)))
      have hey62 : Fvy46 19 = F 19 := ((hFvy46 19 (by decide) (by decide)).trans (fn rfl (by decide)))
      have hey63 : Fvy46 20 = F 20 := ((hFvy46 20 (by decide) (by decide)).trans (fn rfl (by decide)))
      have hey64 : Fvy46 21 = F 21 := ((hFvy46 21 (by decide) (by decide)).trans (fn rfl (by decide)))
      have hey65 : Fvy46 23 = F 23 := ((hFvy46 23 (by decide) (by decide)).trans (fn rfl (by decide)))
      have hey66 : Fvy46 25 = F 25 := ((hFvy46 25 (by decide) (by decide)).trans (fn rfl (by decide)))
      have hey67 : Fvy46 27 = F 27 := ((hFvy46 27 (by decide) (by decide)).trans (fn rfl (by decide)))
      have hey68 : Fvy46 28 = F 28 := ((hFvy46 28 (by decide) (by decide)).trans (fn rfl (by decide)))
      have hey69 : Fvy46 29 = F 29 := ((hFvy46 29 (by decide) (by decide)).trans (fn rfl (by decide)))
      have hKy70 : okF Fvy46 := by unfold okF; omega
      have hMy71 : okMr cs ad gvy50 i (x + 1) Fvy46 rvy50 st op ai fa mu tb tp := okMr.upd hM hgy54 hKy70 (fun f a => hFy55 f (by omega) (by omega) (by omega)) hcvy50 (hAvy50.mono (by omega)) (fun j a b => by
          exact Or.inl (by rw [hfvy50 _ (by omega)]; rw [hfvy46 _ (by omega) (by omega)]; rw [egy38, va_up_ne _ _ (by omega)]))
      have hkpy72 : Fvy46 13 = F 13 := ((hFvy46 13 (by decide) (by decide)).trans (fn rfl (by decide)))
      have hkpy73 : Fvy46 14 = F 14 := ((hFvy46 14 (by decide) (by decide)).trans (fn rfl (by decide)))
      have hkpy74 : Fvy46 17 = F 17 := ((hFvy46 17 (by decide) (by decide)).trans (fn rfl (by decide)))
      have hkpy75 : Fvy46 18 = F 18 := ((hFvy46 18 (by decide) (by decide)).trans (fn rfl (by decide)))
      have hkpy76 : Fvy46 19 = F 19 := ((hFvy46 19 (by decide) (by decide)).trans (fn rfl (by decide)))
      have hkpy77 : Fvy46 20 = F 20 := ((hFvy46 20 (by decide) (by decide)).trans (fn rfl (by decide)))
      have hkpy78 : Fvy46 21 = F 21 := ((hFvy46 21 (by decide) (by decide)).trans (fn rfl (by decide)))
      have hkpy79 : Fvy46 23 = F 23 := ((hFvy46 23 (by decide) (by decide)).trans (fn rfl (by decide)))
      have hkpy80 : Fvy46 24 = F 24 := ((hFvy46 24 (by decide) (by decide)).trans (fn rfl (by decide)))
      have hkpy81 : Fvy46 25 = F 25 := ((hFvy46 25 (by decide) (by decide)).trans (fn rfl (by decide)))
      have hkpy82 : Fvy46 26 = F 26 := ((hFvy46 26 (by decide) (by decide)).trans (fn rfl (by decide)))
      have hkpy83 : Fvy46 27 = F 27 := ((hFvy46 27 (by decide) (by decide)).trans (fn rfl (by decide)))
      have hkpy84 : Fvy46 28 = F 28 := ((hFvy46 28 (by decide) (by decide)).trans (fn rfl (by decide)))
      have hkpy85 : Fvy46 29 = F 29 := ((hFvy46 29 (by decide) (by decide)).trans (fn rfl (by decide)))
      have hWf : okWx (x + 1) (slW W n wk) := ⟨hokd, by have h8 := slW_0 W n wk; omega⟩
      have hX9 : okRX Fvy46 rvy50 (x + 1) (slW W n wk) (kpN na) (kpH na H W) := hRX.act (by omega) h16 hfj hmj (by omega) (by omega) (fun q hq => (hyvy50 _ (by omega)).trans (hyvy46c q hq)) (fun j a1 a2 => (hyvy50 j (by omega)).trans (hyvy46f j a2)) hwvy50 hWf
      have hgy86 := up_n egy38 hrr (ne_o (i := i) (c := 11) (d := 0) rfl)
      have hgy87 := (hfvy46 (i + 11) (ne_o (i := i) (c := 11) (d := 0) rfl) (ne_o (i := i) (c := 11) (d := 1) rfl)).trans hgy86
      have hgy88 := (hfvy50 (i + 11) (ne_o (i := i) (c := 11) (d := 1) rfl)).trans hgy87
      exact z_iret C hr hlk dX10_slide_44 (by decide) (by decide) ⟨(((W.2 n).1 : Int) - 1 - (wk : Int)), rfl, rfl, rfl, ⟨slW W n wk, kpN na, kpH na H W, Or.inr ⟨by omega, ⟨lrvy42, by rw [Int.toNat_natCast, ← hSy27]; exact hlvy42, by omega⟩, wk, by rw [Int.toNat_natCast]; exact hwk, by rw [Int.toNat_natCast], by rw [Int.toNat_natCast], rfl, rfl⟩, _, _, hMy71, by omega, hX9, fun j a1 => (hyvy50 j (by omega)).trans (hyvy46f j (by omega))⟩, ⟨_, hgy88, Or.inr ⟨by omega, rfl⟩⟩, fun j j1 => by rw [hfvy50 _ (by omega)]; rw [hfvy46 _ (by omega) (by omega)]; rw [egy38, va_up_ne _ _ (by omega)], fun j j1 j2 j3 => by rw [hfvy50 _ (by omega)]; rw [hfvy46 _ (by omega) (by omega)]; rw [egy38, va_up_ne _ _ (by omega)]⟩
    · refine z_aload_n C 0 dX10_slide_28 rfl ?_
      refine z_iconst (z := 1) C dX10_slide_29 rfl ?_
      have hgy89 := up_n egy38 hrr (ne_o (i := i) (c := 11) (d := 0) rfl)
      refine z_cV (As := [.int (zI (1))]) (rest := []) (ci := 12) C (c_uRefuses l D A cs tt N ad _ i hN _ hgy39 _ hgy89 1 (by omega)) (lt_A0 hN rfl) hay1 hgy39 rfl rfl mv_yX10_refuses q_1866 hd_yX10_refuses (by decide) (Nat.le_of_ble_eq_true rfl) (by decide) dX10_slide_30 rfl (kI0 fun vy90 gvy90 hvy90 => ?_)
      obtain ⟨rfl, hdvy90, hfvy90⟩ := hvy90
      have hgy91 := (hfvy90 (i) (ne_o (i := i) (c := 0) (d := 11) rfl)).trans hgy39
      have hgy92 := (hfvy90 (i + 1) (ne_o (i := i) (c := 1) (d := 11) rfl)).trans hgy41
      have hFy93 : ∀ f, f ≠ 12 → (uZ F 12 (0)) f = F f := fun f n12 => ((uZ_n _ _ n12).trans rfl)
      have hey94 : (uZ F 12 (0)) 13 = F 13 := (fn rfl (by decide))
      have hey95 : (uZ F 12 (0)) 14 = F 14 := (fn rfl (by decide))
      have hey96 : (uZ F 12 (0)) 15 = F 15 := (fn rfl (by decide))
      have hey97 : (uZ F 12 (0)) 16 = F 16 := (fn rfl (by decide))
      have hey98 : (uZ F 12 (0)) 17 = F 17 := (fn rfl (by decide))
      have hey99 : (uZ F 12 (0)) 18 = F 18 := (fn rfl (by decide))
      have hey100 : (uZ F 12 (0)) 19 = F 19 := (fn rfl (by decide))
      have hey101 : (uZ F 12 (0)) 20 = F 20 := (fn rfl (by decide))
      have hey102 : (uZ F 12 (0)) 21 = F 21 := (fn rfl (by decide))
      have hey103 : (uZ F 12 (0)) 23 = F 23 := (fn rfl (by decide))
      have hey104 : (uZ F 12 (0)) 25 = F 25 := (fn rfl (by decide))
      have hey105 : (uZ F 12 (0)) 27 = F 27 := (fn rfl (by decide))
      have hey106 : (uZ F 12 (0)) 28 = F 28 := (fn rfl (by decide))
      have hey107 : (uZ F 12 (0)) 29 = F 29 := (fn rfl (by decide))
      have hKy108 : okF (uZ F 12 (0)) := okF.mv hM.2.1 hey94 hey95 hey96 hey97 hey98 hey99 hey100 hey101 hey102 hey103 hey104 hey105 hey106 hey107
      have hMy109 : okMr cs ad gvy90 i (x + 1) (uZ F 12 (0)) r st op ai fa mu tb tp := okMr.upd hM hgy91 hKy108 (fun f a => hFy93 f (by omega)) hgy92 (hA.mono (by omega)) (fun j a b => by
          by_cases e0 : j = i + 11
          · exact Or.inr ⟨11, _, e0, lsP.l (by decide), by rw [e0]; exact hdvy90⟩
          exact Or.inl (by rw [hfvy90 _ (by omega)]; rw [egy38, va_up_ne _ _ (by omega)]))
      have hkpy110 : (uZ F 12 (0)) 13 = F 13 := (fn rfl (by decide))
      have hkpy111 : (uZ F 12 (0)) 14 = F 14 := (fn rfl (by decide))
      have hkpy112 : (uZ F 12 (0)) 17 = F 17 := (fn rfl (by decide))
      have hkpy113 : (uZ F 12 (0)) 18 = F 18 := (fn rfl (by decide))
      have hkpy114 : (uZ F 12 (0)) 19 = F 19 := (fn rfl (by decide))
      have hkpy115 : (uZ F 12 (0)) 20 = F 20 := (fn rfl (by decide))
      have hkpy116 : (uZ F 12 (0)) 21 = F 21 := (fn rfl (by decide))
      have hkpy117 : (uZ F 12 (0)) 23 = F 23 := (fn rfl (by decide))
      have hkpy118 : (uZ F 12 (0)) 24 = F 24 := (fn rfl (by decide))
      have hkpy119 : (uZ F 12 (0)) 25 = F 25 := (fn rfl (by decide))
      have hkpy120 : (uZ F 12 (0)) 26 = F 26 := (fn rfl (by decide))
      have hkpy121 : (uZ F 12 (0)) 27 = F 27 := (fn rfl (by decide))
      have hkpy122 : (uZ F 12 (0)) 28 = F 28 := (fn rfl (by decide))
      have hkpy123 : (uZ F 12 (0)) 29 = F 29 := (fn rfl (by decide))
      exact z_iret C hr hlk dX10_slide_33 (by decide) (by decide) ⟨-1, rfl, rfl, rfl, ⟨W, na, H, Or.inl ⟨Or.inr ⟨lrvy42, by rw [Int.toNat_natCast, ← hSy27]; exact hlvy42, by omega⟩, by omega, rfl, rfl, rfl⟩, _, _, hMy109, by omega, hRX.nx (by omega) (fn rfl (by decide)) (fn rfl (by decide)) (fun j _ => rfl), fun j _ => rfl⟩, ⟨_, hdvy90, Or.inl ⟨by omega, rfl⟩⟩, fun j j1 => by rw [hfvy90 _ (by omega)]; rw [egy38, va_up_ne _ _ (by omega)], fun j j1 j2 j3 => by rw [hfvy90 _ (by omega)]; rw [egy38, va_up_ne _ _ (by omega)]⟩
  · refine z_if_eq (tgt := 28) C dX10_slide_16 (by decide) (by omega) (fun _ => ?_) (fun h => absurd h (by omega))
    refine z_aload_n C 0 dX10_slide_28 rfl ?_
    refine z_iconst (z := 1) C dX10_slide_29 rfl ?_
    have hgy124 := up_n egy38 hrr (ne_o (i := i) (c := 11) (d := 0) rfl)
    refine z_cV (As := [.int (zI (1))]) (rest := []) (ci := 12) C (c_uRefuses l D A cs tt N ad _ i hN _ hgy39 _ hgy124 1 (by omega)) (lt_A0 hN rfl) hay1 hgy39 rfl rfl mv_yX10_refuses q_1866 hd_yX10_refuses (by decide) (Nat.le_of_ble_eq_true rfl) (by decide) dX10_slide_30 rfl (kI0 fun vy125 gvy125 hvy125 => ?_)
    obtain ⟨rfl, hdvy125, hfvy125⟩ := hvy125
    have hgy126 := (hfvy125 (i) (ne_o (i := i) (c := 0) (d := 11) rfl)).trans hgy39
    have hgy127 := up_n egy38 ha1 (ne_o (i := i) (c := 1) (d := 0) rfl)
    have hgy128 := (hfvy125 (i + 1) (ne_o (i := i) (c := 1) (d := 11) rfl)).trans hgy127
    have hFy129 : ∀ f, f ≠ 12 → (uZ F 12 (0)) f = F f := fun f n12 => ((uZ_n _ _ n12).trans rfl)
    have hey130 : (uZ F 12 (0)) 13 = F 13 := (fn rfl (by decide))
    have hey131 : (uZ F 12 (0)) 14 = F 14 := (fn rfl (by decide))
    have hey132 : (uZ F 12 (0)) 15 = F 15 := (fn rfl (by decide))
    have hey133 : (uZ F 12 (0)) 16 = F 16 := (fn rfl (by decide))
    have hey134 : (uZ F 12 (0)) 17 = F 17 := (fn rfl (by decide))
    have hey135 : (uZ F 12 (0)) 18 = F 18 := (fn rfl (by decide))
    have hey136 : (uZ F 12 (0)) 19 = F 19 := (fn rfl (by decide))
    have hey137 : (uZ F 12 (0)) 20 = F 20 := (fn rfl (by decide))
    have hey138 : (uZ F 12 (0)) 21 = F 21 := (fn rfl (by decide))
    have hey139 : (uZ F 12 (0)) 23 = F 23 := (fn rfl (by decide))
    have hey140 : (uZ F 12 (0)) 25 = F 25 := (fn rfl (by decide))
    have hey141 : (uZ F 12 (0)) 27 = F 27 := (fn rfl (by decide))
    have hey142 : (uZ F 12 (0)) 28 = F 28 := (fn rfl (by decide))
    have hey143 : (uZ F 12 (0)) 29 = F 29 := (fn rfl (by decide))
    have hKy144 : okF (uZ F 12 (0)) := okF.mv hM.2.1 hey130 hey131 hey132 hey133 hey134 hey135 hey136 hey137 hey138 hey139 hey140 hey141 hey142 hey143
    have hMy145 : okMr cs ad gvy125 i (x + 1) (uZ F 12 (0)) r st op ai fa mu tb tp := okMr.upd hM hgy126 hKy144 (fun f a => hFy129 f (by omega)) hgy128 (hA.mono (by omega)) (fun j a b => by
        by_cases e0 : j = i + 11
        · exact Or.inr ⟨11, _, e0, lsP.l (by decide), by rw [e0]; exact hdvy125⟩
        exact Or.inl (by rw [hfvy125 _ (by omega)]; rw [egy38, va_up_ne _ _ (by omega)]))
    have hkpy146 : (uZ F 12 (0)) 13 = F 13 := (fn rfl (by decide))
    have hkpy147 : (uZ F 12 (0)) 14 = F 14 := (fn rfl (by decide))
    have hkpy148 : (uZ F 12 (0)) 17 = F 17 := (fn rfl (by decide))
    have hkpy149 : (uZ F 12 (0)) 18 = F 18 := (fn rfl (by decide))
    have hkpy150 : (uZ F 12 (0)) 19 = F 19 := (fn rfl (by decide))
    have hkpy151 : (uZ F 12 (0)) 20 = F 20 := (fn rfl (by decide))
    have hkpy152 : (uZ F 12 (0)) 21 = F 21 := (fn rfl (by decide))
    have hkpy153 : (uZ F 12 (0)) 23 = F 23 := (fn rfl (by decide))
    have hkpy154 : (uZ F 12 (0)) 24 = F 24 := (fn rfl (by decide))
    have hkpy155 : (uZ F 12 (0)) 25 = F 25 := (fn rfl (by decide))
    have hkpy156 : (uZ F 12 (0)) 26 = F 26 := (fn rfl (by decide))
    have hkpy157 : (uZ F 12 (0)) 27 = F 27 := (fn rfl (by decide))
    have hkpy158 : (uZ F 12 (0)) 28 = F 28 := (fn rfl (by decide))
    have hkpy159 : (uZ F 12 (0)) 29 = F 29 := (fn rfl (by decide))
    exact z_iret C hr hlk dX10_slide_33 (by decide) (by decide) ⟨-1, rfl, rfl, rfl, ⟨W, na, H, Or.inl ⟨Or.inl (by omega), by omega, rfl, rfl, rfl⟩, _, _, hMy145, by omega, hRX.nx (by omega) (fn rfl (by decide)) (fn rfl (by decide)) (fun j _ => rfl), fun j _ => rfl⟩, ⟨_, hdvy125, Or.inl ⟨by omega, rfl⟩⟩, fun j j1 => by rw [hfvy125 _ (by omega)]; rw [egy38, va_up_ne _ _ (by omega)], fun j j1 j2 j3 => by rw [hfvy125 _ (by omega)]; rw [egy38, va_up_ne _ _ (by omega)]⟩

set_option maxRecDepth 100000 in
set_option maxHeartbeats 4000000 in
theorem c_vSlide_b (l : Launch) (D : va_G) (A : Nat → Prop) (cs : Nat → ClassId) (tt : Nat) (N : Nat) (ad : Nat → Nat) (g : Nat → va_E) (i : Nat) (hN : i + 30 ≤ N) (x : Int) (hx : 0 ≤ x ∧ x ≤ 512) (F r : Nat → Int) {st op ai fa mu tb tp : Nat → Int} (hM : okMr cs ad g i x F r st op ai fa mu tb tp) (hfr : okFr F op ai fa mu tb) (nsl : Nat) (hnsl : F 13 = (nsl : Int)) (W : WL9) (na : Nat) (H : Nat → WL9) (hRX : okRX F r x W na H) (rr : Nat → Int) (hrr : g (i + 11) = iA cs 6 rr) (hst9 : ∀ k, k < nsl → 0 ≤ st k ∧ st k ≤ 90) (z : Int) (hz : -2147483648 ≤ z ∧ z ≤ 2147483647) (hzo : z < 0 ∨ 3 < z) : zM l yX10_slide cX10_slide 2 (some .int) ({ frames := 11, cells := 0, slots := 0, locals := 660 } : Room) D A cs tt N ad g [.ref (ad i), .int (zI (z))] (rI0 N ad fun q g' => (∃ (W' : WL9) (na' : Nat) (H' : Nat → WL9), sldA st tb nsl (z) W na H q W' na' H' ∧ ∃ F' r' : Nat → Int, okMr cs ad g' i (x + 1) F' r' st op ai fa mu tb tp ∧ (F' 13 = F 13 ∧ F' 14 = F 14 ∧ F' 17 = F 17 ∧ F' 18 = F 18 ∧ F' 19 = F 19 ∧ F' 20 = F 20 ∧ F' 21 = F 21 ∧ F' 23 = F 23 ∧ F' 24 = F 24 ∧ F' 25 = F 25 ∧ F' 26 = F 26 ∧ F' 27 = F 27 ∧ F' 28 = F 28 ∧ F' 29 = F 29) ∧ okRX F' r' (x + 1) W' na' H' ∧ ∀ j, 14700 ≤ j → r' j = r j) ∧ (∃ rr' : Nat → Int, g' (i + 11) = iA cs 6 rr' ∧ ((q = -1 ∧ rr' = uZ rr 1 (rr 1 + 1)) ∨ (q ≠ -1 ∧ rr' = rr))) ∧ (∀ j, j < i ∨ i + 30 ≤ j → g' j = g j) ∧ ∀ j, i + 8 ≤ j → j ≤ i + 12 → j ≠ i + 11 → g' j = g j) := by
  obtain ⟨hg, ⟨⟨e13, e14, e25, e27, e29⟩, k15, k16, k17, k18, k19, k20, k23, k21⟩, hRD, hTx, hA, ns, nh, nd, rf, pi, te, ki, li, ok1, ok2, fo, dd, dps, ⟨ha1, ha2, ha3, ha4, ha5, ha6, ha7, ha8, ha9, ha10, ha11, ha12, ha13, ha14, ha15, ha24, ha25, ha26, ha27, ha28, ha29⟩, hEv, hPt, hns, htp⟩ := id hM
  obtain ⟨-, hop, hai, hfa, hT, hT1⟩ := id hEv
  have hay1 : zAt ad (i) (ad i) := rfl
  have hay2 : zAt ad (i + 1) (ad (i + 1)) := rfl
  have hay3 : zAt ad (i + 2) (ad (i + 2)) := rfl
  have hay4 : zAt ad (i + 3) (ad (i + 3)) := rfl
  have hay5 : zAt ad (i + 4) (ad (i + 4)) := rfl
  have hay6 : zAt ad (i + 5) (ad (i + 5)) := rfl
  have hay7 : zAt ad (i + 6) (ad (i + 6)) := rfl
  have hay8 : zAt ad (i + 7) (ad (i + 7)) := rfl
  have hay9 : zAt ad (i + 8) (ad (i + 8)) := rfl
  have hay10 : zAt ad (i + 9) (ad (i + 9)) := rfl
  have hay11 : zAt ad (i + 10) (ad (i + 10)) := rfl
  have hay12 : zAt ad (i + 11) (ad (i + 11)) := rfl
  have hay13 : zAt ad (i + 12) (ad (i + 12)) := rfl
  have hay14 : zAt ad (i + 13) (ad (i + 13)) := rfl
  have hay15 : zAt ad (i + 14) (ad (i + 14)) := rfl
  have hay16 : zAt ad (i + 15) (ad (i + 15)) := rfl
  have hay17 : zAt ad (i + 24) (ad (i + 24)) := rfl
  have hay18 : zAt ad (i + 25) (ad (i + 25)) := rfl
  have hay19 : zAt ad (i + 26) (ad (i + 26)) := rfl
  have hay20 : zAt ad (i + 27) (ad (i + 27)) := rfl
  have hay21 : zAt ad (i + 28) (ad (i + 28)) := rfl
  have hay22 : zAt ad (i + 29) (ad (i + 29)) := rfl
  obtain ⟨⟨hsyy23, htyy23, hnyy23, hpyy23⟩, hlyy23⟩ := okA.at0 hA
  simp only [Nat.zero_add] at hsyy23 hnyy23 hpyy23
  have hmn : ∀ s, s < 4 → 0 ≤ r (6 + 86 * s) ∧ r (6 + 86 * s) ≤ 12 := fun s hs => (hsyy23 s hs).1
  have h5 : 0 ≤ r 5 ∧ r 5 ≤ 6 := hpyy23
  obtain ⟨⟨hW, hwx⟩, ⟨fi, ⟨h15, h16⟩, ⟨hna, hfi⟩, hxh⟩, hHx⟩ := id hRX
  have hok9 := hwx.1
  have hW0 : r 0 = W.1 0 := hW.1 0 (by decide)
  have ht9 := hwx.2
  have ht8 := hok9.2.1
  refine z_of (by decide) (Nat.le_of_ble_eq_true rfl) ?_
  intro pY eY sY mY below meth cY C hr hlk hnm
  refine z_lv (lv' := [(0, .ref (ad i)), (1, .int (zI (z)))]) [0, 1] rfl ?_
  refine z_aload_n C 0 dX10_slide_0 rfl ?_
  refine z_iconst (z := 0) C dX10_slide_1 rfl ?_
  refine z_put (fs' := mF ad (i) (uZ F 12 (0))) C (lt_A0 hN rfl) hay1 hg tyX10 tyX10_ok nmX10 rfl inA_X10 12 (by decide) q_1471 rfl rfl rfl rfl (Nat.le_of_ble_eq_true rfl) rfl dX10_slide_2 (fun gy24 egy25 => ?_)
  have hgy26 := up_s egy25
  refine z_iload_n C 1 dX10_slide_5 rfl ?_
  refine z_iconst (z := 0) C dX10_slide_6 rfl ?_
  refine z_aload_n C 0 dX10_slide_7 rfl ?_
  refine z_get (v := .int (zI (F 13))) C (lt_A0 hN rfl) hay1 hgy26 rfl inA_X10 13 (by decide) q_1472 rfl (fv (F := (uZ F 12 (0))) (f := 13) (fn rfl (by decide))) dX10_slide_8 ?_
  refine z_iconst (z := 1) C dX10_slide_11 rfl ?_
  refine z_isub C dX10_slide_12 ?_
  refine z_cS (As := [.int (zI (z)), .int (zI (0)), .int (zI ((F 13) - 1))]) (rest := []) C (c_X10_within l D A cs tt N ad _ (z) (by omega) (0) (by omega) ((F 13) - 1) (by omega)) ms_yX10_within q_1686 hd_yX10_within (by decide) (Nat.le_of_ble_eq_true rfl) (by decide) dX10_slide_13 rfl (kI0 fun vy27 gvy27 hvy27 => ?_)
  obtain ⟨hvy27, rfl⟩ := hvy27
  obtain rfl : vy27 = 0 := by omega
  refine z_if_eq (tgt := 28) C dX10_slide_16 (by decide) (by omega) (fun _ => ?_) (fun h => absurd h (by omega))
  refine z_aload_n C 0 dX10_slide_28 rfl ?_
  refine z_iconst (z := 1) C dX10_slide_29 rfl ?_
  have hgy28 := up_n egy25 hrr (ne_o (i := i) (c := 11) (d := 0) rfl)
  refine z_cV (As := [.int (zI (1))]) (rest := []) (ci := 12) C (c_uRefuses l D A cs tt N ad _ i hN _ hgy26 _ hgy28 1 (by omega)) (lt_A0 hN rfl) hay1 hgy26 rfl rfl mv_yX10_refuses q_1866 hd_yX10_refuses (by decide) (Nat.le_of_ble_eq_true rfl) (by decide) dX10_slide_30 rfl (kI0 fun vy29 gvy29 hvy29 => ?_)
  obtain ⟨rfl, hdvy29, hfvy29⟩ := hvy29
  have hgy30 := (hfvy29 (i) (ne_o (i := i) (c := 0) (d := 11) rfl)).trans hgy26
  have hgy31 := up_n egy25 ha1 (ne_o (i := i) (c := 1) (d := 0) rfl)
  have hgy32 := (hfvy29 (i + 1) (ne_o (i := i) (c := 1) (d := 11) rfl)).trans hgy31
  have hFy33 : ∀ f, f ≠ 12 → (uZ F 12 (0)) f = F f := fun f n12 => ((uZ_n _ _ n12).trans rfl)
  have hey34 : (uZ F 12 (0)) 13 = F 13 := (fn rfl (by decide))
  have hey35 : (uZ F 12 (0)) 14 = F 14 := (fn rfl (by decide))
  have hey36 : (uZ F 12 (0)) 15 = F 15 := (fn rfl (by decide))
  have hey37 : (uZ F 12 (0)) 16 = F 16 := (fn rfl (by decide))
  have hey38 : (uZ F 12 (0)) 17 = F 17 := (fn rfl (by decide))
  have hey39 : (uZ F 12 (0)) 18 = F 18 := (fn rfl (by decide))
  have hey40 : (uZ F 12 (0)) 19 = F 19 := (fn rfl (by decide))
  have hey41 : (uZ F 12 (0)) 20 = F 20 := (fn rfl (by decide))
  have hey42 : (uZ F 12 (0)) 21 = F 21 := (fn rfl (by decide))
  have hey43 : (uZ F 12 (0)) 23 = F 23 := (fn rfl (by decide))
  have hey44 : (uZ F 12 (0)) 25 = F 25 := (fn rfl (by decide))
  have hey45 : (uZ F 12 (0)) 27 = F 27 := (fn rfl (by decide))
  have hey46 : (uZ F 12 (0)) 28 = F 28 := (fn rfl (by decide))
  have hey47 : (uZ F 12 (0)) 29 = F 29 := (fn rfl (by decide))
  have hKy48 : okF (uZ F 12 (0)) := okF.mv hM.2.1 hey34 hey35 hey36 hey37 hey38 hey39 hey40 hey41 hey42 hey43 hey44 hey45 hey46 hey47
  have hMy49 : okMr cs ad gvy29 i (x + 1) (uZ F 12 (0)) r st op ai fa mu tb tp := okMr.upd hM hgy30 hKy48 (fun f a => hFy33 f (by omega)) hgy32 (hA.mono (by omega)) (fun j a b => by
      by_cases e0 : j = i + 11
      · exact Or.inr ⟨11, _, e0, lsP.l (by decide), by rw [e0]; exact hdvy29⟩
      exact Or.inl (by rw [hfvy29 _ (by omega)]; rw [egy25, va_up_ne _ _ (by omega)]))
  have hkpy50 : (uZ F 12 (0)) 13 = F 13 := (fn rfl (by decide))
  have hkpy51 : (uZ F 12 (0)) 14 = F 14 := (fn rfl (by decide))
  have hkpy52 : (uZ F 12 (0)) 17 = F 17 := (fn rfl (by decide))
  have hkpy53 : (uZ F 12 (0)) 18 = F 18 := (fn rfl (by decide))
  have hkpy54 : (uZ F 12 (0)) 19 = F 19 := (fn rfl (by decide))
  have hkpy55 : (uZ F 12 (0)) 20 = F 20 := (fn rfl (by decide))
  have hkpy56 : (uZ F 12 (0)) 21 = F 21 := (fn rfl (by decide))
  have hkpy57 : (uZ F 12 (0)) 23 = F 23 := (fn rfl (by decide))
  have hkpy58 : (uZ F 12 (0)) 24 = F 24 := (fn rfl (by decide))
  have hkpy59 : (uZ F 12 (0)) 25 = F 25 := (fn rfl (by decide))
  have hkpy60 : (uZ F 12 (0)) 26 = F 26 := (fn rfl (by decide))
  have hkpy61 : (uZ F 12 (0)) 27 = F 27 := (fn rfl (by decide))
  have hkpy62 : (uZ F 12 (0)) 28 = F 28 := (fn rfl (by decide))
  have hkpy63 : (uZ F 12 (0)) 29 = F 29 := (fn rfl (by decide))
  exact z_iret C hr hlk dX10_slide_33 (by decide) (by decide) ⟨-1, rfl, rfl, rfl, ⟨W, na, H, Or.inl ⟨Or.inl (by omega), by omega, rfl, rfl, rfl⟩, _, _, hMy49, by omega, hRX.nx (by omega) (fn rfl (by decide)) (fn rfl (by decide)) (fun j _ => rfl), fun j _ => rfl⟩, ⟨_, hdvy29, Or.inl ⟨by omega, rfl⟩⟩, fun j j1 => by rw [hfvy29 _ (by omega)]; rw [egy25, va_up_ne _ _ (by omega)], fun j j1 j2 j3 => by rw [hfvy29 _ (by omega)]; rw [egy25, va_up_ne _ _ (by omega)]⟩

set_option maxRecDepth 100000 in
set_option maxHeartbeats 4000000 in
theorem c_vSlide (l : Launch) (D : va_G) (A : Nat → Prop) (cs : Nat → ClassId) (tt : Nat) (N : Nat) (ad : Nat → Nat) (g : Nat → va_E) (i : Nat) (hN : i + 30 ≤ N) (x : Int) (hx : 0 ≤ x ∧ x ≤ 512) (F r : Nat → Int) {st op ai fa mu tb tp : Nat → Int} (hM : okMr cs ad g i x F r st op ai fa mu tb tp) (hfr : okFr F op ai fa mu tb) (nsl : Nat) (hnsl : F 13 = (nsl : Int)) (W : WL9) (na : Nat) (H : Nat → WL9) (hRX : okRX F r x W na H) (rr : Nat → Int) (hrr : g (i + 11) = iA cs 6 rr) (hst9 : ∀ k, k < nsl → 0 ≤ st k ∧ st k ≤ 90) (z : Int) (hz : -2147483648 ≤ z ∧ z ≤ 2147483647) : zM l yX10_slide cX10_slide 2 (some .int) ({ frames := 11, cells := 0, slots := 0, locals := 660 } : Room) D A cs tt N ad g [.ref (ad i), .int (zI (z))] (rI0 N ad fun q g' => (∃ (W' : WL9) (na' : Nat) (H' : Nat → WL9), sldA st tb nsl (z) W na H q W' na' H' ∧ ∃ F' r' : Nat → Int, okMr cs ad g' i (x + 1) F' r' st op ai fa mu tb tp ∧ (F' 13 = F 13 ∧ F' 14 = F 14 ∧ F' 17 = F 17 ∧ F' 18 = F 18 ∧ F' 19 = F 19 ∧ F' 20 = F 20 ∧ F' 21 = F 21 ∧ F' 23 = F 23 ∧ F' 24 = F 24 ∧ F' 25 = F 25 ∧ F' 26 = F 26 ∧ F' 27 = F 27 ∧ F' 28 = F 28 ∧ F' 29 = F 29) ∧ okRX F' r' (x + 1) W' na' H' ∧ ∀ j, 14700 ≤ j → r' j = r j) ∧ (∃ rr' : Nat → Int, g' (i + 11) = iA cs 6 rr' ∧ ((q = -1 ∧ rr' = uZ rr 1 (rr 1 + 1)) ∨ (q ≠ -1 ∧ rr' = rr))) ∧ (∀ j, j < i ∨ i + 30 ≤ j → g' j = g j) ∧ ∀ j, i + 8 ≤ j → j ≤ i + 12 → j ≠ i + 11 → g' j = g j) := by
  by_cases h9 : 0 ≤ z ∧ z ≤ 3
  · obtain ⟨n, rfl⟩ : ∃ n : Nat, z = (n : Int) := ⟨z.toNat, by omega⟩
    exact c_vSlide_a l D A cs tt N ad g i hN x hx F r hM hfr nsl hnsl W na H hRX rr hrr hst9 n (by omega) 
  · exact c_vSlide_b l D A cs tt N ad g i hN x hx F r hM hfr nsl hnsl W na H hRX rr hrr hst9 z hz (by omega) 

set_option maxRecDepth 100000 in
set_option maxHeartbeats 4000000 in
theorem c_vFall_a (l : Launch) (D : va_G) (A : Nat → Prop) (cs : Nat → ClassId) (tt : Nat) (N : Nat) (ad : Nat → Nat) (g : Nat → va_E) (i : Nat) (hN : i + 30 ≤ N) (x : Int) (hx : 0 ≤ x ∧ x ≤ 512) (F r : Nat → Int) {st op ai fa mu tb tp : Nat → Int} (hM : okMr cs ad g i x F r st op ai fa mu tb tp) (hfr : okFr F op ai fa mu tb) (nsl : Nat) (hnsl : F 13 = (nsl : Int)) (W : WL9) (na : Nat) (H : Nat → WL9) (hRX : okRX F r x W na H) (rr : Nat → Int) (hrr : g (i + 11) = iA cs 6 rr) (n : Nat) (hn4 : n < 4) (z1 : Int) (hz1 : -2147483648 ≤ z1 ∧ z1 ≤ 2147483647) (z2 : Int) (hz2 : -2147483648 ≤ z2 ∧ z2 ≤ 2147483647) : zM l yX10_fall cX10_fall 4 (some .int) ({ frames := 6, cells := 0, slots := 0, locals := 360 } : Room) D A cs tt N ad g [.ref (ad i), .int (zI ((n : Int))), .int (zI (z1)), .int (zI (z2))] (rI0 N ad fun q g' => q = (falA F ai nsl ((n : Int)) z1 z2 W na H).1 ∧ (∃ F' r' : Nat → Int, okMr cs ad g' i (x + 1) F' r' st op ai fa mu tb tp ∧ (F' 13 = F 13 ∧ F' 14 = F 14 ∧ F' 17 = F 17 ∧ F' 18 = F 18 ∧ F' 19 = F 19 ∧ F' 20 = F 20 ∧ F' 21 = F 21 ∧ F' 23 = F 23 ∧ F' 24 = F 24 ∧ F' 25 = F 25 ∧ F' 26 = F 26 ∧ F' 27 = F 27 ∧ F' 28 = F 28 ∧ F' 29 = F 29) ∧ okRX F' r' (x + 1) (falA F ai nsl ((n : Int)) z1 z2 W na H).2.1 (falA F ai nsl ((n : Int)) z1 z2 W na H).2.2.1 (falA F ai nsl ((n : Int)) z1 z2 W na H).2.2.2 ∧ ∀ j, 14700 ≤ j → r' j = r j) ∧ (∃ rr' : Nat → Int, g' (i + 11) = iA cs 6 rr' ∧ ((q = -1 ∧ rr' = uZ rr 1 (rr 1 + 1)) ∨ (q ≠ -1 ∧ rr' = rr))) ∧ (∀ j, j < i ∨ i + 30 ≤ j → g' j = g j) ∧ ∀ j, i + 8 ≤ j → j ≤ i + 12 → j ≠ i + 11 → g' j = g j) := by
  obtain ⟨hg, ⟨⟨e13, e14, e25, e27, e29⟩, k15, k16, k17, k18, k19, k20, k23, k21⟩, hRD, hTx, hA, ns, nh, nd, rf, pi, te, ki, li, ok1, ok2, fo, dd, dps, ⟨ha1, ha2, ha3, ha4, ha5, ha6, ha7, ha8, ha9, ha10, ha11, ha12, ha13, ha14, ha15, ha24, ha25, ha26, ha27, ha28, ha29⟩, hEv, hPt, hns, htp⟩ := id hM
  obtain ⟨-, hop, hai, hfa, hT, hT1⟩ := id hEv
  have hay1 : zAt ad (i) (ad i) := rfl
  have hay2 : zAt ad (i + 1) (ad (i + 1)) := rfl
  have hay3 : zAt ad (i + 2) (ad (i + 2)) := rfl
  have hay4 : zAt ad (i + 3) (ad (i + 3)) := rfl
  have hay5 : zAt ad (i + 4) (ad (i + 4)) := rfl
  have hay6 : zAt ad (i + 5) (ad (i + 5)) := rfl
  have hay7 : zAt ad (i + 6) (ad (i + 6)) := rfl
  have hay8 : zAt ad (i + 7) (ad (i + 7)) := rfl
  have hay9 : zAt ad (i + 8) (ad (i + 8)) := rfl
  have hay10 : zAt ad (i + 9) (ad (i + 9)) := rfl
  have hay11 : zAt ad (i + 10) (ad (i + 10)) := rfl
  have hay12 : zAt ad (i + 11) (ad (i + 11)) := rfl
  have hay13 : zAt ad (i + 12) (ad (i + 12)) := rfl
  have hay14 : zAt ad (i + 13) (ad (i + 13)) := rfl
  have hay15 : zAt ad (i + 14) (ad (i + 14)) := rfl
  have hay16 : zAt ad (i + 15) (ad (i + 15)) := rfl
  have hay17 : zAt ad (i + 24) (ad (i + 24)) := rfl
  have hay18 : zAt ad (i + 25) (ad (i + 25)) := rfl
  have hay19 : zAt ad (i + 26) (ad (i + 26)) := rfl
  have hay20 : zAt ad (i + 27) (ad (i + 27)) := rfl
  have hay21 : zAt ad (i + 28) (ad (i + 28)) := rfl
  have hay22 : zAt ad (i + 29) (ad (i + 29)) := rfl
  obtain ⟨⟨hsyy23, htyy23, hnyy23, hpyy23⟩, hlyy23⟩ := okA.at0 hA
  simp only [Nat.zero_add] at hsyy23 hnyy23 hpyy23
  have hmn : ∀ s, s < 4 → 0 ≤ r (6 + 86 * s) ∧ r (6 + 86 * s) ≤ 12 := fun s hs => (hsyy23 s hs).1
  have h5 : 0 ≤ r 5 ∧ r 5 ≤ 6 := hpyy23
  obtain ⟨⟨hW, hwx⟩, ⟨fi, ⟨h15, h16⟩, ⟨hna, hfi⟩, hxh⟩, hHx⟩ := id hRX
  have hok9 := hwx.1
  have hW0 : r 0 = W.1 0 := hW.1 0 (by decide)
  have ht9 := hwx.2
  have ht8 := hok9.2.1
  obtain ⟨p, hp⟩ : ∃ p9 : Nat, 0 + 6 + 86 * n = p9 := ⟨_, rfl⟩
  have hS0 : isS r p (W.2 n) := by rw [← hp]; exact hW.2 n hn4
  have hOs := (hok9.1 n hn4).1
  obtain ⟨bB1, bB2, bB3, bB4⟩ := mBb (t := W.1 0 + x) (by omega)
  obtain ⟨⟨ny24, Ky25, roy26⟩, hSy27⟩ : ∃ S9 : SL9, S9 = W.2 n := ⟨_, rfl⟩
  obtain ⟨hny28, hry29, hCy30⟩ := (show isS r p (ny24, Ky25, roy26) by rw [hSy27]; exact hS0)
  have hny28 : r p = (ny24 : Int) := hny28
  have hry29 : r (p + 1) = roy26 := hry29
  have hCy30 : ∀ q, q < 7 * ny24 → r (p + 2 + q) = Ky25 q := hCy30
  have hOy319 := hOs
  rw [← hSy27] at hOy319
  obtain ⟨hOy31, hpy32, hmy33, hdy34, hagy35⟩ := id hOy319
  have hpy32 : 0 ≤ roy26 := hpy32
  have hmy33 : roy26 + sZ Ky25 ny24 ≤ _ := hmy33
  have hdy34 : dZ Ky25 ny24 ≤ _ := hdy34
  have hOy31 : okP Ky25 ny24 := hOy31
  have hsy36 := sZ_n hOy31 (k := ny24) (Nat.le_refl _)
  have hsy36n : ny24 ≤ 12 := hOy31.1
  have hagy35 : ∀ l, l < ny24 → Ky25 (7 * l + 5) ≤ _ := hagy35
  obtain ⟨air, hair⟩ : ∃ x9 : Int, x9 = rAi F ai (W.1 0) := ⟨_, rfl⟩
  have hab9 : -300 ≤ air ∧ air ≤ 100 := by rw [hair]; exact rAi_b hfr
  refine z_of (by decide) (Nat.le_of_ble_eq_true rfl) ?_
  intro pY eY sY mY below meth cY C hr hlk hnm
  refine z_lv (lv' := [(0, .ref (ad i)), (1, .int (zI ((n : Int)))), (2, .int (zI (z1))), (3, .int (zI (z2)))]) [0, 1, 2, 3] rfl ?_
  refine z_aload_n C 0 dX10_fall_0 rfl ?_
  refine z_iconst (z := 0) C dX10_fall_1 rfl ?_
  refine z_put (fs' := mF ad (i) (uZ F 12 (0))) C (lt_A0 hN rfl) hay1 hg tyX10 tyX10_ok nmX10 rfl inA_X10 12 (by decide) q_1471 rfl rfl rfl rfl (Nat.le_of_ble_eq_true rfl) rfl dX10_fall_2 (fun gy37 egy38 => ?_)
  have hgy39 := up_s egy38
  refine z_iload_n C 1 dX10_fall_5 rfl ?_
  refine z_iconst (z := 0) C dX10_fall_6 rfl ?_
  refine z_aload_n C 0 dX10_fall_7 rfl ?_
  refine z_get (v := .int (zI (F 13))) C (lt_A0 hN rfl) hay1 hgy39 rfl inA_X10 13 (by decide) q_1472 rfl (fv (F := (uZ F 12 (0))) (f := 13) (fn rfl (by decide))) dX10_fall_8 ?_
  refine z_iconst (z := 1) C dX10_fall_11 rfl ?_
  refine z_isub C dX10_fall_12 ?_
  refine z_cS (As := [.int (zI ((n : Int))), .int (zI (0)), .int (zI ((F 13) - 1))]) (rest := []) C (c_X10_within l D A cs tt N ad _ ((n : Int)) (by omega) (0) (by omega) ((F 13) - 1) (by omega)) ms_yX10_within q_1686 hd_yX10_within (by decide) (Nat.le_of_ble_eq_true rfl) (by decide) dX10_fall_13 rfl (kI0 fun vy40 gvy40 hvy40 => ?_)
  obtain ⟨hvy40, rfl⟩ := hvy40
  rcases hvy40 with ⟨rfl, hxvy40⟩ | ⟨rfl, hxvy40⟩
  · refine z_if_eq (tgt := 56) C dX10_fall_16 (by decide) (by omega) (fun h => absurd h (by omega)) (fun _ => ?_)
    refine z_iload_n C 2 dX10_fall_19 rfl ?_
    refine z_iconst (z := 1) C dX10_fall_20 rfl ?_
    refine z_iconst (z := 3) C dX10_fall_21 rfl ?_
    refine z_cS (As := [.int (zI (z1)), .int (zI (1)), .int (zI (3))]) (rest := []) C (c_X10_within l D A cs tt N ad _ (z1) (by omega) (1) (by omega) (3) (by omega)) ms_yX10_within q_1686 hd_yX10_within (by decide) (Nat.le_of_ble_eq_true rfl) (by decide) dX10_fall_22 rfl (kI0 fun vy41 gvy41 hvy41 => ?_)
    obtain ⟨hvy41, rfl⟩ := hvy41
    rcases hvy41 with ⟨rfl, hxvy41⟩ | ⟨rfl, hxvy41⟩
    · refine z_if_eq (tgt := 56) C dX10_fall_25 (by decide) (by omega) (fun h => absurd h (by omega)) (fun _ => ?_)
      refine z_iload_n C 2 dX10_fall_28 rfl ?_
      refine z_iconst (z := 3) C dX10_fall_29 rfl ?_
      refine z_icmp_ge (tgt := 43) C dX10_fall_30 (by decide) (by omega) (by omega) (fun hby42 => ?_) (fun hby42 => ?_)
      · refine z_iload_n C 2 dX10_fall_43 rfl ?_
        refine z_iconst (z := 3) C dX10_fall_44 rfl ?_
        refine z_icmp_ne (tgt := 62) C dX10_fall_45 (by decide) (by omega) (by omega) (fun hby43 => ?_) (fun hby43 => ?_)
        · refine z_aload_n C 0 dX10_fall_62 rfl ?_
          have hw12 : z1 = 1 ∨ z1 = 2 → 1 ≤ z2 ∧ z2 ≤ 50 := fun _ => by omega
          have hgy44 := up_n egy38 ha1 (ne_o (i := i) (c := 1) (d := 0) rfl)
          have hey46 : (uZ F 12 (0)) 15 = F 15 := (fn rfl (by decide))
          have hey47 : (uZ F 12 (0)) 16 = F 16 := (fn rfl (by decide))
          refine z_cV (As := []) (rest := []) (ci := 12) C (c_uKeeps l D A cs tt N ad _ i hN _ hgy39 _ hgy44 na fi (by omega) (by omega) hna hfi) (lt_A0 hN rfl) hay1 hgy39 rfl rfl mv_yX10_keeps q_1870 hd_yX10_keeps (by decide) (Nat.le_of_ble_eq_true rfl) (by decide) dX10_fall_63 rfl (kV0 fun gvy45 hvy45 => ?_)
          obtain ⟨⟨Fvy45, hcvy45, ⟨h15vy45, h16vy45⟩, hFvy45⟩, ⟨rvy45, hdvy45, hyvy45c, hyvy45f⟩, hfvy45⟩ := hvy45
          obtain ⟨fj, hfj⟩ : ∃ f9 : Nat, f9 = if na = 40 then (fi + 1) % 40 else fi := ⟨_, rfl⟩
          obtain ⟨mj, hmj⟩ : ∃ f9 : Nat, f9 = if na = 40 then 39 else na := ⟨_, rfl⟩
          rw [← hfj] at h16vy45 hyvy45c hyvy45f
          rw [← hmj] at hyvy45c hyvy45f
          have hfj4 : fj < 40 := by rw [hfj]; split <;> omega
          have hka9 : kA fj mj = 350 * (2 + (fj + mj) % 40) := by unfold kA; omega
          have hkb9 : 700 ≤ kA fj mj ∧ kA fj mj ≤ 14350 := by omega
          have hkn9 : kpN na ≤ 40 := by unfold kpN; split <;> omega
          have hAvy45 : okA rvy45 (x) := okA.copy (a := 0) (b := 2 + (fj + mj) % 40) (m := 1) hA (by omega) (by omega) (by omega) (fun k hk => by rw [← hka9, Nat.mul_zero, Nat.zero_add]; exact hyvy45c k (by omega)) (fun j hj => hyvy45f j (by omega))
          have hyvy45 : ∀ j, j < 700 → rvy45 j = r j := fun j hj => hyvy45f j (by omega)
          obtain ⟨⟨hsyy48, htyy48, hnyy48, hpyy48⟩, hlyy48⟩ := okA.at0 hAvy45
          simp only [Nat.zero_add] at hsyy48 hnyy48 hpyy48
          have hmn : ∀ s, s < 4 → 0 ≤ rvy45 (6 + 86 * s) ∧ rvy45 (6 + 86 * s) ≤ 12 := fun s hs => (hsyy48 s hs).1
          have h5 : 0 ≤ rvy45 5 ∧ rvy45 5 ≤ 6 := hpyy48
          have hk0vy45 : rvy45 0 = r 0 := hyvy45 0 (by omega)
          have hk1vy45 : rvy45 1 = r 1 := hyvy45 1 (by omega)
          have hk5vy45 : rvy45 5 = r 5 := hyvy45 5 (by omega)
          have hWk : isWr rvy45 0 W := hW.ext hok9.n12 (fun j a1 a2 => hyvy45 j (by omega))
          have hSk : isS rvy45 p (W.2 n) := by rw [← hp]; exact hWk.2 n hn4
          have hSj : isS rvy45 p (ny24, Ky25, roy26) := by rw [hSy27]; exact hSk
          obtain ⟨hnk, hrk, hCk⟩ := hSj
          have hnk : rvy45 p = (ny24 : Int) := hnk
          have hCk : ∀ q, q < 7 * ny24 → rvy45 (p + 2 + q) = Ky25 q := hCk
          refine z_aload_n C 0 dX10_fall_66 rfl ?_
          refine z_iconst (z := 0) C dX10_fall_67 rfl ?_
          refine z_iload_n C 1 dX10_fall_68 rfl ?_
          refine z_iload_n C 2 dX10_fall_69 rfl ?_
          refine z_iload_n C 3 dX10_fall_70 rfl ?_
          refine z_aload_n C 0 dX10_fall_71 rfl ?_
          refine z_iconst (z := 0) C dX10_fall_72 rfl ?_
          have hey50 : Fvy45 14 = F 14 := ((hFvy45 14 (by decide) (by decide)).trans (fn rfl (by decide)))
          have hey51 : Fvy45 25 = F 25 := ((hFvy45 25 (by decide) (by decide)).trans (fn rfl (by decide)))
          have hgy52 := up_n egy38 ha4 (ne_o (i := i) (c := 4) (d := 0) rfl)
          have hgy53 := (hfvy45 (i + 4) (ne_o (i := i) (c := 4) (d := 0) rfl) (ne_o (i := i) (c := 4) (d := 1) rfl)).trans hgy52
          refine z_cV (As := [.int (zI (0))]) (rest := [.int (zI (z2)), .int (zI (z1)), .int (zI ((n : Int))), .int (zI (0)), .ref (ad i)]) (ci := 12) C (c_uAirOf l D A cs tt N ad _ i hN _ hcvy45 _ hdvy45 _ hgy53 0 (by omega) (by omega) (by omega) (by omega) hai) (lt_A0 hN rfl) hay1 hcvy45 rfl rfl mv_yX10_airOf q_1827 hd_yX10_airOf (by decide) (Nat.le_of_ble_eq_true rfl) (by decide) dX10_fall_73 rfl (kI0 fun vy49 gvy49 hvy49 => ?_)
          obtain ⟨hvy49, rfl⟩ := hvy49
          have hvy492 : vy49 = air := hvy49.trans ((rAi_F (F := F) (t := W.1 0) (by omega) (by omega) (by omega)).trans hair.symm)
          rw [hvy492]
          have hnm1 : rvy45 (0 + 1) = W.1 1 := hWk.1 1 (by decide)
          have hnm2 := hok9.2.2.1
          refine z_cV (As := [.int (zI (0)), .int (zI ((n : Int))), .int (zI (z1)), .int (zI (z2)), .int (zI (air))]) (rest := []) (ci := 12) C (c_uDrops l D A cs tt N ad _ i hN _ hcvy45 _ hdvy45 0 n p hp (by omega) (by omega) ny24 Ky25 hnk hCk hOy31 roy26 hrk (by omega) (z1) (by omega) (z2) (by omega) hw12 air (by omega)) (lt_A0 hN rfl) hay1 hcvy45 rfl rfl mv_yX10_drops q_1893 hd_yX10_drops (by decide) (Nat.le_of_ble_eq_true rfl) (by decide) dX10_fall_76 rfl (kV0 fun gvy54 hvy54 => ?_)
          obtain ⟨⟨rvy54, hcvy54, hSvy54, hnvy54, hzvy54⟩, hfvy54⟩ := hvy54
          rw [hnm1] at hSvy54 hnvy54
          rw [hSy27] at hSvy54
          have hwvy54 : isWr rvy54 0 (foW z1 z2 air n W) := hWk.fo hn4 hok9.n12 hp hSvy54 hnvy54 hzvy54
          have hyvy54 : ∀ j, j < 0 ∨ 350 ≤ j → rvy54 j = rvy45 j := fun j a => hzvy54 j (by omega) (by omega)
          have hokd : okWl (x + 1) (50 * x + 50) (foW z1 z2 air n W) := hok9.fo hn4 (by omega) (by omega) hw12 hab9
          have ht0vy54 : (foW z1 z2 air n W).1 0 = W.1 0 := foW_0 z1 z2 air n W
          have hAvy54 : okA rvy54 (x + 1) := okA.first hAvy45 (by omega) (fun j a => hyvy54 j (by omega)) (hwvy54.okW hokd) (by have h9 := hwvy54.1 0 (by decide); rw [Nat.add_zero] at h9; have h8 : (foW z1 z2 air n W).1 0 = W.1 0 := ht0vy54; omega)
          obtain ⟨⟨hsyy55, htyy55, hnyy55, hpyy55⟩, hlyy55⟩ := okA.at0 hAvy54
          simp only [Nat.zero_add] at hsyy55 hnyy55 hpyy55
          have hmn : ∀ s, s < 4 → 0 ≤ rvy54 (6 + 86 * s) ∧ rvy54 (6 + 86 * s) ≤ 12 := fun s hs => (hsyy55 s hs).1
          have h5 : 0 ≤ rvy54 5 ∧ rvy54 5 ≤ 6 := hpyy55
          obtain ⟨⟨n8, K8, ro8⟩, hS8⟩ : ∃ S9 : SL9, S9 = (foW z1 z2 air n W).2 n := ⟨_, rfl⟩
          have hn8 : rvy54 p = (n8 : Int) := by have h9 := (hwvy54.2 n hn4).1; rw [hp, ← hS8] at h9; exact h9
          have hn812 : n8 ≤ 12 := by have h9 := hokd.n12 n hn4; rw [← hS8] at h9; exact h9
          refine z_aload_n C 0 dX10_fall_79 rfl ?_
          refine z_iconst (z := 0) C dX10_fall_80 rfl ?_
          refine z_iload_n C 1 dX10_fall_81 rfl ?_
          have hgy56 := (hfvy54 (i) (ne_o (i := i) (c := 0) (d := 1) rfl)).trans hcvy45
          refine z_cV (As := [.int (zI (0)), .int (zI ((n : Int)))]) (rest := []) (ci := 12) C (c_X10_many l D A cs tt N ad _ i hN _ hgy56 _ hcvy54 0 n p hp (by omega) (by omega)) (lt_A0 hN rfl) hay1 hgy56 rfl rfl mv_yX10_many q_1733 hd_yX10_many (by decide) (Nat.le_of_ble_eq_true rfl) (by decide) dX10_fall_82 rfl (kI0 fun vy57 gvy57 hvy57 => ?_)
          obtain ⟨rfl, rfl⟩ := hvy57
          rw [show rvy54 (p) = (n8 : Int) from hn8]
          have hans9 : (n8 : Int) = (((foW z1 z2 air n W).2 n).1 : Int) := by rw [← hS8]
          have hWf : okWx (x + 1) (foW z1 z2 air n W) := ⟨hokd.mono (Int.le_refl _) (by omega), by have h8 := foW_0 z1 z2 air n W; omega⟩
          have hFy58 : ∀ f, f ≠ 12 → f ≠ 15 → f ≠ 16 → Fvy45 f = F f := fun f n12 n15 n16 => ((hFvy45 f n15 n16).trans ((uZ_n _ _ n12).trans rfl))
          have hey59 : Fvy45 13 = F 13 := ((hFvy45 13 (by decide) (by decide)).trans (fn rfl (by decide)))
          have hey60 : Fvy45 14 = F 14 := ((hFvy45 14 (by decide) (by decide)).trans (fn rfl (by decide)))
          have hey61 : Fvy45 15 = Fvy45 15 := rfl
          have hey62 : Fvy45 16 = Fvy45 16 := rfl
          have hey63 : Fvy45 17 = F 17 := ((hFvy45 17 (by decide) (by decide)).trans (fn rfl (by decide)))
          have hey64 : Fvy45 18 = F 18 := ((hFvy45 18 (by decide) (by decide)).trans (fn rfl (by decide)))
          have hey65 : Fvy45 19 = F 19 := ((hFvy45 19 (by decide) (by decide)).trans (fn rfl (by decide)))
          have hey66 : Fvy45 20 = F 20 := ((hFvy45 20 (by decide) (by decide)).trans (fn rfl (by decide)))
          have hey67 : Fvy45 21 = F 21 := ((hFvy45 21 (by decide) (by decide)).trans (fn rfl (by decide)))
          have hey68 : Fvy45 23 = F 23 := ((hFvy45 23 (by decide) (by decide)).trans (fn rfl (by decide)))
          have hey69 : Fvy45 25 = F 25 := ((hFvy45 25 (by decide) (by decide)).trans (fn rfl (by decide)))
          have hey70 : Fvy45 27 = F 27 := ((hFvy45 27 (by decide) (by decide)).trans (fn rfl (by decide)))
          have hey71 : Fvy45 28 = F 28 := ((hFvy45 28 (by decide) (by decide)).trans (fn rfl (by decide)))
          have hey72 : Fvy45 29 = F 29 := ((hFvy45 29 (by decide) (by decide)).trans (fn rfl (by decide)))
          have hKy73 : okF Fvy45 := by unfold okF; omega
          have hMy74 : okMr cs ad gvy54 i (x + 1) Fvy45 rvy54 st op ai fa mu tb tp := okMr.upd hM hgy56 hKy73 (fun f a => hFy58 f (by omega) (by omega) (by omega)) hcvy54 (hAvy54.mono (by omega)) (fun j a b => by
              exact Or.inl (by rw [hfvy54 _ (by omega)]; rw [hfvy45 _ (by omega) (by omega)]; rw [egy38, va_up_ne _ _ (by omega)]))
          have hkpy75 : Fvy45 13 = F 13 := ((hFvy45 13 (by decide) (by decide)).trans (fn rfl (by decide)))
          have hkpy76 : Fvy45 14 = F 14 := ((hFvy45 14 (by decide) (by decide)).trans (fn rfl (by decide)))
          have hkpy77 : Fvy45 17 = F 17 := ((hFvy45 17 (by decide) (by decide)).trans (fn rfl (by decide)))
          have hkpy78 : Fvy45 18 = F 18 := ((hFvy45 18 (by decide) (by decide)).trans (fn rfl (by decide)))
          have hkpy79 : Fvy45 19 = F 19 := ((hFvy45 19 (by decide) (by decide)).trans (fn rfl (by decide)))
          have hkpy80 : Fvy45 20 = F 20 := ((hFvy45 20 (by decide) (by decide)).trans (fn rfl (by decide)))
          have hkpy81 : Fvy45 21 = F 21 := ((hFvy45 21 (by decide) (by decide)).trans (fn rfl (by decide)))
          have hkpy82 : Fvy45 23 = F 23 := ((hFvy45 23 (by decide) (by decide)).trans (fn rfl (by decide)))
          have hkpy83 : Fvy45 24 = F 24 := ((hFvy45 24 (by decide) (by decide)).trans (fn rfl (by decide)))
          have hkpy84 : Fvy45 25 = F 25 := ((hFvy45 25 (by decide) (by decide)).trans (fn rfl (by decide)))
          have hkpy85 : Fvy45 26 = F 26 := ((hFvy45 26 (by decide) (by decide)).trans (fn rfl (by decide)))
          have hkpy86 : Fvy45 27 = F 27 := ((hFvy45 27 (by decide) (by decide)).trans (fn rfl (by decide)))
          have hkpy87 : Fvy45 28 = F 28 := ((hFvy45 28 (by decide) (by decide)).trans (fn rfl (by decide)))
          have hkpy88 : Fvy45 29 = F 29 := ((hFvy45 29 (by decide) (by decide)).trans (fn rfl (by decide)))
          have hE9 : falA F ai nsl ((n : Int)) z1 z2 W na H = (((((foW z1 z2 air n W).2 n).1 : Nat) : Int), foW z1 z2 air n W, kpN na, kpH na H W) := by unfold falA; rw [← hair, Int.toNat_natCast]; exact if_pos (by omega)
          rw [hE9]
          have hX9 : okRX Fvy45 rvy54 (x + 1) (foW z1 z2 air n W) (kpN na) (kpH na H W) := hRX.act (by omega) h16 hfj hmj (by omega) (by omega) (fun q hq => (hyvy54 _ (by omega)).trans (hyvy45c q hq)) (fun j a1 a2 => (hyvy54 j (by omega)).trans (hyvy45f j a2)) hwvy54 hWf
          have hgy89 := up_n egy38 hrr (ne_o (i := i) (c := 11) (d := 0) rfl)
          have hgy90 := (hfvy45 (i + 11) (ne_o (i := i) (c := 11) (d := 0) rfl) (ne_o (i := i) (c := 11) (d := 1) rfl)).trans hgy89
          have hgy91 := (hfvy54 (i + 11) (ne_o (i := i) (c := 11) (d := 1) rfl)).trans hgy90
          exact z_iret C hr hlk dX10_fall_85 (by decide) (by decide) ⟨(n8 : Int), rfl, rfl, rfl, by omega, ⟨_, _, hMy74, by omega, hX9, fun j a1 => (hyvy54 j (by omega)).trans (hyvy45f j (by omega))⟩, ⟨_, hgy91, Or.inr ⟨by omega, rfl⟩⟩, fun j j1 => by rw [hfvy54 _ (by omega)]; rw [hfvy45 _ (by omega) (by omega)]; rw [egy38, va_up_ne _ _ (by omega)], fun j j1 j2 j3 => by rw [hfvy54 _ (by omega)]; rw [hfvy45 _ (by omega) (by omega)]; rw [egy38, va_up_ne _ _ (by omega)]⟩
        · refine z_aload_n C 0 dX10_fall_48 rfl ?_
          refine z_iconst (z := 0) C dX10_fall_49 rfl ?_
          have hgy92 := up_n egy38 ha1 (ne_o (i := i) (c := 1) (d := 0) rfl)
          have hey94 : (uZ F 12 (0)) 14 = F 14 := (fn rfl (by decide))
          have hey95 : (uZ F 12 (0)) 25 = F 25 := (fn rfl (by decide))
          have hgy96 := up_n egy38 ha4 (ne_o (i := i) (c := 4) (d := 0) rfl)
          refine z_cV (As := [.int (zI (0))]) (rest := []) (ci := 12) C (c_uAirOf l D A cs tt N ad _ i hN _ hgy39 _ hgy92 _ hgy96 0 (by omega) (by omega) (by omega) (by omega) hai) (lt_A0 hN rfl) hay1 hgy39 rfl rfl mv_yX10_airOf q_1827 hd_yX10_airOf (by decide) (Nat.le_of_ble_eq_true rfl) (by decide) dX10_fall_50 rfl (kI0 fun vy93 gvy93 hvy93 => ?_)
          obtain ⟨hvy93, rfl⟩ := hvy93
          have hvy932 : vy93 = air := hvy93.trans ((rAi_F (F := F) (t := W.1 0) (by omega) (by omega) (by omega)).trans hair.symm)
          rw [hvy932]
          refine z_if_lt (tgt := 62) C dX10_fall_53 (by decide) (by omega) (fun hby97 => ?_) (fun hby97 => ?_)
          · refine z_aload_n C 0 dX10_fall_62 rfl ?_
            have hw12 : z1 = 1 ∨ z1 = 2 → 1 ≤ z2 ∧ z2 ≤ 50 := fun _ => by omega
            have hey99 : (uZ F 12 (0)) 15 = F 15 := (fn rfl (by decide))
            have hey100 : (uZ F 12 (0)) 16 = F 16 := (fn rfl (by decide))
            refine z_cV (As := []) (rest := []) (ci := 12) C (c_uKeeps l D A cs tt N ad _ i hN _ hgy39 _ hgy92 na fi (by omega) (by omega) hna hfi) (lt_A0 hN rfl) hay1 hgy39 rfl rfl mv_yX10_keeps q_1870 hd_yX10_keeps (by decide) (Nat.le_of_ble_eq_true rfl) (by decide) dX10_fall_63 rfl (kV0 fun gvy98 hvy98 => ?_)
            obtain ⟨⟨Fvy98, hcvy98, ⟨h15vy98, h16vy98⟩, hFvy98⟩, ⟨rvy98, hdvy98, hyvy98c, hyvy98f⟩, hfvy98⟩ := hvy98
            obtain ⟨fj, hfj⟩ : ∃ f9 : Nat, f9 = if na = 40 then (fi + 1) % 40 else fi := ⟨_, rfl⟩
            obtain ⟨mj, hmj⟩ : ∃ f9 : Nat, f9 = if na = 40 then 39 else na := ⟨_, rfl⟩
            rw [← hfj] at h16vy98 hyvy98c hyvy98f
            rw [← hmj] at hyvy98c hyvy98f
            have hfj4 : fj < 40 := by rw [hfj]; split <;> omega
            have hka9 : kA fj mj = 350 * (2 + (fj + mj) % 40) := by unfold kA; omega
            have hkb9 : 700 ≤ kA fj mj ∧ kA fj mj ≤ 14350 := by omega
            have hkn9 : kpN na ≤ 40 := by unfold kpN; split <;> omega
            have hAvy98 : okA rvy98 (x) := okA.copy (a := 0) (b := 2 + (fj + mj) % 40) (m := 1) hA (by omega) (by omega) (by omega) (fun k hk => by rw [← hka9, Nat.mul_zero, Nat.zero_add]; exact hyvy98c k (by omega)) (fun j hj => hyvy98f j (by omega))
            have hyvy98 : ∀ j, j < 700 → rvy98 j = r j := fun j hj => hyvy98f j (by omega)
            obtain ⟨⟨hsyy101, htyy101, hnyy101, hpyy101⟩, hlyy101⟩ := okA.at0 hAvy98
            simp only [Nat.zero_add] at hsyy101 hnyy101 hpyy101
            have hmn : ∀ s, s < 4 → 0 ≤ rvy98 (6 + 86 * s) ∧ rvy98 (6 + 86 * s) ≤ 12 := fun s hs => (hsyy101 s hs).1
            have h5 : 0 ≤ rvy98 5 ∧ rvy98 5 ≤ 6 := hpyy101
            have hk0vy98 : rvy98 0 = r 0 := hyvy98 0 (by omega)
            have hk1vy98 : rvy98 1 = r 1 := hyvy98 1 (by omega)
            have hk5vy98 : rvy98 5 = r 5 := hyvy98 5 (by omega)
            have hWk : isWr rvy98 0 W := hW.ext hok9.n12 (fun j a1 a2 => hyvy98 j (by omega))
            have hSk : isS rvy98 p (W.2 n) := by rw [← hp]; exact hWk.2 n hn4
            have hSj : isS rvy98 p (ny24, Ky25, roy26) := by rw [hSy27]; exact hSk
            obtain ⟨hnk, hrk, hCk⟩ := hSj
            have hnk : rvy98 p = (ny24 : Int) := hnk
            have hCk : ∀ q, q < 7 * ny24 → rvy98 (p + 2 + q) = Ky25 q := hCk
            refine z_aload_n C 0 dX10_fall_66 rfl ?_
            refine z_iconst (z := 0) C dX10_fall_67 rfl ?_
            refine z_iload_n C 1 dX10_fall_68 rfl ?_
            refine z_iload_n C 2 dX10_fall_69 rfl ?_
            refine z_iload_n C 3 dX10_fall_70 rfl ?_
            refine z_aload_n C 0 dX10_fall_71 rfl ?_
            refine z_iconst (z := 0) C dX10_fall_72 rfl ?_
            have hey103 : Fvy98 14 = F 14 := ((hFvy98 14 (by decide) (by decide)).trans (fn rfl (by decide)))
            have hey104 : Fvy98 25 = F 25 := ((hFvy98 25 (by decide) (by decide)).trans (fn rfl (by decide)))
            have hgy105 := (hfvy98 (i + 4) (ne_o (i := i) (c := 4) (d := 0) rfl) (ne_o (i := i) (c := 4) (d := 1) rfl)).trans hgy96
            refine z_cV (As := [.int (zI (0))]) (rest := [.int (zI (z2)), .int (zI (z1)), .int (zI ((n : Int))), .int (zI (0)), .ref (ad i)]) (ci := 12) C (c_uAirOf l D A cs tt N ad _ i hN _ hcvy98 _ hdvy98 _ hgy105 0 (by omega) (by omega) (by omega) (by omega) hai) (lt_A0 hN rfl) hay1 hcvy98 rfl rfl mv_yX10_airOf q_1827 hd_yX10_airOf (by decide) (Nat.le_of_ble_eq_true rfl) (by decide) dX10_fall_73 rfl (kI0 fun vy102 gvy102 hvy102 => ?_)
            obtain ⟨hvy102, rfl⟩ := hvy102
            have hvy1022 : vy102 = air := hvy102.trans ((rAi_F (F := F) (t := W.1 0) (by omega) (by omega) (by omega)).trans hair.symm)
            rw [hvy1022]
            have hnm1 : rvy98 (0 + 1) = W.1 1 := hWk.1 1 (by decide)
            have hnm2 := hok9.2.2.1
            refine z_cV (As := [.int (zI (0)), .int (zI ((n : Int))), .int (zI (z1)), .int (zI (z2)), .int (zI (air))]) (rest := []) (ci := 12) C (c_uDrops l D A cs tt N ad _ i hN _ hcvy98 _ hdvy98 0 n p hp (by omega) (by omega) ny24 Ky25 hnk hCk hOy31 roy26 hrk (by omega) (z1) (by omega) (z2) (by omega) hw12 air (by omega)) (lt_A0 hN rfl) hay1 hcvy98 rfl rfl mv_yX10_drops q_1893 hd_yX10_drops (by decide) (Nat.le_of_ble_eq_true rfl) (by decide) dX10_fall_76 rfl (kV0 fun gvy106 hvy106 => ?_)
            obtain ⟨⟨rvy106, hcvy106, hSvy106, hnvy106, hzvy106⟩, hfvy106⟩ := hvy106
            rw [hnm1] at hSvy106 hnvy106
            rw [hSy27] at hSvy106
            have hwvy106 : isWr rvy106 0 (foW z1 z2 air n W) := hWk.fo hn4 hok9.n12 hp hSvy106 hnvy106 hzvy106
            have hyvy106 : ∀ j, j < 0 ∨ 350 ≤ j → rvy106 j = rvy98 j := fun j a => hzvy106 j (by omega) (by omega)
            have hokd : okWl (x + 1) (50 * x + 50) (foW z1 z2 air n W) := hok9.fo hn4 (by omega) (by omega) hw12 hab9
            have ht0vy106 : (foW z1 z2 air n W).1 0 = W.1 0 := foW_0 z1 z2 air n W
            have hAvy106 : okA rvy106 (x + 1) := okA.first hAvy98 (by omega) (fun j a => hyvy106 j (by omega)) (hwvy106.okW hokd) (by have h9 := hwvy106.1 0 (by decide); rw [Nat.add_zero] at h9; have h8 : (foW z1 z2 air n W).1 0 = W.1 0 := ht0vy106; omega)
            obtain ⟨⟨hsyy107, htyy107, hnyy107, hpyy107⟩, hlyy107⟩ := okA.at0 hAvy106
            simp only [Nat.zero_add] at hsyy107 hnyy107 hpyy107
            have hmn : ∀ s, s < 4 → 0 ≤ rvy106 (6 + 86 * s) ∧ rvy106 (6 + 86 * s) ≤ 12 := fun s hs => (hsyy107 s hs).1
            have h5 : 0 ≤ rvy106 5 ∧ rvy106 5 ≤ 6 := hpyy107
            obtain ⟨⟨n8, K8, ro8⟩, hS8⟩ : ∃ S9 : SL9, S9 = (foW z1 z2 air n W).2 n := ⟨_, rfl⟩
            have hn8 : rvy106 p = (n8 : Int) := by have h9 := (hwvy106.2 n hn4).1; rw [hp, ← hS8] at h9; exact h9
            have hn812 : n8 ≤ 12 := by have h9 := hokd.n12 n hn4; rw [← hS8] at h9; exact h9
            refine z_aload_n C 0 dX10_fall_79 rfl ?_
            refine z_iconst (z := 0) C dX10_fall_80 rfl ?_
            refine z_iload_n C 1 dX10_fall_81 rfl ?_
            have hgy108 := (hfvy106 (i) (ne_o (i := i) (c := 0) (d := 1) rfl)).trans hcvy98
            refine z_cV (As := [.int (zI (0)), .int (zI ((n : Int)))]) (rest := []) (ci := 12) C (c_X10_many l D A cs tt N ad _ i hN _ hgy108 _ hcvy106 0 n p hp (by omega) (by omega)) (lt_A0 hN rfl) hay1 hgy108 rfl rfl mv_yX10_many q_1733 hd_yX10_many (by decide) (Nat.le_of_ble_eq_true rfl) (by decide) dX10_fall_82 rfl (kI0 fun vy109 gvy109 hvy109 => ?_)
            obtain ⟨rfl, rfl⟩ := hvy109
            rw [show rvy106 (p) = (n8 : Int) from hn8]
            have hans9 : (n8 : Int) = (((foW z1 z2 air n W).2 n).1 : Int) := by rw [← hS8]
            have hWf : okWx (x + 1) (foW z1 z2 air n W) := ⟨hokd.mono (Int.le_refl _) (by omega), by have h8 := foW_0 z1 z2 air n W; omega⟩
            have hFy110 : ∀ f, f ≠ 12 → f ≠ 15 → f ≠ 16 → Fvy98 f = F f := fun f n12 n15 n16 => ((hFvy98 f n15 n16).trans ((uZ_n _ _ n12).trans rfl))
            have hey111 : Fvy98 13 = F 13 := ((hFvy98 13 (by decide) (by decide)).trans (fn rfl (by decide)))
            have hey112 : Fvy98 14 = F 14 := ((hFvy98 14 (by decide) (by decide)).trans (fn rfl (by decide)))
            have hey113 : Fvy98 15 = Fvy98 15 := rfl
            have hey114 : Fvy98 16 = Fvy98 16 := rfl
            have hey115 : Fvy98 17 = F 17 := ((hFvy98 17 (by decide) (by decide)).trans (fn rfl (by decide)))
            have hey116 : Fvy98 18 = F 18 := ((hFvy98 18 (by decide) (by decide)).trans (fn rfl (by decide)))
            have hey117 : Fvy98 19 = F 19 := ((hFvy98 19 (by decide) (by decide)).trans (fn rfl (by decide)))
            have hey118 : Fvy98 20 = F 20 := ((hFvy98 20 (by decide) (by decide)).trans (fn rfl (by decide)))
            have hey119 : Fvy98 21 = F 21 := ((hFvy98 21 (by decide) (by decide)).trans (fn rfl (by decide)))
            have hey120 : Fvy98 23 = F 23 := ((hFvy98 23 (by decide) (by decide)).trans (fn rfl (by decide)))
            have hey121 : Fvy98 25 = F 25 := ((hFvy98 25 (by decide) (by decide)).trans (fn rfl (by decide)))
            have hey122 : Fvy98 27 = F 27 := ((hFvy98 27 (by decide) (by decide)).trans (fn rfl (by decide)))
            have hey123 : Fvy98 28 = F 28 := ((hFvy98 28 (by decide) (by decide)).trans (fn rfl (by decide)))
            have hey124 : Fvy98 29 = F 29 := ((hFvy98 29 (by decide) (by decide)).trans (fn rfl (by decide)))
            have hKy125 : okF Fvy98 := by unfold okF; omega
            have hMy126 : okMr cs ad gvy106 i (x + 1) Fvy98 rvy106 st op ai fa mu tb tp := okMr.upd hM hgy108 hKy125 (fun f a => hFy110 f (by omega) (by omega) (by omega)) hcvy106 (hAvy106.mono (by omega)) (fun j a b => by
                exact Or.inl (by rw [hfvy106 _ (by omega)]; rw [hfvy98 _ (by omega) (by omega)]; rw [egy38, va_up_ne _ _ (by omega)]))
            have hkpy127 : Fvy98 13 = F 13 := ((hFvy98 13 (by decide) (by decide)).trans (fn rfl (by decide)))
            have hkpy128 : Fvy98 14 = F 14 := ((hFvy98 14 (by decide) (by decide)).trans (fn rfl (by decide)))
            have hkpy129 : Fvy98 17 = F 17 := ((hFvy98 17 (by decide) (by decide)).trans (fn rfl (by decide)))
            have hkpy130 : Fvy98 18 = F 18 := ((hFvy98 18 (by decide) (by decide)).trans (fn rfl (by decide)))
            have hkpy131 : Fvy98 19 = F 19 := ((hFvy98 19 (by decide) (by decide)).trans (fn rfl (by decide)))
            have hkpy132 : Fvy98 20 = F 20 := ((hFvy98 20 (by decide) (by decide)).trans (fn rfl (by decide)))
            have hkpy133 : Fvy98 21 = F 21 := ((hFvy98 21 (by decide) (by decide)).trans (fn rfl (by decide)))
            have hkpy134 : Fvy98 23 = F 23 := ((hFvy98 23 (by decide) (by decide)).trans (fn rfl (by decide)))
            have hkpy135 : Fvy98 24 = F 24 := ((hFvy98 24 (by decide) (by decide)).trans (fn rfl (by decide)))
            have hkpy136 : Fvy98 25 = F 25 := ((hFvy98 25 (by decide) (by decide)).trans (fn rfl (by decide)))
            have hkpy137 : Fvy98 26 = F 26 := ((hFvy98 26 (by decide) (by decide)).trans (fn rfl (by decide)))
            have hkpy138 : Fvy98 27 = F 27 := ((hFvy98 27 (by decide) (by decide)).trans (fn rfl (by decide)))
            have hkpy139 : Fvy98 28 = F 28 := ((hFvy98 28 (by decide) (by decide)).trans (fn rfl (by decide)))
            have hkpy140 : Fvy98 29 = F 29 := ((hFvy98 29 (by decide) (by decide)).trans (fn rfl (by decide)))
            have hE9 : falA F ai nsl ((n : Int)) z1 z2 W na H = (((((foW z1 z2 air n W).2 n).1 : Nat) : Int), foW z1 z2 air n W, kpN na, kpH na H W) := by unfold falA; rw [← hair, Int.toNat_natCast]; exact if_pos (by omega)
            rw [hE9]
            have hX9 : okRX Fvy98 rvy106 (x + 1) (foW z1 z2 air n W) (kpN na) (kpH na H W) := hRX.act (by omega) h16 hfj hmj (by omega) (by omega) (fun q hq => (hyvy106 _ (by omega)).trans (hyvy98c q hq)) (fun j a1 a2 => (hyvy106 j (by omega)).trans (hyvy98f j a2)) hwvy106 hWf
            have hgy141 := up_n egy38 hrr (ne_o (i := i) (c := 11) (d := 0) rfl)
            have hgy142 := (hfvy98 (i + 11) (ne_o (i := i) (c := 11) (d := 0) rfl) (ne_o (i := i) (c := 11) (d := 1) rfl)).trans hgy141
            have hgy143 := (hfvy106 (i + 11) (ne_o (i := i) (c := 11) (d := 1) rfl)).trans hgy142
            exact z_iret C hr hlk dX10_fall_85 (by decide) (by decide) ⟨(n8 : Int), rfl, rfl, rfl, by omega, ⟨_, _, hMy126, by omega, hX9, fun j a1 => (hyvy106 j (by omega)).trans (hyvy98f j (by omega))⟩, ⟨_, hgy143, Or.inr ⟨by omega, rfl⟩⟩, fun j j1 => by rw [hfvy106 _ (by omega)]; rw [hfvy98 _ (by omega) (by omega)]; rw [egy38, va_up_ne _ _ (by omega)], fun j j1 j2 j3 => by rw [hfvy106 _ (by omega)]; rw [hfvy98 _ (by omega) (by omega)]; rw [egy38, va_up_ne _ _ (by omega)]⟩
          · refine z_aload_n C 0 dX10_fall_56 rfl ?_
            refine z_iconst (z := 1) C dX10_fall_57 rfl ?_
            have hgy144 := up_n egy38 hrr (ne_o (i := i) (c := 11) (d := 0) rfl)
            refine z_cV (As := [.int (zI (1))]) (rest := []) (ci := 12) C (c_uRefuses l D A cs tt N ad _ i hN _ hgy39 _ hgy144 1 (by omega)) (lt_A0 hN rfl) hay1 hgy39 rfl rfl mv_yX10_refuses q_1866 hd_yX10_refuses (by decide) (Nat.le_of_ble_eq_true rfl) (by decide) dX10_fall_58 rfl (kI0 fun vy145 gvy145 hvy145 => ?_)
            obtain ⟨rfl, hdvy145, hfvy145⟩ := hvy145
            have hgy146 := (hfvy145 (i) (ne_o (i := i) (c := 0) (d := 11) rfl)).trans hgy39
            have hgy147 := (hfvy145 (i + 1) (ne_o (i := i) (c := 1) (d := 11) rfl)).trans hgy92
            have hFy148 : ∀ f, f ≠ 12 → (uZ F 12 (0)) f = F f := fun f n12 => ((uZ_n _ _ n12).trans rfl)
            have hey149 : (uZ F 12 (0)) 13 = F 13 := (fn rfl (by decide))
            have hey150 : (uZ F 12 (0)) 14 = F 14 := (fn rfl (by decide))
            have hey151 : (uZ F 12 (0)) 15 = F 15 := (fn rfl (by decide))
            have hey152 : (uZ F 12 (0)) 16 = F 16 := (fn rfl (by decide))
            have hey153 : (uZ F 12 (0)) 17 = F 17 := (fn rfl (by decide))
            have hey154 : (uZ F 12 (0)) 18 = F 18 := (fn rfl (by decide))
            have hey155 : (uZ F 12 (0)) 19 = F 19 := (fn rfl (by decide))
            have hey156 : (uZ F 12 (0)) 20 = F 20 := (fn rfl (by decide))
            have hey157 : (uZ F 12 (0)) 21 = F 21 := (fn rfl (by decide))
            have hey158 : (uZ F 12 (0)) 23 = F 23 := (fn rfl (by decide))
            have hey159 : (uZ F 12 (0)) 25 = F 25 := (fn rfl (by decide))
            have hey160 : (uZ F 12 (0)) 27 = F 27 := (fn rfl (by decide))
            have hey161 : (uZ F 12 (0)) 28 = F 28 := (fn rfl (by decide))
            have hey162 : (uZ F 12 (0)) 29 = F 29 := (fn rfl (by decide))
            have hKy163 : okF (uZ F 12 (0)) := okF.mv hM.2.1 hey149 hey150 hey151 hey152 hey153 hey154 hey155 hey156 hey157 hey158 hey159 hey160 hey161 hey162
            have hMy164 : okMr cs ad gvy145 i (x + 1) (uZ F 12 (0)) r st op ai fa mu tb tp := okMr.upd hM hgy146 hKy163 (fun f a => hFy148 f (by omega)) hgy147 (hA.mono (by omega)) (fun j a b => by
                by_cases e0 : j = i + 11
                · exact Or.inr ⟨11, _, e0, lsP.l (by decide), by rw [e0]; exact hdvy145⟩
                exact Or.inl (by rw [hfvy145 _ (by omega)]; rw [egy38, va_up_ne _ _ (by omega)]))
            have hkpy165 : (uZ F 12 (0)) 13 = F 13 := (fn rfl (by decide))
            have hkpy166 : (uZ F 12 (0)) 14 = F 14 := (fn rfl (by decide))
            have hkpy167 : (uZ F 12 (0)) 17 = F 17 := (fn rfl (by decide))
            have hkpy168 : (uZ F 12 (0)) 18 = F 18 := (fn rfl (by decide))
            have hkpy169 : (uZ F 12 (0)) 19 = F 19 := (fn rfl (by decide))
            have hkpy170 : (uZ F 12 (0)) 20 = F 20 := (fn rfl (by decide))
            have hkpy171 : (uZ F 12 (0)) 21 = F 21 := (fn rfl (by decide))
            have hkpy172 : (uZ F 12 (0)) 23 = F 23 := (fn rfl (by decide))
            have hkpy173 : (uZ F 12 (0)) 24 = F 24 := (fn rfl (by decide))
            have hkpy174 : (uZ F 12 (0)) 25 = F 25 := (fn rfl (by decide))
            have hkpy175 : (uZ F 12 (0)) 26 = F 26 := (fn rfl (by decide))
            have hkpy176 : (uZ F 12 (0)) 27 = F 27 := (fn rfl (by decide))
            have hkpy177 : (uZ F 12 (0)) 28 = F 28 := (fn rfl (by decide))
            have hkpy178 : (uZ F 12 (0)) 29 = F 29 := (fn rfl (by decide))
            rw [show falA F ai nsl ((n : Int)) z1 z2 W na H = (-1, W, na, H) from by unfold falA; rw [← hair]; exact if_neg (by omega)]
            exact z_iret C hr hlk dX10_fall_61 (by decide) (by decide) ⟨-1, rfl, rfl, rfl, by omega, ⟨_, _, hMy164, by omega, hRX.nx (by omega) (fn rfl (by decide)) (fn rfl (by decide)) (fun j _ => rfl), fun j _ => rfl⟩, ⟨_, hdvy145, Or.inl ⟨by omega, rfl⟩⟩, fun j j1 => by rw [hfvy145 _ (by omega)]; rw [egy38, va_up_ne _ _ (by omega)], fun j j1 j2 j3 => by rw [hfvy145 _ (by omega)]; rw [egy38, va_up_ne _ _ (by omega)]⟩
      · refine z_iload_n C 3 dX10_fall_33 rfl ?_
        refine z_iconst (z := 1) C dX10_fall_34 rfl ?_
        refine z_bipush (z := 50) C dX10_fall_35 (by decide) ?_
        refine z_cS (As := [.int (zI (z2)), .int (zI (1)), .int (zI (50))]) (rest := []) C (c_X10_within l D A cs tt N ad _ (z2) (by omega) (1) (by omega) (50) (by omega)) ms_yX10_within q_1686 hd_yX10_within (by decide) (Nat.le_of_ble_eq_true rfl) (by decide) dX10_fall_37 rfl (kI0 fun vy179 gvy179 hvy179 => ?_)
        obtain ⟨hvy179, rfl⟩ := hvy179
        rcases hvy179 with ⟨rfl, hxvy179⟩ | ⟨rfl, hxvy179⟩
        · refine z_if_eq (tgt := 56) C dX10_fall_40 (by decide) (by omega) (fun h => absurd h (by omega)) (fun _ => ?_)
          refine z_iload_n C 2 dX10_fall_43 rfl ?_
          refine z_iconst (z := 3) C dX10_fall_44 rfl ?_
          refine z_icmp_ne (tgt := 62) C dX10_fall_45 (by decide) (by omega) (by omega) (fun hby180 => ?_) (fun hby180 => ?_)
          · refine z_aload_n C 0 dX10_fall_62 rfl ?_
            have hw12 : z1 = 1 ∨ z1 = 2 → 1 ≤ z2 ∧ z2 ≤ 50 := fun _ => by omega
            have hgy181 := up_n egy38 ha1 (ne_o (i := i) (c := 1) (d := 0) rfl)
            have hey183 : (uZ F 12 (0)) 15 = F 15 := (fn rfl (by decide))
            have hey184 : (uZ F 12 (0)) 16 = F 16 := (fn rfl (by decide))
            refine z_cV (As := []) (rest := []) (ci := 12) C (c_uKeeps l D A cs tt N ad _ i hN _ hgy39 _ hgy181 na fi (by omega) (by omega) hna hfi) (lt_A0 hN rfl) hay1 hgy39 rfl rfl mv_yX10_keeps q_1870 hd_yX10_keeps (by decide) (Nat.le_of_ble_eq_true rfl) (by decide) dX10_fall_63 rfl (kV0 fun gvy182 hvy182 => ?_)
            obtain ⟨⟨Fvy182, hcvy182, ⟨h15vy182, h16vy182⟩, hFvy182⟩, ⟨rvy182, hdvy182, hyvy182c, hyvy182f⟩, hfvy182⟩ := hvy182
            obtain ⟨fj, hfj⟩ : ∃ f9 : Nat, f9 = if na = 40 then (fi + 1) % 40 else fi := ⟨_, rfl⟩
            obtain ⟨mj, hmj⟩ : ∃ f9 : Nat, f9 = if na = 40 then 39 else na := ⟨_, rfl⟩
            rw [← hfj] at h16vy182 hyvy182c hyvy182f
            rw [← hmj] at hyvy182c hyvy182f
            have hfj4 : fj < 40 := by rw [hfj]; split <;> omega
            have hka9 : kA fj mj = 350 * (2 + (fj + mj) % 40) := by unfold kA; omega
            have hkb9 : 700 ≤ kA fj mj ∧ kA fj mj ≤ 14350 := by omega
            have hkn9 : kpN na ≤ 40 := by unfold kpN; split <;> omega
            have hAvy182 : okA rvy182 (x) := okA.copy (a := 0) (b := 2 + (fj + mj) % 40) (m := 1) hA (by omega) (by omega) (by omega) (fun k hk => by rw [← hka9, Nat.mul_zero, Nat.zero_add]; exact hyvy182c k (by omega)) (fun j hj => hyvy182f j (by omega))
            have hyvy182 : ∀ j, j < 700 → rvy182 j = r j := fun j hj => hyvy182f j (by omega)
            obtain ⟨⟨hsyy185, htyy185, hnyy185, hpyy185⟩, hlyy185⟩ := okA.at0 hAvy182
            simp only [Nat.zero_add] at hsyy185 hnyy185 hpyy185
            have hmn : ∀ s, s < 4 → 0 ≤ rvy182 (6 + 86 * s) ∧ rvy182 (6 + 86 * s) ≤ 12 := fun s hs => (hsyy185 s hs).1
            have h5 : 0 ≤ rvy182 5 ∧ rvy182 5 ≤ 6 := hpyy185
            have hk0vy182 : rvy182 0 = r 0 := hyvy182 0 (by omega)
            have hk1vy182 : rvy182 1 = r 1 := hyvy182 1 (by omega)
            have hk5vy182 : rvy182 5 = r 5 := hyvy182 5 (by omega)
            have hWk : isWr rvy182 0 W := hW.ext hok9.n12 (fun j a1 a2 => hyvy182 j (by omega))
            have hSk : isS rvy182 p (W.2 n) := by rw [← hp]; exact hWk.2 n hn4
            have hSj : isS rvy182 p (ny24, Ky25, roy26) := by rw [hSy27]; exact hSk
            obtain ⟨hnk, hrk, hCk⟩ := hSj
            have hnk : rvy182 p = (ny24 : Int) := hnk
            have hCk : ∀ q, q < 7 * ny24 → rvy182 (p + 2 + q) = Ky25 q := hCk
            refine z_aload_n C 0 dX10_fall_66 rfl ?_
            refine z_iconst (z := 0) C dX10_fall_67 rfl ?_
            refine z_iload_n C 1 dX10_fall_68 rfl ?_
            refine z_iload_n C 2 dX10_fall_69 rfl ?_
            refine z_iload_n C 3 dX10_fall_70 rfl ?_
            refine z_aload_n C 0 dX10_fall_71 rfl ?_
            refine z_iconst (z := 0) C dX10_fall_72 rfl ?_
            have hey187 : Fvy182 14 = F 14 := ((hFvy182 14 (by decide) (by decide)).trans (fn rfl (by decide)))
            have hey188 : Fvy182 25 = F 25 := ((hFvy182 25 (by decide) (by decide)).trans (fn rfl (by decide)))
            have hgy189 := up_n egy38 ha4 (ne_o (i := i) (c := 4) (d := 0) rfl)
            have hgy190 := (hfvy182 (i + 4) (ne_o (i := i) (c := 4) (d := 0) rfl) (ne_o (i := i) (c := 4) (d := 1) rfl)).trans hgy189
            refine z_cV (As := [.int (zI (0))]) (rest := [.int (zI (z2)), .int (zI (z1)), .int (zI ((n : Int))), .int (zI (0)), .ref (ad i)]) (ci := 12) C (c_uAirOf l D A cs tt N ad _ i hN _ hcvy182 _ hdvy182 _ hgy190 0 (by omega) (by omega) (by omega) (by omega) hai) (lt_A0 hN rfl) hay1 hcvy182 rfl rfl mv_yX10_airOf q_1827 hd_yX10_airOf (by decide) (Nat.le_of_ble_eq_true rfl) (by decide) dX10_fall_73 rfl (kI0 fun vy186 gvy186 hvy186 => ?_)
            obtain ⟨hvy186, rfl⟩ := hvy186
            have hvy1862 : vy186 = air := hvy186.trans ((rAi_F (F := F) (t := W.1 0) (by omega) (by omega) (by omega)).trans hair.symm)
            rw [hvy1862]
            have hnm1 : rvy182 (0 + 1) = W.1 1 := hWk.1 1 (by decide)
            have hnm2 := hok9.2.2.1
            refine z_cV (As := [.int (zI (0)), .int (zI ((n : Int))), .int (zI (z1)), .int (zI (z2)), .int (zI (air))]) (rest := []) (ci := 12) C (c_uDrops l D A cs tt N ad _ i hN _ hcvy182 _ hdvy182 0 n p hp (by omega) (by omega) ny24 Ky25 hnk hCk hOy31 roy26 hrk (by omega) (z1) (by omega) (z2) (by omega) hw12 air (by omega)) (lt_A0 hN rfl) hay1 hcvy182 rfl rfl mv_yX10_drops q_1893 hd_yX10_drops (by decide) (Nat.le_of_ble_eq_true rfl) (by decide) dX10_fall_76 rfl (kV0 fun gvy191 hvy191 => ?_)
            obtain ⟨⟨rvy191, hcvy191, hSvy191, hnvy191, hzvy191⟩, hfvy191⟩ := hvy191
            rw [hnm1] at hSvy191 hnvy191
            rw [hSy27] at hSvy191
            have hwvy191 : isWr rvy191 0 (foW z1 z2 air n W) := hWk.fo hn4 hok9.n12 hp hSvy191 hnvy191 hzvy191
            have hyvy191 : ∀ j, j < 0 ∨ 350 ≤ j → rvy191 j = rvy182 j := fun j a => hzvy191 j (by omega) (by omega)
            have hokd : okWl (x + 1) (50 * x + 50) (foW z1 z2 air n W) := hok9.fo hn4 (by omega) (by omega) hw12 hab9
            have ht0vy191 : (foW z1 z2 air n W).1 0 = W.1 0 := foW_0 z1 z2 air n W
            have hAvy191 : okA rvy191 (x + 1) := okA.first hAvy182 (by omega) (fun j a => hyvy191 j (by omega)) (hwvy191.okW hokd) (by have h9 := hwvy191.1 0 (by decide); rw [Nat.add_zero] at h9; have h8 : (foW z1 z2 air n W).1 0 = W.1 0 := ht0vy191; omega)
            obtain ⟨⟨hsyy192, htyy192, hnyy192, hpyy192⟩, hlyy192⟩ := okA.at0 hAvy191
            simp only [Nat.zero_add] at hsyy192 hnyy192 hpyy192
            have hmn : ∀ s, s < 4 → 0 ≤ rvy191 (6 + 86 * s) ∧ rvy191 (6 + 86 * s) ≤ 12 := fun s hs => (hsyy192 s hs).1
            have h5 : 0 ≤ rvy191 5 ∧ rvy191 5 ≤ 6 := hpyy192
            obtain ⟨⟨n8, K8, ro8⟩, hS8⟩ : ∃ S9 : SL9, S9 = (foW z1 z2 air n W).2 n := ⟨_, rfl⟩
            have hn8 : rvy191 p = (n8 : Int) := by have h9 := (hwvy191.2 n hn4).1; rw [hp, ← hS8] at h9; exact h9
            have hn812 : n8 ≤ 12 := by have h9 := hokd.n12 n hn4; rw [← hS8] at h9; exact h9
            refine z_aload_n C 0 dX10_fall_79 rfl ?_
            refine z_iconst (z := 0) C dX10_fall_80 rfl ?_
            refine z_iload_n C 1 dX10_fall_81 rfl ?_
            have hgy193 := (hfvy191 (i) (ne_o (i := i) (c := 0) (d := 1) rfl)).trans hcvy182
            refine z_cV (As := [.int (zI (0)), .int (zI ((n : Int)))]) (rest := []) (ci := 12) C (c_X10_many l D A cs tt N ad _ i hN _ hgy193 _ hcvy191 0 n p hp (by omega) (by omega)) (lt_A0 hN rfl) hay1 hgy193 rfl rfl mv_yX10_many q_1733 hd_yX10_many (by decide) (Nat.le_of_ble_eq_true rfl) (by decide) dX10_fall_82 rfl (kI0 fun vy194 gvy194 hvy194 => ?_)
            obtain ⟨rfl, rfl⟩ := hvy194
            rw [show rvy191 (p) = (n8 : Int) from hn8]
            have hans9 : (n8 : Int) = (((foW z1 z2 air n W).2 n).1 : Int) := by rw [← hS8]
            have hWf : okWx (x + 1) (foW z1 z2 air n W) := ⟨hokd.mono (Int.le_refl _) (by omega), by have h8 := foW_0 z1 z2 air n W; omega⟩
            have hFy195 : ∀ f, f ≠ 12 → f ≠ 15 → f ≠ 16 → Fvy182 f = F f := fun f n12 n15 n16 => ((hFvy182 f n15 n16).trans ((uZ_n _ _ n12).trans rfl))
            have hey196 : Fvy182 13 = F 13 := ((hFvy182 13 (by decide) (by decide)).trans (fn rfl (by decide)))
            have hey197 : Fvy182 14 = F 14 := ((hFvy182 14 (by decide) (by decide)).trans (fn rfl (by decide)))
            have hey198 : Fvy182 15 = Fvy182 15 := rfl
            have hey199 : Fvy182 16 = Fvy182 16 := rfl
            have hey200 : Fvy182 17 = F 17 := ((hFvy182 17 (by decide) (by decide)).trans (fn rfl (by decide)))
            have hey201 : Fvy182 18 = F 18 := ((hFvy182 18 (by decide) (by decide)).trans (fn rfl (by decide)))
            have hey202 : Fvy182 19 = F 19 := ((hFvy182 19 (by decide) (by decide)).trans (fn rfl (by decide)))
            have hey203 : Fvy182 20 = F 20 := ((hFvy182 20 (by decide) (by decide)).trans (fn rfl (by decide)))
            have hey204 : Fvy182 21 = F 21 := ((hFvy182 21 (by decide) (by decide)).trans (fn rfl (by decide)))
            have hey205 : Fvy182 23 = F 23 := ((hFvy182 23 (by decide) (by decide)).trans (fn rfl (by decide)))
            have hey206 : Fvy182 25 = F 25 := ((hFvy182 25 (by decide) (by decide)).trans (fn rfl (by decide)))
            have hey207 : Fvy182 27 = F 27 := ((hFvy182 27 (by decide) (by decide)).trans (fn rfl (by decide)))
            have hey208 : Fvy182 28 = F 28 := ((hFvy182 28 (by decide) (by decide)).trans (fn rfl (by decide)))
            have hey209 : Fvy182 29 = F 29 := ((hFvy182 29 (by decide) (by decide)).trans (fn rfl (by decide)))
            have hKy210 : okF Fvy182 := by unfold okF; omega
            have hMy211 : okMr cs ad gvy191 i (x + 1) Fvy182 rvy191 st op ai fa mu tb tp := okMr.upd hM hgy193 hKy210 (fun f a => hFy195 f (by omega) (by omega) (by omega)) hcvy191 (hAvy191.mono (by omega)) (fun j a b => by
                exact Or.inl (by rw [hfvy191 _ (by omega)]; rw [hfvy182 _ (by omega) (by omega)]; rw [egy38, va_up_ne _ _ (by omega)]))
            have hkpy212 : Fvy182 13 = F 13 := ((hFvy182 13 (by decide) (by decide)).trans (fn rfl (by decide)))
            have hkpy213 : Fvy182 14 = F 14 := ((hFvy182 14 (by decide) (by decide)).trans (fn rfl (by decide)))
            have hkpy214 : Fvy182 17 = F 17 := ((hFvy182 17 (by decide) (by decide)).trans (fn rfl (by decide)))
            have hkpy215 : Fvy182 18 = F 18 := ((hFvy182 18 (by decide) (by decide)).trans (fn rfl (by decide)))
            have hkpy216 : Fvy182 19 = F 19 := ((hFvy182 19 (by decide) (by decide)).trans (fn rfl (by decide)))
            have hkpy217 : Fvy182 20 = F 20 := ((hFvy182 20 (by decide) (by decide)).trans (fn rfl (by decide)))
            have hkpy218 : Fvy182 21 = F 21 := ((hFvy182 21 (by decide) (by decide)).trans (fn rfl (by decide)))
            have hkpy219 : Fvy182 23 = F 23 := ((hFvy182 23 (by decide) (by decide)).trans (fn rfl (by decide)))
            have hkpy220 : Fvy182 24 = F 24 := ((hFvy182 24 (by decide) (by decide)).trans (fn rfl (by decide)))
            have hkpy221 : Fvy182 25 = F 25 := ((hFvy182 25 (by decide) (by decide)).trans (fn rfl (by decide)))
            have hkpy222 : Fvy182 26 = F 26 := ((hFvy182 26 (by decide) (by decide)).trans (fn rfl (by decide)))
            have hkpy223 : Fvy182 27 = F 27 := ((hFvy182 27 (by decide) (by decide)).trans (fn rfl (by decide)))
            have hkpy224 : Fvy182 28 = F 28 := ((hFvy182 28 (by decide) (by decide)).trans (fn rfl (by decide)))
            have hkpy225 : Fvy182 29 = F 29 := ((hFvy182 29 (by decide) (by decide)).trans (fn rfl (by decide)))
            have hE9 : falA F ai nsl ((n : Int)) z1 z2 W na H = (((((foW z1 z2 air n W).2 n).1 : Nat) : Int), foW z1 z2 air n W, kpN na, kpH na H W) := by unfold falA; rw [← hair, Int.toNat_natCast]; exact if_pos (by omega)
            rw [hE9]
            have hX9 : okRX Fvy182 rvy191 (x + 1) (foW z1 z2 air n W) (kpN na) (kpH na H W) := hRX.act (by omega) h16 hfj hmj (by omega) (by omega) (fun q hq => (hyvy191 _ (by omega)).trans (hyvy182c q hq)) (fun j a1 a2 => (hyvy191 j (by omega)).trans (hyvy182f j a2)) hwvy191 hWf
            have hgy226 := up_n egy38 hrr (ne_o (i := i) (c := 11) (d := 0) rfl)
            have hgy227 := (hfvy182 (i + 11) (ne_o (i := i) (c := 11) (d := 0) rfl) (ne_o (i := i) (c := 11) (d := 1) rfl)).trans hgy226
            have hgy228 := (hfvy191 (i + 11) (ne_o (i := i) (c := 11) (d := 1) rfl)).trans hgy227
            exact z_iret C hr hlk dX10_fall_85 (by decide) (by decide) ⟨(n8 : Int), rfl, rfl, rfl, by omega, ⟨_, _, hMy211, by omega, hX9, fun j a1 => (hyvy191 j (by omega)).trans (hyvy182f j (by omega))⟩, ⟨_, hgy228, Or.inr ⟨by omega, rfl⟩⟩, fun j j1 => by rw [hfvy191 _ (by omega)]; rw [hfvy182 _ (by omega) (by omega)]; rw [egy38, va_up_ne _ _ (by omega)], fun j j1 j2 j3 => by rw [hfvy191 _ (by omega)]; rw [hfvy182 _ (by omega) (by omega)]; rw [egy38, va_up_ne _ _ (by omega)]⟩
          · refine z_aload_n C 0 dX10_fall_48 rfl ?_
            refine z_iconst (z := 0) C dX10_fall_49 rfl ?_
            have hgy229 := up_n egy38 ha1 (ne_o (i := i) (c := 1) (d := 0) rfl)
            have hey231 : (uZ F 12 (0)) 14 = F 14 := (fn rfl (by decide))
            have hey232 : (uZ F 12 (0)) 25 = F 25 := (fn rfl (by decide))
            have hgy233 := up_n egy38 ha4 (ne_o (i := i) (c := 4) (d := 0) rfl)
            refine z_cV (As := [.int (zI (0))]) (rest := []) (ci := 12) C (c_uAirOf l D A cs tt N ad _ i hN _ hgy39 _ hgy229 _ hgy233 0 (by omega) (by omega) (by omega) (by omega) hai) (lt_A0 hN rfl) hay1 hgy39 rfl rfl mv_yX10_airOf q_1827 hd_yX10_airOf (by decide) (Nat.le_of_ble_eq_true rfl) (by decide) dX10_fall_50 rfl (kI0 fun vy230 gvy230 hvy230 => ?_)
            obtain ⟨hvy230, rfl⟩ := hvy230
            have hvy2302 : vy230 = air := hvy230.trans ((rAi_F (F := F) (t := W.1 0) (by omega) (by omega) (by omega)).trans hair.symm)
            rw [hvy2302]
            refine z_if_lt (tgt := 62) C dX10_fall_53 (by decide) (by omega) (fun hby234 => ?_) (fun hby234 => ?_)
            · refine z_aload_n C 0 dX10_fall_62 rfl ?_
              have hw12 : z1 = 1 ∨ z1 = 2 → 1 ≤ z2 ∧ z2 ≤ 50 := fun _ => by omega
              have hey236 : (uZ F 12 (0)) 15 = F 15 := (fn rfl (by decide))
              have hey237 : (uZ F 12 (0)) 16 = F 16 := (fn rfl (by decide))
              refine z_cV (As := []) (rest := []) (ci := 12) C (c_uKeeps l D A cs tt N ad _ i hN _ hgy39 _ hgy229 na fi (by omega) (by omega) hna hfi) (lt_A0 hN rfl) hay1 hgy39 rfl rfl mv_yX10_keeps q_1870 hd_yX10_keeps (by decide) (Nat.le_of_ble_eq_true rfl) (by decide) dX10_fall_63 rfl (kV0 fun gvy235 hvy235 => ?_)
              obtain ⟨⟨Fvy235, hcvy235, ⟨h15vy235, h16vy235⟩, hFvy235⟩, ⟨rvy235, hdvy235, hyvy235c, hyvy235f⟩, hfvy235⟩ := hvy235
              obtain ⟨fj, hfj⟩ : ∃ f9 : Nat, f9 = if na = 40 then (fi + 1) % 40 else fi := ⟨_, rfl⟩
              obtain ⟨mj, hmj⟩ : ∃ f9 : Nat, f9 = if na = 40 then 39 else na := ⟨_, rfl⟩
              rw [← hfj] at h16vy235 hyvy235c hyvy235f
              rw [← hmj] at hyvy235c hyvy235f
              have hfj4 : fj < 40 := by rw [hfj]; split <;> omega
              have hka9 : kA fj mj = 350 * (2 + (fj + mj) % 40) := by unfold kA; omega
              have hkb9 : 700 ≤ kA fj mj ∧ kA fj mj ≤ 14350 := by omega
              have hkn9 : kpN na ≤ 40 := by unfold kpN; split <;> omega
              have hAvy235 : okA rvy235 (x) := okA.copy (a := 0) (b := 2 + (fj + mj) % 40) (m := 1) hA (by omega) (by omega) (by omega) (fun k hk => by rw [← hka9, Nat.mul_zero, Nat.zero_add]; exact hyvy235c k (by omega)) (fun j hj => hyvy235f j (by omega))
              have hyvy235 : ∀ j, j < 700 → rvy235 j = r j := fun j hj => hyvy235f j (by omega)
              obtain ⟨⟨hsyy238, htyy238, hnyy238, hpyy238⟩, hlyy238⟩ := okA.at0 hAvy235
              simp only [Nat.zero_add] at hsyy238 hnyy238 hpyy238
              have hmn : ∀ s, s < 4 → 0 ≤ rvy235 (6 + 86 * s) ∧ rvy235 (6 + 86 * s) ≤ 12 := fun s hs => (hsyy238 s hs).1
              have h5 : 0 ≤ rvy235 5 ∧ rvy235 5 ≤ 6 := hpyy238
              have hk0vy235 : rvy235 0 = r 0 := hyvy235 0 (by omega)
              have hk1vy235 : rvy235 1 = r 1 := hyvy235 1 (by omega)
              have hk5vy235 : rvy235 5 = r 5 := hyvy235 5 (by omega)
              have hWk : isWr rvy235 0 W := hW.ext hok9.n12 (fun j a1 a2 => hyvy235 j (by omega))
              have hSk : isS rvy235 p (W.2 n) := by rw [← hp]; exact hWk.2 n hn4
              have hSj : isS rvy235 p (ny24, Ky25, roy26) := by rw [hSy27]; exact hSk
              obtain ⟨hnk, hrk, hCk⟩ := hSj
              have hnk : rvy235 p = (ny24 : Int) := hnk
              have hCk : ∀ q, q < 7 * ny24 → rvy235 (p + 2 + q) = Ky25 q := hCk
              refine z_aload_n C 0 dX10_fall_66 rfl ?_
              refine z_iconst (z := 0) C dX10_fall_67 rfl ?_
              refine z_iload_n C 1 dX10_fall_68 rfl ?_
              refine z_iload_n C 2 dX10_fall_69 rfl ?_
              refine z_iload_n C 3 dX10_fall_70 rfl ?_
              refine z_aload_n C 0 dX10_fall_71 rfl ?_
              refine z_iconst (z := 0) C dX10_fall_72 rfl ?_
              have hey240 : Fvy235 14 = F 14 := ((hFvy235 14 (by decide) (by decide)).trans (fn rfl (by decide)))
              have hey241 : Fvy235 25 = F 25 := ((hFvy235 25 (by decide) (by decide)).trans (fn rfl (by decide)))
              have hgy242 := (hfvy235 (i + 4) (ne_o (i := i) (c := 4) (d := 0) rfl) (ne_o (i := i) (c := 4) (d := 1) rfl)).trans hgy233
              refine z_cV (As := [.int (zI (0))]) (rest := [.int (zI (z2)), .int (zI (z1)), .int (zI ((n : Int))), .int (zI (0)), .ref (ad i)]) (ci := 12) C (c_uAirOf l D A cs tt N ad _ i hN _ hcvy235 _ hdvy235 _ hgy242 0 (by omega) (by omega) (by omega) (by omega) hai) (lt_A0 hN rfl) hay1 hcvy235 rfl rfl mv_yX10_airOf q_1827 hd_yX10_airOf (by decide) (Nat.le_of_ble_eq_true rfl) (by decide) dX10_fall_73 rfl (kI0 fun vy239 gvy239 hvy239 => ?_)
              obtain ⟨hvy239, rfl⟩ := hvy239
              have hvy2392 : vy239 = air := hvy239.trans ((rAi_F (F := F) (t := W.1 0) (by omega) (by omega) (by omega)).trans hair.symm)
              rw [hvy2392]
              have hnm1 : rvy235 (0 + 1) = W.1 1 := hWk.1 1 (by decide)
              have hnm2 := hok9.2.2.1
              refine z_cV (As := [.int (zI (0)), .int (zI ((n : Int))), .int (zI (z1)), .int (zI (z2)), .int (zI (air))]) (rest := []) (ci := 12) C (c_uDrops l D A cs tt N ad _ i hN _ hcvy235 _ hdvy235 0 n p hp (by omega) (by omega) ny24 Ky25 hnk hCk hOy31 roy26 hrk (by omega) (z1) (by omega) (z2) (by omega) hw12 air (by omega)) (lt_A0 hN rfl) hay1 hcvy235 rfl rfl mv_yX10_drops q_1893 hd_yX10_drops (by decide) (Nat.le_of_ble_eq_true rfl) (by decide) dX10_fall_76 rfl (kV0 fun gvy243 hvy243 => ?_)
              obtain ⟨⟨rvy243, hcvy243, hSvy243, hnvy243, hzvy243⟩, hfvy243⟩ := hvy243
              rw [hnm1] at hSvy243 hnvy243
              rw [hSy27] at hSvy243
              have hwvy243 : isWr rvy243 0 (foW z1 z2 air n W) := hWk.fo hn4 hok9.n12 hp hSvy243 hnvy243 hzvy243
              have hyvy243 : ∀ j, j < 0 ∨ 350 ≤ j → rvy243 j = rvy235 j := fun j a => hzvy243 j (by omega) (by omega)
              have hokd : okWl (x + 1) (50 * x + 50) (foW z1 z2 air n W) := hok9.fo hn4 (by omega) (by omega) hw12 hab9
              have ht0vy243 : (foW z1 z2 air n W).1 0 = W.1 0 := foW_0 z1 z2 air n W
              have hAvy243 : okA rvy243 (x + 1) := okA.first hAvy235 (by omega) (fun j a => hyvy243 j (by omega)) (hwvy243.okW hokd) (by have h9 := hwvy243.1 0 (by decide); rw [Nat.add_zero] at h9; have h8 : (foW z1 z2 air n W).1 0 = W.1 0 := ht0vy243; omega)
              obtain ⟨⟨hsyy244, htyy244, hnyy244, hpyy244⟩, hlyy244⟩ := okA.at0 hAvy243
              simp only [Nat.zero_add] at hsyy244 hnyy244 hpyy244
              have hmn : ∀ s, s < 4 → 0 ≤ rvy243 (6 + 86 * s) ∧ rvy243 (6 + 86 * s) ≤ 12 := fun s hs => (hsyy244 s hs).1
              have h5 : 0 ≤ rvy243 5 ∧ rvy243 5 ≤ 6 := hpyy244
              obtain ⟨⟨n8, K8, ro8⟩, hS8⟩ : ∃ S9 : SL9, S9 = (foW z1 z2 air n W).2 n := ⟨_, rfl⟩
              have hn8 : rvy243 p = (n8 : Int) := by have h9 := (hwvy243.2 n hn4).1; rw [hp, ← hS8] at h9; exact h9
              have hn812 : n8 ≤ 12 := by have h9 := hokd.n12 n hn4; rw [← hS8] at h9; exact h9
              refine z_aload_n C 0 dX10_fall_79 rfl ?_
              refine z_iconst (z := 0) C dX10_fall_80 rfl ?_
              refine z_iload_n C 1 dX10_fall_81 rfl ?_
              have hgy245 := (hfvy243 (i) (ne_o (i := i) (c := 0) (d := 1) rfl)).trans hcvy235
              refine z_cV (As := [.int (zI (0)), .int (zI ((n : Int)))]) (rest := []) (ci := 12) C (c_X10_many l D A cs tt N ad _ i hN _ hgy245 _ hcvy243 0 n p hp (by omega) (by omega)) (lt_A0 hN rfl) hay1 hgy245 rfl rfl mv_yX10_many q_1733 hd_yX10_many (by decide) (Nat.le_of_ble_eq_true rfl) (by decide) dX10_fall_82 rfl (kI0 fun vy246 gvy246 hvy246 => ?_)
              obtain ⟨rfl, rfl⟩ := hvy246
              rw [show rvy243 (p) = (n8 : Int) from hn8]
              have hans9 : (n8 : Int) = (((foW z1 z2 air n W).2 n).1 : Int) := by rw [← hS8]
              have hWf : okWx (x + 1) (foW z1 z2 air n W) := ⟨hokd.mono (Int.le_refl _) (by omega), by have h8 := foW_0 z1 z2 air n W; omega⟩
              have hFy247 : ∀ f, f ≠ 12 → f ≠ 15 → f ≠ 16 → Fvy235 f = F f := fun f n12 n15 n16 => ((hFvy235 f n15 n16).trans ((uZ_n _ _ n12).trans rfl))
              have hey248 : Fvy235 13 = F 13 := ((hFvy235 13 (by decide) (by decide)).trans (fn rfl (by decide)))
              have hey249 : Fvy235 14 = F 14 := ((hFvy235 14 (by decide) (by decide)).trans (fn rfl (by decide)))
              have hey250 : Fvy235 15 = Fvy235 15 := rfl
              have hey251 : Fvy235 16 = Fvy235 16 := rfl
              have hey252 : Fvy235 17 = F 17 := ((hFvy235 17 (by decide) (by decide)).trans (fn rfl (by decide)))
              have hey253 : Fvy235 18 = F 18 := ((hFvy235 18 (by decide) (by decide)).trans (fn rfl (by decide)))
              have hey254 : Fvy235 19 = F 19 := ((hFvy235 19 (by decide) (by decide)).trans (fn rfl (by decide)))
              have hey255 : Fvy235 20 = F 20 := ((hFvy235 20 (by decide) (by decide)).trans (fn rfl (by decide)))
              have hey256 : Fvy235 21 = F 21 := ((hFvy235 21 (by decide) (by decide)).trans (fn rfl (by decide)))
              have hey257 : Fvy235 23 = F 23 := ((hFvy235 23 (by decide) (by decide)).trans (fn rfl (by decide)))
              have hey258 : Fvy235 25 = F 25 := ((hFvy235 25 (by decide) (by decide)).trans (fn rfl (by decide)))
              have hey259 : Fvy235 27 = F 27 := ((hFvy235 27 (by decide) (by decide)).trans (fn rfl (by decide)))
              have hey260 : Fvy235 28 = F 28 := ((hFvy235 28 (by decide) (by decide)).trans (fn rfl (by decide)))
              have hey261 : Fvy235 29 = F 29 := ((hFvy235 29 (by decide) (by decide)).trans (fn rfl (by decide)))
              have hKy262 : okF Fvy235 := by unfold okF; omega
              have hMy263 : okMr cs ad gvy243 i (x + 1) Fvy235 rvy243 st op ai fa mu tb tp := okMr.upd hM hgy245 hKy262 (fun f a => hFy247 f (by omega) (by omega) (by omega)) hcvy243 (hAvy243.mono (by omega)) (fun j a b => by
                  exact Or.inl (by rw [hfvy243 _ (by omega)]; rw [hfvy235 _ (by omega) (by omega)]; rw [egy38, va_up_ne _ _ (by omega)]))
              have hkpy264 : Fvy235 13 = F 13 := ((hFvy235 13 (by decide) (by decide)).trans (fn rfl (by decide)))
              have hkpy265 : Fvy235 14 = F 14 := ((hFvy235 14 (by decide) (by decide)).trans (fn rfl (by decide)))
              have hkpy266 : Fvy235 17 = F 17 := ((hFvy235 17 (by decide) (by decide)).trans (fn rfl (by decide)))
              have hkpy267 : Fvy235 18 = F 18 := ((hFvy235 18 (by decide) (by decide)).trans (fn rfl (by decide)))
              have hkpy268 : Fvy235 19 = F 19 := ((hFvy235 19 (by decide) (by decide)).trans (fn rfl (by decide)))
              have hkpy269 : Fvy235 20 = F 20 := ((hFvy235 20 (by decide) (by decide)).trans (fn rfl (by decide)))
              have hkpy270 : Fvy235 21 = F 21 := ((hFvy235 21 (by decide) (by decide)).trans (fn rfl (by decide)))
              have hkpy271 : Fvy235 23 = F 23 := ((hFvy235 23 (by decide) (by decide)).trans (fn rfl (by decide)))
              have hkpy272 : Fvy235 24 = F 24 := ((hFvy235 24 (by decide) (by decide)).trans (fn rfl (by decide)))
              have hkpy273 : Fvy235 25 = F 25 := ((hFvy235 25 (by decide) (by decide)).trans (fn rfl (by decide)))
              have hkpy274 : Fvy235 26 = F 26 := ((hFvy235 26 (by decide) (by decide)).trans (fn rfl (by decide)))
              have hkpy275 : Fvy235 27 = F 27 := ((hFvy235 27 (by decide) (by decide)).trans (fn rfl (by decide)))
              have hkpy276 : Fvy235 28 = F 28 := ((hFvy235 28 (by decide) (by decide)).trans (fn rfl (by decide)))
              have hkpy277 : Fvy235 29 = F 29 := ((hFvy235 29 (by decide) (by decide)).trans (fn rfl (by decide)))
              have hE9 : falA F ai nsl ((n : Int)) z1 z2 W na H = (((((foW z1 z2 air n W).2 n).1 : Nat) : Int), foW z1 z2 air n W, kpN na, kpH na H W) := by unfold falA; rw [← hair, Int.toNat_natCast]; exact if_pos (by omega)
              rw [hE9]
              have hX9 : okRX Fvy235 rvy243 (x + 1) (foW z1 z2 air n W) (kpN na) (kpH na H W) := hRX.act (by omega) h16 hfj hmj (by omega) (by omega) (fun q hq => (hyvy243 _ (by omega)).trans (hyvy235c q hq)) (fun j a1 a2 => (hyvy243 j (by omega)).trans (hyvy235f j a2)) hwvy243 hWf
              have hgy278 := up_n egy38 hrr (ne_o (i := i) (c := 11) (d := 0) rfl)
              have hgy279 := (hfvy235 (i + 11) (ne_o (i := i) (c := 11) (d := 0) rfl) (ne_o (i := i) (c := 11) (d := 1) rfl)).trans hgy278
              have hgy280 := (hfvy243 (i + 11) (ne_o (i := i) (c := 11) (d := 1) rfl)).trans hgy279
              exact z_iret C hr hlk dX10_fall_85 (by decide) (by decide) ⟨(n8 : Int), rfl, rfl, rfl, by omega, ⟨_, _, hMy263, by omega, hX9, fun j a1 => (hyvy243 j (by omega)).trans (hyvy235f j (by omega))⟩, ⟨_, hgy280, Or.inr ⟨by omega, rfl⟩⟩, fun j j1 => by rw [hfvy243 _ (by omega)]; rw [hfvy235 _ (by omega) (by omega)]; rw [egy38, va_up_ne _ _ (by omega)], fun j j1 j2 j3 => by rw [hfvy243 _ (by omega)]; rw [hfvy235 _ (by omega) (by omega)]; rw [egy38, va_up_ne _ _ (by omega)]⟩
            · refine z_aload_n C 0 dX10_fall_56 rfl ?_
              refine z_iconst (z := 1) C dX10_fall_57 rfl ?_
              have hgy281 := up_n egy38 hrr (ne_o (i := i) (c := 11) (d := 0) rfl)
              refine z_cV (As := [.int (zI (1))]) (rest := []) (ci := 12) C (c_uRefuses l D A cs tt N ad _ i hN _ hgy39 _ hgy281 1 (by omega)) (lt_A0 hN rfl) hay1 hgy39 rfl rfl mv_yX10_refuses q_1866 hd_yX10_refuses (by decide) (Nat.le_of_ble_eq_true rfl) (by decide) dX10_fall_58 rfl (kI0 fun vy282 gvy282 hvy282 => ?_)
              obtain ⟨rfl, hdvy282, hfvy282⟩ := hvy282
              have hgy283 := (hfvy282 (i) (ne_o (i := i) (c := 0) (d := 11) rfl)).trans hgy39
              have hgy284 := (hfvy282 (i + 1) (ne_o (i := i) (c := 1) (d := 11) rfl)).trans hgy229
              have hFy285 : ∀ f, f ≠ 12 → (uZ F 12 (0)) f = F f := fun f n12 => ((uZ_n _ _ n12).trans rfl)
              have hey286 : (uZ F 12 (0)) 13 = F 13 := (fn rfl (by decide))
              have hey287 : (uZ F 12 (0)) 14 = F 14 := (fn rfl (by decide))
              have hey288 : (uZ F 12 (0)) 15 = F 15 := (fn rfl (by decide))
              have hey289 : (uZ F 12 (0)) 16 = F 16 := (fn rfl (by decide))
              have hey290 : (uZ F 12 (0)) 17 = F 17 := (fn rfl (by decide))
              have hey291 : (uZ F 12 (0)) 18 = F 18 := (fn rfl (by decide))
              have hey292 : (uZ F 12 (0)) 19 = F 19 := (fn rfl (by decide))
              have hey293 : (uZ F 12 (0)) 20 = F 20 := (fn rfl (by decide))
              have hey294 : (uZ F 12 (0)) 21 = F 21 := (fn rfl (by decide))
              have hey295 : (uZ F 12 (0)) 23 = F 23 := (fn rfl (by decide))
              have hey296 : (uZ F 12 (0)) 25 = F 25 := (fn rfl (by decide))
              have hey297 : (uZ F 12 (0)) 27 = F 27 := (fn rfl (by decide))
              have hey298 : (uZ F 12 (0)) 28 = F 28 := (fn rfl (by decide))
              have hey299 : (uZ F 12 (0)) 29 = F 29 := (fn rfl (by decide))
              have hKy300 : okF (uZ F 12 (0)) := okF.mv hM.2.1 hey286 hey287 hey288 hey289 hey290 hey291 hey292 hey293 hey294 hey295 hey296 hey297 hey298 hey299
              have hMy301 : okMr cs ad gvy282 i (x + 1) (uZ F 12 (0)) r st op ai fa mu tb tp := okMr.upd hM hgy283 hKy300 (fun f a => hFy285 f (by omega)) hgy284 (hA.mono (by omega)) (fun j a b => by
                  by_cases e0 : j = i + 11
                  · exact Or.inr ⟨11, _, e0, lsP.l (by decide), by rw [e0]; exact hdvy282⟩
                  exact Or.inl (by rw [hfvy282 _ (by omega)]; rw [egy38, va_up_ne _ _ (by omega)]))
              have hkpy302 : (uZ F 12 (0)) 13 = F 13 := (fn rfl (by decide))
              have hkpy303 : (uZ F 12 (0)) 14 = F 14 := (fn rfl (by decide))
              have hkpy304 : (uZ F 12 (0)) 17 = F 17 := (fn rfl (by decide))
              have hkpy305 : (uZ F 12 (0)) 18 = F 18 := (fn rfl (by decide))
              have hkpy306 : (uZ F 12 (0)) 19 = F 19 := (fn rfl (by decide))
              have hkpy307 : (uZ F 12 (0)) 20 = F 20 := (fn rfl (by decide))
              have hkpy308 : (uZ F 12 (0)) 21 = F 21 := (fn rfl (by decide))
              have hkpy309 : (uZ F 12 (0)) 23 = F 23 := (fn rfl (by decide))
              have hkpy310 : (uZ F 12 (0)) 24 = F 24 := (fn rfl (by decide))
              have hkpy311 : (uZ F 12 (0)) 25 = F 25 := (fn rfl (by decide))
              have hkpy312 : (uZ F 12 (0)) 26 = F 26 := (fn rfl (by decide))
              have hkpy313 : (uZ F 12 (0)) 27 = F 27 := (fn rfl (by decide))
              have hkpy314 : (uZ F 12 (0)) 28 = F 28 := (fn rfl (by decide))
              have hkpy315 : (uZ F 12 (0)) 29 = F 29 := (fn rfl (by decide))
              rw [show falA F ai nsl ((n : Int)) z1 z2 W na H = (-1, W, na, H) from by unfold falA; rw [← hair]; exact if_neg (by omega)]
              exact z_iret C hr hlk dX10_fall_61 (by decide) (by decide) ⟨-1, rfl, rfl, rfl, by omega, ⟨_, _, hMy301, by omega, hRX.nx (by omega) (fn rfl (by decide)) (fn rfl (by decide)) (fun j _ => rfl), fun j _ => rfl⟩, ⟨_, hdvy282, Or.inl ⟨by omega, rfl⟩⟩, fun j j1 => by rw [hfvy282 _ (by omega)]; rw [egy38, va_up_ne _ _ (by omega)], fun j j1 j2 j3 => by rw [hfvy282 _ (by omega)]; rw [egy38, va_up_ne _ _ (by omega)]⟩
        · refine z_if_eq (tgt := 56) C dX10_fall_40 (by decide) (by omega) (fun _ => ?_) (fun h => absurd h (by omega))
          refine z_aload_n C 0 dX10_fall_56 rfl ?_
          refine z_iconst (z := 1) C dX10_fall_57 rfl ?_
          have hgy316 := up_n egy38 hrr (ne_o (i := i) (c := 11) (d := 0) rfl)
          refine z_cV (As := [.int (zI (1))]) (rest := []) (ci := 12) C (c_uRefuses l D A cs tt N ad _ i hN _ hgy39 _ hgy316 1 (by omega)) (lt_A0 hN rfl) hay1 hgy39 rfl rfl mv_yX10_refuses q_1866 hd_yX10_refuses (by decide) (Nat.le_of_ble_eq_true rfl) (by decide) dX10_fall_58 rfl (kI0 fun vy317 gvy317 hvy317 => ?_)
          obtain ⟨rfl, hdvy317, hfvy317⟩ := hvy317
          have hgy318 := (hfvy317 (i) (ne_o (i := i) (c := 0) (d := 11) rfl)).trans hgy39
          have hgy319 := up_n egy38 ha1 (ne_o (i := i) (c := 1) (d := 0) rfl)
          have hgy320 := (hfvy317 (i + 1) (ne_o (i := i) (c := 1) (d := 11) rfl)).trans hgy319
          have hFy321 : ∀ f, f ≠ 12 → (uZ F 12 (0)) f = F f := fun f n12 => ((uZ_n _ _ n12).trans rfl)
          have hey322 : (uZ F 12 (0)) 13 = F 13 := (fn rfl (by decide))
          have hey323 : (uZ F 12 (0)) 14 = F 14 := (fn rfl (by decide))
          have hey324 : (uZ F 12 (0)) 15 = F 15 := (fn rfl (by decide))
          have hey325 : (uZ F 12 (0)) 16 = F 16 := (fn rfl (by decide))
          have hey326 : (uZ F 12 (0)) 17 = F 17 := (fn rfl (by decide))
          have hey327 : (uZ F 12 (0)) 18 = F 18 := (fn rfl (by decide))
          have hey328 : (uZ F 12 (0)) 19 = F 19 := (fn rfl (by decide))
          have hey329 : (uZ F 12 (0)) 20 = F 20 := (fn rfl (by decide))
          have hey330 : (uZ F 12 (0)) 21 = F 21 := (fn rfl (by decide))
          have hey331 : (uZ F 12 (0)) 23 = F 23 := (fn rfl (by decide))
          have hey332 : (uZ F 12 (0)) 25 = F 25 := (fn rfl (by decide))
          have hey333 : (uZ F 12 (0)) 27 = F 27 := (fn rfl (by decide))
          have hey334 : (uZ F 12 (0)) 28 = F 28 := (fn rfl (by decide))
          have hey335 : (uZ F 12 (0)) 29 = F 29 := (fn rfl (by decide))
          have hKy336 : okF (uZ F 12 (0)) := okF.mv hM.2.1 hey322 hey323 hey324 hey325 hey326 hey327 hey328 hey329 hey330 hey331 hey332 hey333 hey334 hey335
          have hMy337 : okMr cs ad gvy317 i (x + 1) (uZ F 12 (0)) r st op ai fa mu tb tp := okMr.upd hM hgy318 hKy336 (fun f a => hFy321 f (by omega)) hgy320 (hA.mono (by omega)) (fun j a b => by
              by_cases e0 : j = i + 11
              · exact Or.inr ⟨11, _, e0, lsP.l (by decide), by rw [e0]; exact hdvy317⟩
              exact Or.inl (by rw [hfvy317 _ (by omega)]; rw [egy38, va_up_ne _ _ (by omega)]))
          have hkpy338 : (uZ F 12 (0)) 13 = F 13 := (fn rfl (by decide))
          have hkpy339 : (uZ F 12 (0)) 14 = F 14 := (fn rfl (by decide))
          have hkpy340 : (uZ F 12 (0)) 17 = F 17 := (fn rfl (by decide))
          have hkpy341 : (uZ F 12 (0)) 18 = F 18 := (fn rfl (by decide))
          have hkpy342 : (uZ F 12 (0)) 19 = F 19 := (fn rfl (by decide))
          have hkpy343 : (uZ F 12 (0)) 20 = F 20 := (fn rfl (by decide))
          have hkpy344 : (uZ F 12 (0)) 21 = F 21 := (fn rfl (by decide))
          have hkpy345 : (uZ F 12 (0)) 23 = F 23 := (fn rfl (by decide))
          have hkpy346 : (uZ F 12 (0)) 24 = F 24 := (fn rfl (by decide))
          have hkpy347 : (uZ F 12 (0)) 25 = F 25 := (fn rfl (by decide))
          have hkpy348 : (uZ F 12 (0)) 26 = F 26 := (fn rfl (by decide))
          have hkpy349 : (uZ F 12 (0)) 27 = F 27 := (fn rfl (by decide))
          have hkpy350 : (uZ F 12 (0)) 28 = F 28 := (fn rfl (by decide))
          have hkpy351 : (uZ F 12 (0)) 29 = F 29 := (fn rfl (by decide))
          rw [show falA F ai nsl ((n : Int)) z1 z2 W na H = (-1, W, na, H) from by unfold falA; rw [← hair]; exact if_neg (by omega)]
          exact z_iret C hr hlk dX10_fall_61 (by decide) (by decide) ⟨-1, rfl, rfl, rfl, by omega, ⟨_, _, hMy337, by omega, hRX.nx (by omega) (fn rfl (by decide)) (fn rfl (by decide)) (fun j _ => rfl), fun j _ => rfl⟩, ⟨_, hdvy317, Or.inl ⟨by omega, rfl⟩⟩, fun j j1 => by rw [hfvy317 _ (by omega)]; rw [egy38, va_up_ne _ _ (by omega)], fun j j1 j2 j3 => by rw [hfvy317 _ (by omega)]; rw [egy38, va_up_ne _ _ (by omega)]⟩
    · refine z_if_eq (tgt := 56) C dX10_fall_25 (by decide) (by omega) (fun _ => ?_) (fun h => absurd h (by omega))
      refine z_aload_n C 0 dX10_fall_56 rfl ?_
      refine z_iconst (z := 1) C dX10_fall_57 rfl ?_
      have hgy352 := up_n egy38 hrr (ne_o (i := i) (c := 11) (d := 0) rfl)
      refine z_cV (As := [.int (zI (1))]) (rest := []) (ci := 12) C (c_uRefuses l D A cs tt N ad _ i hN _ hgy39 _ hgy352 1 (by omega)) (lt_A0 hN rfl) hay1 hgy39 rfl rfl mv_yX10_refuses q_1866 hd_yX10_refuses (by decide) (Nat.le_of_ble_eq_true rfl) (by decide) dX10_fall_58 rfl (kI0 fun vy353 gvy353 hvy353 => ?_)
      obtain ⟨rfl, hdvy353, hfvy353⟩ := hvy353
      have hgy354 := (hfvy353 (i) (ne_o (i := i) (c := 0) (d := 11) rfl)).trans hgy39
      have hgy355 := up_n egy38 ha1 (ne_o (i := i) (c := 1) (d := 0) rfl)
      have hgy356 := (hfvy353 (i + 1) (ne_o (i := i) (c := 1) (d := 11) rfl)).trans hgy355
      have hFy357 : ∀ f, f ≠ 12 → (uZ F 12 (0)) f = F f := fun f n12 => ((uZ_n _ _ n12).trans rfl)
      have hey358 : (uZ F 12 (0)) 13 = F 13 := (fn rfl (by decide))
      have hey359 : (uZ F 12 (0)) 14 = F 14 := (fn rfl (by decide))
      have hey360 : (uZ F 12 (0)) 15 = F 15 := (fn rfl (by decide))
      have hey361 : (uZ F 12 (0)) 16 = F 16 := (fn rfl (by decide))
      have hey362 : (uZ F 12 (0)) 17 = F 17 := (fn rfl (by decide))
      have hey363 : (uZ F 12 (0)) 18 = F 18 := (fn rfl (by decide))
      have hey364 : (uZ F 12 (0)) 19 = F 19 := (fn rfl (by decide))
      have hey365 : (uZ F 12 (0)) 20 = F 20 := (fn rfl (by decide))
      have hey366 : (uZ F 12 (0)) 21 = F 21 := (fn rfl (by decide))
      have hey367 : (uZ F 12 (0)) 23 = F 23 := (fn rfl (by decide))
      have hey368 : (uZ F 12 (0)) 25 = F 25 := (fn rfl (by decide))
      have hey369 : (uZ F 12 (0)) 27 = F 27 := (fn rfl (by decide))
      have hey370 : (uZ F 12 (0)) 28 = F 28 := (fn rfl (by decide))
      have hey371 : (uZ F 12 (0)) 29 = F 29 := (fn rfl (by decide))
      have hKy372 : okF (uZ F 12 (0)) := okF.mv hM.2.1 hey358 hey359 hey360 hey361 hey362 hey363 hey364 hey365 hey366 hey367 hey368 hey369 hey370 hey371
      have hMy373 : okMr cs ad gvy353 i (x + 1) (uZ F 12 (0)) r st op ai fa mu tb tp := okMr.upd hM hgy354 hKy372 (fun f a => hFy357 f (by omega)) hgy356 (hA.mono (by omega)) (fun j a b => by
          by_cases e0 : j = i + 11
          · exact Or.inr ⟨11, _, e0, lsP.l (by decide), by rw [e0]; exact hdvy353⟩
          exact Or.inl (by rw [hfvy353 _ (by omega)]; rw [egy38, va_up_ne _ _ (by omega)]))
      have hkpy374 : (uZ F 12 (0)) 13 = F 13 := (fn rfl (by decide))
      have hkpy375 : (uZ F 12 (0)) 14 = F 14 := (fn rfl (by decide))
      have hkpy376 : (uZ F 12 (0)) 17 = F 17 := (fn rfl (by decide))
      have hkpy377 : (uZ F 12 (0)) 18 = F 18 := (fn rfl (by decide))
      have hkpy378 : (uZ F 12 (0)) 19 = F 19 := (fn rfl (by decide))
      have hkpy379 : (uZ F 12 (0)) 20 = F 20 := (fn rfl (by decide))
      have hkpy380 : (uZ F 12 (0)) 21 = F 21 := (fn rfl (by decide))
      have hkpy381 : (uZ F 12 (0)) 23 = F 23 := (fn rfl (by decide))
      have hkpy382 : (uZ F 12 (0)) 24 = F 24 := (fn rfl (by decide))
      have hkpy383 : (uZ F 12 (0)) 25 = F 25 := (fn rfl (by decide))
      have hkpy384 : (uZ F 12 (0)) 26 = F 26 := (fn rfl (by decide))
      have hkpy385 : (uZ F 12 (0)) 27 = F 27 := (fn rfl (by decide))
      have hkpy386 : (uZ F 12 (0)) 28 = F 28 := (fn rfl (by decide))
      have hkpy387 : (uZ F 12 (0)) 29 = F 29 := (fn rfl (by decide))
      rw [show falA F ai nsl ((n : Int)) z1 z2 W na H = (-1, W, na, H) from by unfold falA; rw [← hair]; exact if_neg (by omega)]
      exact z_iret C hr hlk dX10_fall_61 (by decide) (by decide) ⟨-1, rfl, rfl, rfl, by omega, ⟨_, _, hMy373, by omega, hRX.nx (by omega) (fn rfl (by decide)) (fn rfl (by decide)) (fun j _ => rfl), fun j _ => rfl⟩, ⟨_, hdvy353, Or.inl ⟨by omega, rfl⟩⟩, fun j j1 => by rw [hfvy353 _ (by omega)]; rw [egy38, va_up_ne _ _ (by omega)], fun j j1 j2 j3 => by rw [hfvy353 _ (by omega)]; rw [egy38, va_up_ne _ _ (by omega)]⟩
  · refine z_if_eq (tgt := 56) C dX10_fall_16 (by decide) (by omega) (fun _ => ?_) (fun h => absurd h (by omega))
    refine z_aload_n C 0 dX10_fall_56 rfl ?_
    refine z_iconst (z := 1) C dX10_fall_57 rfl ?_
    have hgy388 := up_n egy38 hrr (ne_o (i := i) (c := 11) (d := 0) rfl)
    refine z_cV (As := [.int (zI (1))]) (rest := []) (ci := 12) C (c_uRefuses l D A cs tt N ad _ i hN _ hgy39 _ hgy388 1 (by omega)) (lt_A0 hN rfl) hay1 hgy39 rfl rfl mv_yX10_refuses q_1866 hd_yX10_refuses (by decide) (Nat.le_of_ble_eq_true rfl) (by decide) dX10_fall_58 rfl (kI0 fun vy389 gvy389 hvy389 => ?_)
    obtain ⟨rfl, hdvy389, hfvy389⟩ := hvy389
    have hgy390 := (hfvy389 (i) (ne_o (i := i) (c := 0) (d := 11) rfl)).trans hgy39
    have hgy391 := up_n egy38 ha1 (ne_o (i := i) (c := 1) (d := 0) rfl)
    have hgy392 := (hfvy389 (i + 1) (ne_o (i := i) (c := 1) (d := 11) rfl)).trans hgy391
    have hFy393 : ∀ f, f ≠ 12 → (uZ F 12 (0)) f = F f := fun f n12 => ((uZ_n _ _ n12).trans rfl)
    have hey394 : (uZ F 12 (0)) 13 = F 13 := (fn rfl (by decide))
    have hey395 : (uZ F 12 (0)) 14 = F 14 := (fn rfl (by decide))
    have hey396 : (uZ F 12 (0)) 15 = F 15 := (fn rfl (by decide))
    have hey397 : (uZ F 12 (0)) 16 = F 16 := (fn rfl (by decide))
    have hey398 : (uZ F 12 (0)) 17 = F 17 := (fn rfl (by decide))
    have hey399 : (uZ F 12 (0)) 18 = F 18 := (fn rfl (by decide))
    have hey400 : (uZ F 12 (0)) 19 = F 19 := (fn rfl (by decide))
    have hey401 : (uZ F 12 (0)) 20 = F 20 := (fn rfl (by decide))
    have hey402 : (uZ F 12 (0)) 21 = F 21 := (fn rfl (by decide))
    have hey403 : (uZ F 12 (0)) 23 = F 23 := (fn rfl (by decide))
    have hey404 : (uZ F 12 (0)) 25 = F 25 := (fn rfl (by decide))
    have hey405 : (uZ F 12 (0)) 27 = F 27 := (fn rfl (by decide))
    have hey406 : (uZ F 12 (0)) 28 = F 28 := (fn rfl (by decide))
    have hey407 : (uZ F 12 (0)) 29 = F 29 := (fn rfl (by decide))
    have hKy408 : okF (uZ F 12 (0)) := okF.mv hM.2.1 hey394 hey395 hey396 hey397 hey398 hey399 hey400 hey401 hey402 hey403 hey404 hey405 hey406 hey407
    have hMy409 : okMr cs ad gvy389 i (x + 1) (uZ F 12 (0)) r st op ai fa mu tb tp := okMr.upd hM hgy390 hKy408 (fun f a => hFy393 f (by omega)) hgy392 (hA.mono (by omega)) (fun j a b => by
        by_cases e0 : j = i + 11
        · exact Or.inr ⟨11, _, e0, lsP.l (by decide), by rw [e0]; exact hdvy389⟩
        exact Or.inl (by rw [hfvy389 _ (by omega)]; rw [egy38, va_up_ne _ _ (by omega)]))
    have hkpy410 : (uZ F 12 (0)) 13 = F 13 := (fn rfl (by decide))
    have hkpy411 : (uZ F 12 (0)) 14 = F 14 := (fn rfl (by decide))
    have hkpy412 : (uZ F 12 (0)) 17 = F 17 := (fn rfl (by decide))
    have hkpy413 : (uZ F 12 (0)) 18 = F 18 := (fn rfl (by decide))
    have hkpy414 : (uZ F 12 (0)) 19 = F 19 := (fn rfl (by decide))
    have hkpy415 : (uZ F 12 (0)) 20 = F 20 := (fn rfl (by decide))
    have hkpy416 : (uZ F 12 (0)) 21 = F 21 := (fn rfl (by decide))
    have hkpy417 : (uZ F 12 (0)) 23 = F 23 := (fn rfl (by decide))
    have hkpy418 : (uZ F 12 (0)) 24 = F 24 := (fn rfl (by decide))
    have hkpy419 : (uZ F 12 (0)) 25 = F 25 := (fn rfl (by decide))
    have hkpy420 : (uZ F 12 (0)) 26 = F 26 := (fn rfl (by decide))
    have hkpy421 : (uZ F 12 (0)) 27 = F 27 := (fn rfl (by decide))
    have hkpy422 : (uZ F 12 (0)) 28 = F 28 := (fn rfl (by decide))
    have hkpy423 : (uZ F 12 (0)) 29 = F 29 := (fn rfl (by decide))
    rw [show falA F ai nsl ((n : Int)) z1 z2 W na H = (-1, W, na, H) from by unfold falA; rw [← hair]; exact if_neg (by omega)]
    exact z_iret C hr hlk dX10_fall_61 (by decide) (by decide) ⟨-1, rfl, rfl, rfl, by omega, ⟨_, _, hMy409, by omega, hRX.nx (by omega) (fn rfl (by decide)) (fn rfl (by decide)) (fun j _ => rfl), fun j _ => rfl⟩, ⟨_, hdvy389, Or.inl ⟨by omega, rfl⟩⟩, fun j j1 => by rw [hfvy389 _ (by omega)]; rw [egy38, va_up_ne _ _ (by omega)], fun j j1 j2 j3 => by rw [hfvy389 _ (by omega)]; rw [egy38, va_up_ne _ _ (by omega)]⟩

set_option maxRecDepth 100000 in
set_option maxHeartbeats 4000000 in
theorem c_vFall_b (l : Launch) (D : va_G) (A : Nat → Prop) (cs : Nat → ClassId) (tt : Nat) (N : Nat) (ad : Nat → Nat) (g : Nat → va_E) (i : Nat) (hN : i + 30 ≤ N) (x : Int) (hx : 0 ≤ x ∧ x ≤ 512) (F r : Nat → Int) {st op ai fa mu tb tp : Nat → Int} (hM : okMr cs ad g i x F r st op ai fa mu tb tp) (hfr : okFr F op ai fa mu tb) (nsl : Nat) (hnsl : F 13 = (nsl : Int)) (W : WL9) (na : Nat) (H : Nat → WL9) (hRX : okRX F r x W na H) (rr : Nat → Int) (hrr : g (i + 11) = iA cs 6 rr) (z : Int) (hz : -2147483648 ≤ z ∧ z ≤ 2147483647) (hzo : z < 0 ∨ 3 < z) (z1 : Int) (hz1 : -2147483648 ≤ z1 ∧ z1 ≤ 2147483647) (z2 : Int) (hz2 : -2147483648 ≤ z2 ∧ z2 ≤ 2147483647) : zM l yX10_fall cX10_fall 4 (some .int) ({ frames := 6, cells := 0, slots := 0, locals := 360 } : Room) D A cs tt N ad g [.ref (ad i), .int (zI (z)), .int (zI (z1)), .int (zI (z2))] (rI0 N ad fun q g' => q = (falA F ai nsl (z) z1 z2 W na H).1 ∧ (∃ F' r' : Nat → Int, okMr cs ad g' i (x + 1) F' r' st op ai fa mu tb tp ∧ (F' 13 = F 13 ∧ F' 14 = F 14 ∧ F' 17 = F 17 ∧ F' 18 = F 18 ∧ F' 19 = F 19 ∧ F' 20 = F 20 ∧ F' 21 = F 21 ∧ F' 23 = F 23 ∧ F' 24 = F 24 ∧ F' 25 = F 25 ∧ F' 26 = F 26 ∧ F' 27 = F 27 ∧ F' 28 = F 28 ∧ F' 29 = F 29) ∧ okRX F' r' (x + 1) (falA F ai nsl (z) z1 z2 W na H).2.1 (falA F ai nsl (z) z1 z2 W na H).2.2.1 (falA F ai nsl (z) z1 z2 W na H).2.2.2 ∧ ∀ j, 14700 ≤ j → r' j = r j) ∧ (∃ rr' : Nat → Int, g' (i + 11) = iA cs 6 rr' ∧ ((q = -1 ∧ rr' = uZ rr 1 (rr 1 + 1)) ∨ (q ≠ -1 ∧ rr' = rr))) ∧ (∀ j, j < i ∨ i + 30 ≤ j → g' j = g j) ∧ ∀ j, i + 8 ≤ j → j ≤ i + 12 → j ≠ i + 11 → g' j = g j) := by
  obtain ⟨hg, ⟨⟨e13, e14, e25, e27, e29⟩, k15, k16, k17, k18, k19, k20, k23, k21⟩, hRD, hTx, hA, ns, nh, nd, rf, pi, te, ki, li, ok1, ok2, fo, dd, dps, ⟨ha1, ha2, ha3, ha4, ha5, ha6, ha7, ha8, ha9, ha10, ha11, ha12, ha13, ha14, ha15, ha24, ha25, ha26, ha27, ha28, ha29⟩, hEv, hPt, hns, htp⟩ := id hM
  obtain ⟨-, hop, hai, hfa, hT, hT1⟩ := id hEv
  have hay1 : zAt ad (i) (ad i) := rfl
  have hay2 : zAt ad (i + 1) (ad (i + 1)) := rfl
  have hay3 : zAt ad (i + 2) (ad (i + 2)) := rfl
  have hay4 : zAt ad (i + 3) (ad (i + 3)) := rfl
  have hay5 : zAt ad (i + 4) (ad (i + 4)) := rfl
  have hay6 : zAt ad (i + 5) (ad (i + 5)) := rfl
  have hay7 : zAt ad (i + 6) (ad (i + 6)) := rfl
  have hay8 : zAt ad (i + 7) (ad (i + 7)) := rfl
  have hay9 : zAt ad (i + 8) (ad (i + 8)) := rfl
  have hay10 : zAt ad (i + 9) (ad (i + 9)) := rfl
  have hay11 : zAt ad (i + 10) (ad (i + 10)) := rfl
  have hay12 : zAt ad (i + 11) (ad (i + 11)) := rfl
  have hay13 : zAt ad (i + 12) (ad (i + 12)) := rfl
  have hay14 : zAt ad (i + 13) (ad (i + 13)) := rfl
  have hay15 : zAt ad (i + 14) (ad (i + 14)) := rfl
  have hay16 : zAt ad (i + 15) (ad (i + 15)) := rfl
  have hay17 : zAt ad (i + 24) (ad (i + 24)) := rfl
  have hay18 : zAt ad (i + 25) (ad (i + 25)) := rfl
  have hay19 : zAt ad (i + 26) (ad (i + 26)) := rfl
  have hay20 : zAt ad (i + 27) (ad (i + 27)) := rfl
  have hay21 : zAt ad (i + 28) (ad (i + 28)) := rfl
  have hay22 : zAt ad (i + 29) (ad (i + 29)) := rfl
  obtain ⟨⟨hsyy23, htyy23, hnyy23, hpyy23⟩, hlyy23⟩ := okA.at0 hA
  simp only [Nat.zero_add] at hsyy23 hnyy23 hpyy23
  have hmn : ∀ s, s < 4 → 0 ≤ r (6 + 86 * s) ∧ r (6 + 86 * s) ≤ 12 := fun s hs => (hsyy23 s hs).1
  have h5 : 0 ≤ r 5 ∧ r 5 ≤ 6 := hpyy23
  obtain ⟨⟨hW, hwx⟩, ⟨fi, ⟨h15, h16⟩, ⟨hna, hfi⟩, hxh⟩, hHx⟩ := id hRX
  have hok9 := hwx.1
  have hW0 : r 0 = W.1 0 := hW.1 0 (by decide)
  have ht9 := hwx.2
  have ht8 := hok9.2.1
  refine z_of (by decide) (Nat.le_of_ble_eq_true rfl) ?_
  intro pY eY sY mY below meth cY C hr hlk hnm
  refine z_lv (lv' := [(0, .ref (ad i)), (1, .int (zI (z))), (2, .int (zI (z1))), (3, .int (zI (z2)))]) [0, 1, 2, 3] rfl ?_
  refine z_aload_n C 0 dX10_fall_0 rfl ?_
  refine z_iconst (z := 0) C dX10_fall_1 rfl ?_
  refine z_put (fs' := mF ad (i) (uZ F 12 (0))) C (lt_A0 hN rfl) hay1 hg tyX10 tyX10_ok nmX10 rfl inA_X10 12 (by decide) q_1471 rfl rfl rfl rfl (Nat.le_of_ble_eq_true rfl) rfl dX10_fall_2 (fun gy24 egy25 => ?_)
  have hgy26 := up_s egy25
  refine z_iload_n C 1 dX10_fall_5 rfl ?_
  refine z_iconst (z := 0) C dX10_fall_6 rfl ?_
  refine z_aload_n C 0 dX10_fall_7 rfl ?_
  refine z_get (v := .int (zI (F 13))) C (lt_A0 hN rfl) hay1 hgy26 rfl inA_X10 13 (by decide) q_1472 rfl (fv (F := (uZ F 12 (0))) (f := 13) (fn rfl (by decide))) dX10_fall_8 ?_
  refine z_iconst (z := 1) C dX10_fall_11 rfl ?_
  refine z_isub C dX10_fall_12 ?_
  refine z_cS (As := [.int (zI (z)), .int (zI (0)), .int (zI ((F 13) - 1))]) (rest := []) C (c_X10_within l D A cs tt N ad _ (z) (by omega) (0) (by omega) ((F 13) - 1) (by omega)) ms_yX10_within q_1686 hd_yX10_within (by decide) (Nat.le_of_ble_eq_true rfl) (by decide) dX10_fall_13 rfl (kI0 fun vy27 gvy27 hvy27 => ?_)
  obtain ⟨hvy27, rfl⟩ := hvy27
  obtain rfl : vy27 = 0 := by omega
  refine z_if_eq (tgt := 56) C dX10_fall_16 (by decide) (by omega) (fun _ => ?_) (fun h => absurd h (by omega))
  refine z_aload_n C 0 dX10_fall_56 rfl ?_
  refine z_iconst (z := 1) C dX10_fall_57 rfl ?_
  have hgy28 := up_n egy25 hrr (ne_o (i := i) (c := 11) (d := 0) rfl)
  refine z_cV (As := [.int (zI (1))]) (rest := []) (ci := 12) C (c_uRefuses l D A cs tt N ad _ i hN _ hgy26 _ hgy28 1 (by omega)) (lt_A0 hN rfl) hay1 hgy26 rfl rfl mv_yX10_refuses q_1866 hd_yX10_refuses (by decide) (Nat.le_of_ble_eq_true rfl) (by decide) dX10_fall_58 rfl (kI0 fun vy29 gvy29 hvy29 => ?_)
  obtain ⟨rfl, hdvy29, hfvy29⟩ := hvy29
  have hgy30 := (hfvy29 (i) (ne_o (i := i) (c := 0) (d := 11) rfl)).trans hgy26
  have hgy31 := up_n egy25 ha1 (ne_o (i := i) (c := 1) (d := 0) rfl)
  have hgy32 := (hfvy29 (i + 1) (ne_o (i := i) (c := 1) (d := 11) rfl)).trans hgy31
  have hFy33 : ∀ f, f ≠ 12 → (uZ F 12 (0)) f = F f := fun f n12 => ((uZ_n _ _ n12).trans rfl)
  have hey34 : (uZ F 12 (0)) 13 = F 13 := (fn rfl (by decide))
  have hey35 : (uZ F 12 (0)) 14 = F 14 := (fn rfl (by decide))
  have hey36 : (uZ F 12 (0)) 15 = F 15 := (fn rfl (by decide))
  have hey37 : (uZ F 12 (0)) 16 = F 16 := (fn rfl (by decide))
  have hey38 : (uZ F 12 (0)) 17 = F 17 := (fn rfl (by decide))
  have hey39 : (uZ F 12 (0)) 18 = F 18 := (fn rfl (by decide))
  have hey40 : (uZ F 12 (0)) 19 = F 19 := (fn rfl (by decide))
  have hey41 : (uZ F 12 (0)) 20 = F 20 := (fn rfl (by decide))
  have hey42 : (uZ F 12 (0)) 21 = F 21 := (fn rfl (by decide))
  have hey43 : (uZ F 12 (0)) 23 = F 23 := (fn rfl (by decide))
  have hey44 : (uZ F 12 (0)) 25 = F 25 := (fn rfl (by decide))
  have hey45 : (uZ F 12 (0)) 27 = F 27 := (fn rfl (by decide))
  have hey46 : (uZ F 12 (0)) 28 = F 28 := (fn rfl (by decide))
  have hey47 : (uZ F 12 (0)) 29 = F 29 := (fn rfl (by decide))
  have hKy48 : okF (uZ F 12 (0)) := okF.mv hM.2.1 hey34 hey35 hey36 hey37 hey38 hey39 hey40 hey41 hey42 hey43 hey44 hey45 hey46 hey47
  have hMy49 : okMr cs ad gvy29 i (x + 1) (uZ F 12 (0)) r st op ai fa mu tb tp := okMr.upd hM hgy30 hKy48 (fun f a => hFy33 f (by omega)) hgy32 (hA.mono (by omega)) (fun j a b => by
      by_cases e0 : j = i + 11
      · exact Or.inr ⟨11, _, e0, lsP.l (by decide), by rw [e0]; exact hdvy29⟩
      exact Or.inl (by rw [hfvy29 _ (by omega)]; rw [egy25, va_up_ne _ _ (by omega)]))
  have hkpy50 : (uZ F 12 (0)) 13 = F 13 := (fn rfl (by decide))
  have hkpy51 : (uZ F 12 (0)) 14 = F 14 := (fn rfl (by decide))
  have hkpy52 : (uZ F 12 (0)) 17 = F 17 := (fn rfl (by decide))
  have hkpy53 : (uZ F 12 (0)) 18 = F 18 := (fn rfl (by decide))
  have hkpy54 : (uZ F 12 (0)) 19 = F 19 := (fn rfl (by decide))
  have hkpy55 : (uZ F 12 (0)) 20 = F 20 := (fn rfl (by decide))
  have hkpy56 : (uZ F 12 (0)) 21 = F 21 := (fn rfl (by decide))
  have hkpy57 : (uZ F 12 (0)) 23 = F 23 := (fn rfl (by decide))
  have hkpy58 : (uZ F 12 (0)) 24 = F 24 := (fn rfl (by decide))
  have hkpy59 : (uZ F 12 (0)) 25 = F 25 := (fn rfl (by decide))
  have hkpy60 : (uZ F 12 (0)) 26 = F 26 := (fn rfl (by decide))
  have hkpy61 : (uZ F 12 (0)) 27 = F 27 := (fn rfl (by decide))
  have hkpy62 : (uZ F 12 (0)) 28 = F 28 := (fn rfl (by decide))
  have hkpy63 : (uZ F 12 (0)) 29 = F 29 := (fn rfl (by decide))
  rw [show falA F ai nsl (z) z1 z2 W na H = (-1, W, na, H) from if_neg (by omega)]
  exact z_iret C hr hlk dX10_fall_61 (by decide) (by decide) ⟨-1, rfl, rfl, rfl, by omega, ⟨_, _, hMy49, by omega, hRX.nx (by omega) (fn rfl (by decide)) (fn rfl (by decide)) (fun j _ => rfl), fun j _ => rfl⟩, ⟨_, hdvy29, Or.inl ⟨by omega, rfl⟩⟩, fun j j1 => by rw [hfvy29 _ (by omega)]; rw [egy25, va_up_ne _ _ (by omega)], fun j j1 j2 j3 => by rw [hfvy29 _ (by omega)]; rw [egy25, va_up_ne _ _ (by omega)]⟩

set_option maxRecDepth 100000 in
set_option maxHeartbeats 4000000 in
theorem c_vFall (l : Launch) (D : va_G) (A : Nat → Prop) (cs : Nat → ClassId) (tt : Nat) (N : Nat) (ad : Nat → Nat) (g : Nat → va_E) (i : Nat) (hN : i + 30 ≤ N) (x : Int) (hx : 0 ≤ x ∧ x ≤ 512) (F r : Nat → Int) {st op ai fa mu tb tp : Nat → Int} (hM : okMr cs ad g i x F r st op ai fa mu tb tp) (hfr : okFr F op ai fa mu tb) (nsl : Nat) (hnsl : F 13 = (nsl : Int)) (W : WL9) (na : Nat) (H : Nat → WL9) (hRX : okRX F r x W na H) (rr : Nat → Int) (hrr : g (i + 11) = iA cs 6 rr) (z : Int) (hz : -2147483648 ≤ z ∧ z ≤ 2147483647) (z1 : Int) (hz1 : -2147483648 ≤ z1 ∧ z1 ≤ 2147483647) (z2 : Int) (hz2 : -2147483648 ≤ z2 ∧ z2 ≤ 2147483647) : zM l yX10_fall cX10_fall 4 (some .int) ({ frames := 6, cells := 0, slots := 0, locals := 360 } : Room) D A cs tt N ad g [.ref (ad i), .int (zI (z)), .int (zI (z1)), .int (zI (z2))] (rI0 N ad fun q g' => q = (falA F ai nsl (z) z1 z2 W na H).1 ∧ (∃ F' r' : Nat → Int, okMr cs ad g' i (x + 1) F' r' st op ai fa mu tb tp ∧ (F' 13 = F 13 ∧ F' 14 = F 14 ∧ F' 17 = F 17 ∧ F' 18 = F 18 ∧ F' 19 = F 19 ∧ F' 20 = F 20 ∧ F' 21 = F 21 ∧ F' 23 = F 23 ∧ F' 24 = F 24 ∧ F' 25 = F 25 ∧ F' 26 = F 26 ∧ F' 27 = F 27 ∧ F' 28 = F 28 ∧ F' 29 = F 29) ∧ okRX F' r' (x + 1) (falA F ai nsl (z) z1 z2 W na H).2.1 (falA F ai nsl (z) z1 z2 W na H).2.2.1 (falA F ai nsl (z) z1 z2 W na H).2.2.2 ∧ ∀ j, 14700 ≤ j → r' j = r j) ∧ (∃ rr' : Nat → Int, g' (i + 11) = iA cs 6 rr' ∧ ((q = -1 ∧ rr' = uZ rr 1 (rr 1 + 1)) ∨ (q ≠ -1 ∧ rr' = rr))) ∧ (∀ j, j < i ∨ i + 30 ≤ j → g' j = g j) ∧ ∀ j, i + 8 ≤ j → j ≤ i + 12 → j ≠ i + 11 → g' j = g j) := by
  by_cases h9 : 0 ≤ z ∧ z ≤ 3
  · obtain ⟨n, rfl⟩ : ∃ n : Nat, z = (n : Int) := ⟨z.toNat, by omega⟩
    exact c_vFall_a l D A cs tt N ad g i hN x hx F r hM hfr nsl hnsl W na H hRX rr hrr  n (by omega) z1 hz1 z2 hz2
  · exact c_vFall_b l D A cs tt N ad g i hN x hx F r hM hfr nsl hnsl W na H hRX rr hrr  z hz (by omega) z1 hz1 z2 hz2
end
section
-- 9lu.words.lean.txt
-- words of qa
theorem q_408 : (Jvm.Cond.methodLink "SnowRecorder" (255 : Nat) ({ cls := "SnowRecorder", name := "refuse", desc := "(I)I" } : Jvm.MethodName)) ∈ AW := AW_m2 168 (by decide +kernel) (by decide +kernel)
theorem q_410 : (Jvm.Cond.instanceMethod ({ cls := "SnowRecorder", name := "refuse", desc := "(I)I" } : Jvm.MethodName)) ∈ AW := AW_m2 170 (by decide +kernel) (by decide +kernel)
theorem q_411 : (Jvm.Cond.code ({ cls := "SnowRecorder", name := "refuse", desc := "(I)I" } : Jvm.MethodName) prog_1_method_36_code (2 : Nat) (Option.some Jvm.ClassFile.FieldType.int)) ∈ AW := AW_m2 171 (by decide +kernel) (by decide +kernel)
theorem q_412 : (Jvm.Cond.methodLink "SnowRecorder" (258 : Nat) ({ cls := "SnowRecorder$State", name := "keepAct", desc := "()V" } : Jvm.MethodName)) ∈ AW := AW_m2 172 (by decide +kernel) (by decide +kernel)
theorem q_413 : (Jvm.Cond.instanceMethod ({ cls := "SnowRecorder$State", name := "keepAct", desc := "()V" } : Jvm.MethodName)) ∈ AW := AW_m2 173 (by decide +kernel) (by decide +kernel)
theorem q_414 : (Jvm.Cond.selects "SnowRecorder$State" ({ cls := "SnowRecorder$State", name := "keepAct", desc := "()V" } : Jvm.MethodName) ({ cls := "SnowRecorder$State", name := "keepAct", desc := "()V" } : Jvm.MethodName)) ∈ AW := AW_m2 174 (by decide +kernel) (by decide +kernel)
theorem q_415 : (Jvm.Cond.code ({ cls := "SnowRecorder$State", name := "keepAct", desc := "()V" } : Jvm.MethodName) prog_8_method_4_code (1 : Nat) (Option.none : Option Jvm.ClassFile.FieldType)) ∈ AW := AW_m2 175 (by decide +kernel) (by decide +kernel)
theorem q_611 : (Jvm.Cond.methodLink "SnowRecorder" (297 : Nat) ({ cls := "SnowRecorder$State", name := "takeBack", desc := "()V" } : Jvm.MethodName)) ∈ AW := AW_m3 131 (by decide +kernel) (by decide +kernel)
theorem q_612 : (Jvm.Cond.instanceMethod ({ cls := "SnowRecorder$State", name := "takeBack", desc := "()V" } : Jvm.MethodName)) ∈ AW := AW_m3 132 (by decide +kernel) (by decide +kernel)
theorem q_613 : (Jvm.Cond.selects "SnowRecorder$State" ({ cls := "SnowRecorder$State", name := "takeBack", desc := "()V" } : Jvm.MethodName) ({ cls := "SnowRecorder$State", name := "takeBack", desc := "()V" } : Jvm.MethodName)) ∈ AW := AW_m3 133 (by decide +kernel) (by decide +kernel)
theorem q_614 : (Jvm.Cond.code ({ cls := "SnowRecorder$State", name := "takeBack", desc := "()V" } : Jvm.MethodName) prog_8_method_6_code (1 : Nat) (Option.none : Option Jvm.ClassFile.FieldType)) ∈ AW := AW_m3 134 (by decide +kernel) (by decide +kernel)
theorem s_1 : Cond.selects "SnowRecorder" ({ cls := "SnowRecorder", name := "refuse", desc := "(I)I" } : Jvm.MethodName) ({ cls := "SnowRecorder", name := "refuse", desc := "(I)I" } : Jvm.MethodName) ∈ AW := AW_m 1 (by decide +kernel) (by decide +kernel)
theorem hd_yX9_refuse : yX9_refuse.cls ≠ "java/lang/invoke/MethodHandle" ∧ yX9_refuse.cls ≠ "java/lang/invoke/VarHandle" ∧ (parseMethodDescriptor yX9_refuse.desc).map (fun d => d.parameters.length) = some 1 := by decide +kernel
theorem hd_yX6_keepAct : yX6_keepAct.cls ≠ "java/lang/invoke/MethodHandle" ∧ yX6_keepAct.cls ≠ "java/lang/invoke/VarHandle" ∧ (parseMethodDescriptor yX6_keepAct.desc).map (fun d => d.parameters.length) = some 0 := by decide +kernel
theorem hd_yX6_takeBack : yX6_takeBack.cls ≠ "java/lang/invoke/MethodHandle" ∧ yX6_takeBack.cls ≠ "java/lang/invoke/VarHandle" ∧ (parseMethodDescriptor yX6_takeBack.desc).map (fun d => d.parameters.length) = some 0 := by decide +kernel
theorem mv_yX9_refuse : zWv yX9_refuse cX9_refuse 2 (some .int) := ⟨q_410, s_1, q_1, q_411⟩
theorem mv_yX6_keepAct : zWv yX6_keepAct cX6_keepAct 1 none := ⟨q_413, q_414, q_4, q_415⟩
theorem mv_yX6_takeBack : zWv yX6_takeBack cX6_takeBack 1 none := ⟨q_612, q_613, q_4, q_614⟩
end
section
-- 9lv.dec.lean.txt
-- decode rows of qa
theorem dX9_refuse_0 : decode cX9_refuse 0 = .ok (.aload_n 0, 1) := by decide +kernel
theorem dX9_refuse_1 : decode cX9_refuse 1 = .ok (.getfield 37, 3) := by decide +kernel
theorem dX9_refuse_4 : decode cX9_refuse 4 = .ok (.getfield 100, 3) := by decide +kernel
theorem dX9_refuse_7 : decode cX9_refuse 7 = .ok (.iload_n 1, 1) := by decide +kernel
theorem dX9_refuse_8 : decode cX9_refuse 8 = .ok (.dup2, 1) := by decide +kernel
theorem dX9_refuse_9 : decode cX9_refuse 9 = .ok (.iaload, 1) := by decide +kernel
theorem dX9_refuse_10 : decode cX9_refuse 10 = .ok (.iconst 1, 1) := by decide +kernel
theorem dX9_refuse_11 : decode cX9_refuse 11 = .ok (.iadd, 1) := by decide +kernel
theorem dX9_refuse_12 : decode cX9_refuse 12 = .ok (.iastore, 1) := by decide +kernel
theorem dX9_refuse_13 : decode cX9_refuse 13 = .ok (.iconst (-1), 1) := by decide +kernel
theorem dX9_refuse_14 : decode cX9_refuse 14 = .ok (.ireturn, 1) := by decide +kernel
theorem dX9_hours_0 : decode cX9_hours 0 = .ok (.iload_n 1, 1) := by decide +kernel
theorem dX9_hours_1 : decode cX9_hours 1 = .ok (.iconst 1, 1) := by decide +kernel
theorem dX9_hours_2 : decode cX9_hours 2 = .ok (.if_icmp .lt 27, 3) := by decide +kernel
theorem dX9_hours_29 : decode cX9_hours 29 = .ok (.aload_n 0, 1) := by decide +kernel
theorem dX9_hours_30 : decode cX9_hours 30 = .ok (.iconst 1, 1) := by decide +kernel
theorem dX9_hours_31 : decode cX9_hours 31 = .ok (.invokevirtual 255, 3) := by decide +kernel
theorem dX9_hours_34 : decode cX9_hours 34 = .ok (.ireturn, 1) := by decide +kernel
theorem dX9_hours_5 : decode cX9_hours 5 = .ok (.iload_n 1, 1) := by decide +kernel
theorem dX9_hours_6 : decode cX9_hours 6 = .ok (.bipush 24, 2) := by decide +kernel
theorem dX9_hours_8 : decode cX9_hours 8 = .ok (.if_icmp .gt 21, 3) := by decide +kernel
theorem dX9_hours_11 : decode cX9_hours 11 = .ok (.aload_n 0, 1) := by decide +kernel
theorem dX9_hours_12 : decode cX9_hours 12 = .ok (.getfield 37, 3) := by decide +kernel
theorem dX9_hours_15 : decode cX9_hours 15 = .ok (.getfield 112, 3) := by decide +kernel
theorem dX9_hours_18 : decode cX9_hours 18 = .ok (.getfield 121, 3) := by decide +kernel
theorem dX9_hours_21 : decode cX9_hours 21 = .ok (.iload_n 1, 1) := by decide +kernel
theorem dX9_hours_22 : decode cX9_hours 22 = .ok (.iadd, 1) := by decide +kernel
theorem dX9_hours_23 : decode cX9_hours 23 = .ok (.sipush 2000, 3) := by decide +kernel
theorem dX9_hours_26 : decode cX9_hours 26 = .ok (.if_icmp .le 9, 3) := by decide +kernel
theorem dX9_hours_35 : decode cX9_hours 35 = .ok (.aload_n 0, 1) := by decide +kernel
theorem dX9_hours_36 : decode cX9_hours 36 = .ok (.getfield 37, 3) := by decide +kernel
theorem dX9_hours_39 : decode cX9_hours 39 = .ok (.invokevirtual 258, 3) := by decide +kernel
theorem dX9_hours_42 : decode cX9_hours 42 = .ok (.iconst 0, 1) := by decide +kernel
theorem dX9_hours_43 : decode cX9_hours 43 = .ok (.istore_n 2, 1) := by decide +kernel
theorem dX9_hours_44 : decode cX9_hours 44 = .ok (.iload_n 2, 1) := by decide +kernel
theorem dX9_hours_45 : decode cX9_hours 45 = .ok (.iload_n 1, 1) := by decide +kernel
theorem dX9_hours_46 : decode cX9_hours 46 = .ok (.if_icmp .ge 31, 3) := by decide +kernel
theorem dX9_hours_77 : decode cX9_hours 77 = .ok (.aload_n 0, 1) := by decide +kernel
theorem dX9_hours_78 : decode cX9_hours 78 = .ok (.getfield 37, 3) := by decide +kernel
theorem dX9_hours_81 : decode cX9_hours 81 = .ok (.getfield 112, 3) := by decide +kernel
theorem dX9_hours_84 : decode cX9_hours 84 = .ok (.getfield 121, 3) := by decide +kernel
theorem dX9_hours_87 : decode cX9_hours 87 = .ok (.ireturn, 1) := by decide +kernel
theorem dX9_hours_49 : decode cX9_hours 49 = .ok (.aload_n 0, 1) := by decide +kernel
theorem dX9_hours_50 : decode cX9_hours 50 = .ok (.getfield 37, 3) := by decide +kernel
theorem dX9_hours_53 : decode cX9_hours 53 = .ok (.getfield 112, 3) := by decide +kernel
theorem dX9_hours_56 : decode cX9_hours 56 = .ok (.aload_n 0, 1) := by decide +kernel
theorem dX9_hours_57 : decode cX9_hours 57 = .ok (.getfield 30, 3) := by decide +kernel
theorem dX9_hours_60 : decode cX9_hours 60 = .ok (.aload_n 0, 1) := by decide +kernel
theorem dX9_hours_61 : decode cX9_hours 61 = .ok (.getfield 30, 3) := by decide +kernel
theorem dX9_hours_64 : decode cX9_hours 64 = .ok (.invokevirtual 261, 3) := by decide +kernel
theorem dX9_hours_67 : decode cX9_hours 67 = .ok (.iconst 1, 1) := by decide +kernel
theorem dX9_hours_68 : decode cX9_hours 68 = .ok (.invokevirtual 264, 3) := by decide +kernel
theorem dX9_hours_71 : decode cX9_hours 71 = .ok (.iinc 2 1, 3) := by decide +kernel
theorem dX9_hours_74 : decode cX9_hours 74 = .ok (.goto (-30), 3) := by decide +kernel
theorem dX9_undo_0 : decode cX9_undo 0 = .ok (.aload_n 0, 1) := by decide +kernel
theorem dX9_undo_1 : decode cX9_undo 1 = .ok (.getfield 37, 3) := by decide +kernel
theorem dX9_undo_4 : decode cX9_undo 4 = .ok (.getfield 153, 3) := by decide +kernel
theorem dX9_undo_7 : decode cX9_undo 7 = .ok (.ifCond .ne 5, 3) := by decide +kernel
theorem dX9_undo_12 : decode cX9_undo 12 = .ok (.aload_n 0, 1) := by decide +kernel
theorem dX9_undo_13 : decode cX9_undo 13 = .ok (.getfield 37, 3) := by decide +kernel
theorem dX9_undo_16 : decode cX9_undo 16 = .ok (.invokevirtual 297, 3) := by decide +kernel
theorem dX9_undo_19 : decode cX9_undo 19 = .ok (.aload_n 0, 1) := by decide +kernel
theorem dX9_undo_20 : decode cX9_undo 20 = .ok (.getfield 37, 3) := by decide +kernel
theorem dX9_undo_23 : decode cX9_undo 23 = .ok (.getfield 153, 3) := by decide +kernel
theorem dX9_undo_26 : decode cX9_undo 26 = .ok (.ireturn, 1) := by decide +kernel
theorem dX9_undo_10 : decode cX9_undo 10 = .ok (.iconst (-1), 1) := by decide +kernel
theorem dX9_undo_11 : decode cX9_undo 11 = .ok (.ireturn, 1) := by decide +kernel
end
section
-- 9lw.qa.lean.txt
/-- all SLOPES, as bits -/
def aZ (n : Nat) : Nat := 2 ^ n - 1
theorem sh_all {n : Nat} {x : Int} (hn : n ≤ 4) (h : zI 1 <<< (zI (n : Int) &&& 31) = zI x) (hx : -2147483648 ≤ x ∧ x ≤ 2147483647) : x = (aZ n : Int) + 1 := by
  have e4 := congrArg Int32.toInt h
  rw [zI_to (by omega)] at e4
  rw [← e4]
  rcases (show n = 0 ∨ n = 1 ∨ n = 2 ∨ n = 3 ∨ n = 4 by omega) with rfl | rfl | rfl | rfl | rfl <;> decide
theorem aZ_lt {n : Nat} (hn : n ≤ 4) : aZ n < 16 := by
  rcases (show n = 0 ∨ n = 1 ∨ n = 2 ∨ n = 3 ∨ n = 4 by omega) with rfl | rfl | rfl | rfl | rfl <;> decide
theorem aZ_bit {n k : Nat} (hn : n ≤ 4) (hk : k < n) : aZ n / 2 ^ k % 2 = 1 := by
  have h : ∀ n, n < 5 → ∀ k, k < n → aZ n / 2 ^ k % 2 = 1 := by decide
  exact h n (by omega) k hk
theorem ho_all {tb op : Nat → Int} {air what much : Int} {n : Nat} {W : WL9} (hn : n ≤ 4) : hoW tb op air what much (aZ n) n W = hoW tb op air what much 15 n W := by
  have h : ∀ k, k ≤ n → hoS tb op air what much (aZ n) k W = hoS tb op air what much 15 k W := by
    intro k
    induction k with
    | zero => exact fun _ => rfl
    | succ k ih =>
      intro hk
      show (if aZ n / 2 ^ k % 2 = 1 then hoU tb op air what much k (hoS tb op air what much (aZ n) k W) else hoS tb op air what much (aZ n) k W) = (if 15 / 2 ^ k % 2 = 1 then hoU tb op air what much k (hoS tb op air what much 15 k W) else hoS tb op air what much 15 k W)
      rw [if_pos (aZ_bit hn hk), if_pos (b15 (by omega)), ih (by omega)]
  unfold hoW
  rw [h n (Nat.le_refl _)]
/-- an HOUR by a plan of the class; n of them -/
def hwC (ho ua : Int) (op ai fa mu tb : Nat → Int) (nsl : Nat) (W : WL9) : WL9 := hoW tb op (fcZ ho ua ai (W.1 0)) (fcZ ho 0 fa (W.1 0)) (fcZ ho 0 mu (W.1 0)) 15 nsl W
def cwC (ho ua : Int) (op ai fa mu tb : Nat → Int) (nsl : Nat) : Nat → WL9 → WL9
  | 0, W => W
  | k + 1, W => hwC ho ua op ai fa mu tb nsl (cwC ho ua op ai fa mu tb nsl k W)
theorem cw_ok {sl ho ua : Int} {op ai fa mu tb : Nat → Int} {nsl : Nat} {x X : Int} {W : WL9} (hf : okFc sl ho ua op ai fa mu tb) (hsl : sl = (nsl : Int)) (h : okWl x X W) (hns : nsl ≤ 4) (hX : 0 ≤ X) (hx : 0 ≤ x) : ∀ k : Nat, W.1 0 + (k : Int) + x ≤ 2722 → W.1 0 + (k : Int) ≤ 2180 → okWl x X (cwC ho ua op ai fa mu tb nsl k W) ∧ (cwC ho ua op ai fa mu tb nsl k W).1 0 = W.1 0 + (k : Int) ∧ ∀ j, 2 ≤ j → (cwC ho ua op ai fa mu tb nsl k W).1 j = W.1 j := by
  intro k
  induction k with
  | zero => exact fun _ _ => ⟨h, (Int.add_zero _).symm, fun _ _ => rfl⟩
  | succ k ih =>
    intro h1 h2
    obtain ⟨a, b, c⟩ := ih (by omega) (by omega)
    have hd := ho_hd (tb := tb) (op := op) (air := fcZ ho ua ai ((cwC ho ua op ai fa mu tb nsl k W).1 0)) (what := fcZ ho 0 fa ((cwC ho ua op ai fa mu tb nsl k W).1 0)) (much := fcZ ho 0 mu ((cwC ho ua op ai fa mu tb nsl k W).1 0)) (z := 15) (sl := nsl) (W := cwC ho ua op ai fa mu tb nsl k W)
    have hfm := fc_fm (tm := (cwC ho ua op ai fa mu tb nsl k W).1 0) hf
    refine ⟨ho_wl hf.2.2.2.2.2 a hns hX hx (by omega) (by omega) (fun e => ⟨hfm.2.2 e, hfm.2.1.2⟩) (fc_air hf) (fun k hk => hf.2.2.1 k (by omega)), ?_, fun j hj => (hd.2 j hj).trans (c j hj)⟩
    exact hd.1.trans (by omega)
theorem okRec.st {cs : Nat → ClassId} {ad : Nat → Nat} {g g' : Nat → va_E} {N : Nat} {t fp im nz nz' kz sl ho ua ac' : Int} {st op ai fa mu tb tp : Nat → Int} (h : okRec cs ad g N t fp im nz kz sl ho ua st op ai fa mu tb tp) (hG : ∀ j, j < 11 ∨ 447 ≤ j → g' j = g j) (hS : okState cs ad g' 11 ac' nz') : okRec cs ad g' N t fp im nz' kz sl ho ua st op ai fa mu tb tp := by
  obtain ⟨a1, a2, a3, a4, a5, a6, a7, a8, ⟨ac, a9⟩, ⟨kc, a10⟩, a11, a12, a13, a14, a15, a16⟩ := h
  exact ⟨by rw [hG 0 (by omega)]; exact a1, a2, a3, by rw [hG 1 (by omega)]; exact a4, a5.mv (fun j _ _ => rfl) (fun j _ _ => hG j (by omega)), a6.mv (fun j _ _ => rfl) (fun j _ _ => hG j (by omega)), a7, a8, ⟨ac', hS⟩, ⟨kc, a10.mv (fun j _ _ => rfl) (fun j _ _ => hG j (by omega))⟩, a11.mv (fun j _ _ => rfl) (fun j _ _ => hG j (by omega)), a12.mv2 (fun j _ _ => rfl) (fun j _ _ => hG j (by omega)), a13.mv2 (fun j _ _ => rfl) (fun j _ _ => hG j (by omega)), a14.mv (fun j _ _ => rfl) (fun j _ _ => hG j (by omega)), a15.mv (fun j _ _ => rfl) (fun j _ _ => hG j (by omega)), a16.mv (fun j _ _ => rfl) (fun j _ h2 => hG j (by omega))⟩
section XRF
variable {cs : Nat → ClassId} {ad : Nat → Nat} {g g' : Nat → va_E} {i na : Nat} {H : Nat → WL9} {W : WL9} {P : Nat → PT9} {nz : Int} {nu nv nw rf : Nat → Int}
theorem xKt.refd {rf' : Nat → Int} (h : xKt cs ad g i na H W P nz nu nv nw rf) (hn : na ≤ 40) (hG : ∀ j, j ≠ i + 17 → g' j = g j) (hr : g' (i + 17) = iA cs 3 rf') : xKt cs ad g' i na H W P nz nu nv nw rf' := by
  obtain ⟨h1, h2, h3, h4, h5, h6⟩ := h
  exact ⟨(hG _ (by omega)).trans h1, h2.mv (fun j _ _ => hG j (by omega)), h3.mv (fun j _ _ _ => hG j (by omega)) hn, fun k hk => (h4 k hk).mv (fun j _ _ => hG j (by omega)), h5.mv (fun _ _ _ => rfl) (fun j _ _ => hG j (by omega)), hr⟩
end XRF
/-- HOURS of the class -/
def hoC (ho ua : Int) (op ai fa mu tb : Nat → Int) (nsl : Nat) (z : Int) (W : WL9) (na : Nat) (H : Nat → WL9) : Int × WL9 × Nat × (Nat → WL9) := if (1 ≤ z ∧ z ≤ 24) ∧ W.1 0 + z ≤ 2000 then (W.1 0 + z, cwC ho ua op ai fa mu tb nsl z.toNat W, kpN na, kpH na H W) else (-1, W, na, H)

set_option maxRecDepth 100000 in
set_option maxHeartbeats 4000000 in
theorem c_pAll (l : Launch) (D : va_G) (A : Nat → Prop) (cs : Nat → ClassId) (tt : Nat) (N : Nat) (ad : Nat → Nat) (g : Nat → va_E) (b : Nat) (hNb : b + 7 ≤ N) (sl ho ua : Int) (st op ai fa mu tb : Nat → Int) (hb : isPlan cs ad g b sl ho ua st op ai fa mu tb) (nsl : Nat) (hnsl : sl = (nsl : Int)) (hns4 : nsl ≤ 4) : zM l yX5_allSlopes cX5_allSlopes 1 (some .int) ({ frames := 1, cells := 0, slots := 0, locals := 60 } : Room) D A cs tt N ad g [.ref (ad b)] (rI0 N ad fun q g' => q = (aZ nsl : Int) ∧ g = g') := by
  have hay1 : zAt ad (b) (ad b) := rfl
  have hay2 : zAt ad (b + 1) (ad (b + 1)) := rfl
  have hay3 : zAt ad (b + 2) (ad (b + 2)) := rfl
  have hay4 : zAt ad (b + 3) (ad (b + 3)) := rfl
  have hay5 : zAt ad (b + 4) (ad (b + 4)) := rfl
  have hay6 : zAt ad (b + 5) (ad (b + 5)) := rfl
  have hay7 : zAt ad (b + 6) (ad (b + 6)) := rfl
  refine z_of (by decide) (Nat.le_of_ble_eq_true rfl) ?_
  intro pY eY sY mY below meth cY C hr hlk hnm
  refine z_lv (lv' := [(0, .ref (ad b))]) [0] rfl ?_
  refine z_iconst (z := 1) C dX5_allSlopes_0 rfl ?_
  refine z_aload_n C 0 dX5_allSlopes_1 rfl ?_
  refine z_get (v := .int (zI (sl))) C (by omega) hay1 hb.1 rfl inA_X5 0 (by decide) q_88 rfl rfl dX5_allSlopes_2 ?_
  obtain ⟨xy8, exy9, hxy10⟩ := zI_of (zI (1) <<< (zI (sl) &&& 31))
  refine z_ishl (z := xy8) C dX5_allSlopes_5 exy9 ?_
  rw [hnsl] at exy9
  have hsh := sh_all hns4 exy9 hxy10
  have hal := aZ_lt hns4
  refine z_iconst (z := 1) C dX5_allSlopes_6 rfl ?_
  refine z_isub C dX5_allSlopes_7 ?_
  exact z_iret C hr hlk dX5_allSlopes_8 (by decide) (by decide) ⟨xy8 - 1, rfl, rfl, rfl, by omega, rfl⟩

set_option maxRecDepth 100000 in
set_option maxHeartbeats 4000000 in
theorem c_qRefuse (l : Launch) (D : va_G) (A : Nat → Prop) (cs : Nat → ClassId) (tt : Nat) (N : Nat) (ad : Nat → Nat) (g : Nat → va_E) (hN : 952 ≤ N) (t fp im nz kz sl ho ua : Int) (st op ai fa mu tb tp : Nat → Int) (hR : okRec cs ad g N t fp im nz kz sl ho ua st op ai fa mu tb tp) (na : Nat) (H : Nat → WL9) (W : WL9) (P : Nat → PT9) (nu nv nw rf : Nat → Int) (hS : okState cs ad g 11 (na : Int) nz) (hXK : xKt cs ad g 11 na H W P nz nu nv nw rf) (zn : Nat) (hz : zn < 3) : zM l yX9_refuse cX9_refuse 2 (some .int) ({ frames := 1, cells := 0, slots := 0, locals := 60 } : Room) D A cs tt N ad g [.ref (ad 0), .int (zI ((zn : Int)))] (rI0 N ad fun q g' => q = -1 ∧ (okState cs ad g' 11 (na : Int) nz ∧ xKt cs ad g' 11 na H W P nz nu nv nw (uZ rf zn (rf zn + 1))) ∧ ∀ j, j ≠ 11 + 17 → g' j = g j) := by
  obtain ⟨ra1, ra2, ra3, -, -, ra6, ra7, ra8, -⟩ := id hR
  have hna := hS.2.1
  have hay1 : zAt ad (0) (ad 0) := rfl
  have hay2 : zAt ad (1) (ad 1) := rfl
  have hay3 : zAt ad (2) (ad 2) := rfl
  have hay4 : zAt ad (4) (ad 4) := rfl
  have hay5 : zAt ad (11) (ad 11) := rfl
  have hay6 : zAt ad (447) (ad 447) := rfl
  have hay7 : zAt ad (883) (ad 883) := rfl
  have hay8 : zAt ad (890) (ad 890) := rfl
  have hay9 : zAt ad (900) (ad 900) := rfl
  have hay10 : zAt ad (910) (ad 910) := rfl
  have hay11 : zAt ad (917) (ad 917) := rfl
  have hay12 : zAt ad (919) (ad 919) := rfl
  have hay13 : zAt ad (4 + 1) (ad (4 + 1)) := rfl
  have hay14 : zAt ad (4 + 2) (ad (4 + 2)) := rfl
  have hay15 : zAt ad (4 + 3) (ad (4 + 3)) := rfl
  have hay16 : zAt ad (4 + 4) (ad (4 + 4)) := rfl
  have hay17 : zAt ad (4 + 5) (ad (4 + 5)) := rfl
  have hay18 : zAt ad (4 + 6) (ad (4 + 6)) := rfl
  have hay19 : zAt ad (11 + 1) (ad (11 + 1)) := rfl
  have hay20 : zAt ad (11 + 11) (ad (11 + 11)) := rfl
  have hay21 : zAt ad (11 + 12) (ad (11 + 12)) := rfl
  have hay22 : zAt ad (11 + 13) (ad (11 + 13)) := rfl
  have hay23 : zAt ad (11 + 17) (ad (11 + 17)) := rfl
  refine z_of (by decide) (Nat.le_of_ble_eq_true rfl) ?_
  intro pY eY sY mY below meth cY C hr hlk hnm
  refine z_lv (lv' := [(0, .ref (ad 0)), (1, .int (zI ((zn : Int))))]) [0, 1] rfl ?_
  refine z_aload_n C 0 dX9_refuse_0 rfl ?_
  refine z_get (v := .ref (ad 11)) C (lt_K hN (rfl : Nat.blt (0) 952 = true)) hay1 ra1 rfl inA_X9 5 (by decide) q_354 rfl rfl dX9_refuse_1 ?_
  refine z_get (v := .ref (ad (11 + 17))) C (lt_K hN (rfl : Nat.blt (11) 952 = true)) hay5 hXK.1 rfl inA_X6 5 (by decide) q_267 rfl rfl dX9_refuse_4 ?_
  refine z_iload_n C 1 dX9_refuse_7 rfl ?_
  refine z_dup2 C dX9_refuse_8 rfl rfl ?_
  refine z_iald C (lt_K hN (rfl : Nat.blt (11 + 17) 952 = true)) hay23 hXK.2.2.2.2.2 (zn) (by omega) (by omega) (by decide) dX9_refuse_9 ?_
  refine z_iconst (z := 1) C dX9_refuse_10 rfl ?_
  refine z_iadd C dX9_refuse_11 ?_
  refine z_iast C (lt_K hN (rfl : Nat.blt (11 + 17) 952 = true)) hay23 hXK.2.2.2.2.2 (zn) (by omega) (by omega) (by decide) dX9_refuse_12 (fun gy24 egy25 => ?_)
  have hgy26 := up_s egy25
  refine z_iconst (z := -1) C dX9_refuse_13 rfl ?_
  exact z_iret C hr hlk dX9_refuse_14 (by decide) (by decide) ⟨-1, rfl, rfl, rfl, rfl, ⟨okState.refused (i := 11) hS (fun j j1 => by rw [egy25, va_up_ne _ _ (by omega)]) hgy26, xKt.refd (i := 11) hXK (by omega) (fun j j1 => by rw [egy25, va_up_ne _ _ (by omega)]) hgy26⟩, fun j j1 => by rw [egy25, va_up_ne _ _ (by omega)]⟩

set_option maxRecDepth 100000 in
set_option maxHeartbeats 4000000 in
theorem c_qHours (l : Launch) (D : va_G) (A : Nat → Prop) (cs : Nat → ClassId) (tt : Nat) (N : Nat) (ad : Nat → Nat) (g : Nat → va_E) (hN : 952 ≤ N) (t fp im nz kz sl ho ua : Int) (st op ai fa mu tb tp : Nat → Int) (hR : okRec cs ad g N t fp im nz kz sl ho ua st op ai fa mu tb tp) (na : Nat) (H : Nat → WL9) (W : WL9) (P : Nat → PT9) (nu nv nw rf : Nat → Int) (hS : okState cs ad g 11 (na : Int) nz) (hXK : xKt cs ad g 11 na H W P nz nu nv nw rf) (nsl : Nat) (hnsl : sl = (nsl : Int)) (hfc : okFc sl ho ua op ai fa mu tb) (x : Int) (hx : 0 ≤ x ∧ x ≤ 512) (hwx : okWx x W) (z : Int) (hz : -2147483648 ≤ z ∧ z ≤ 2147483647) : zM l yX9_hours cX9_hours 3 (some .int) ({ frames := 8, cells := 0, slots := 0, locals := 480 } : Room) D A cs tt N ad g [.ref (ad 0), .int (zI (z))] (rI0 N ad fun q g' => q = (hoC ho ua op ai fa mu tb nsl z W na H).1 ∧ okRec cs ad g' N t fp im nz kz sl ho ua st op ai fa mu tb tp ∧ (okState cs ad g' 11 (((hoC ho ua op ai fa mu tb nsl z W na H).2.2.1 : Nat) : Int) nz ∧ ∃ rf', ((q = -1 ∧ rf' = uZ rf 1 (rf 1 + 1)) ∨ (q ≠ -1 ∧ rf' = rf)) ∧ xKt cs ad g' 11 (hoC ho ua op ai fa mu tb nsl z W na H).2.2.1 (hoC ho ua op ai fa mu tb nsl z W na H).2.2.2 (hoC ho ua op ai fa mu tb nsl z W na H).2.1 P nz nu nv nw rf') ∧ ∀ j, j < 11 ∨ 447 ≤ j → g' j = g j) := by
  obtain ⟨ra1, ra2, ra3, -, -, ra6, ra7, ra8, -⟩ := id hR
  have hna := hS.2.1
  have hay1 : zAt ad (0) (ad 0) := rfl
  have hay2 : zAt ad (1) (ad 1) := rfl
  have hay3 : zAt ad (2) (ad 2) := rfl
  have hay4 : zAt ad (4) (ad 4) := rfl
  have hay5 : zAt ad (11) (ad 11) := rfl
  have hay6 : zAt ad (447) (ad 447) := rfl
  have hay7 : zAt ad (883) (ad 883) := rfl
  have hay8 : zAt ad (890) (ad 890) := rfl
  have hay9 : zAt ad (900) (ad 900) := rfl
  have hay10 : zAt ad (910) (ad 910) := rfl
  have hay11 : zAt ad (917) (ad 917) := rfl
  have hay12 : zAt ad (919) (ad 919) := rfl
  have hay13 : zAt ad (4 + 1) (ad (4 + 1)) := rfl
  have hay14 : zAt ad (4 + 2) (ad (4 + 2)) := rfl
  have hay15 : zAt ad (4 + 3) (ad (4 + 3)) := rfl
  have hay16 : zAt ad (4 + 4) (ad (4 + 4)) := rfl
  have hay17 : zAt ad (4 + 5) (ad (4 + 5)) := rfl
  have hay18 : zAt ad (4 + 6) (ad (4 + 6)) := rfl
  have hay19 : zAt ad (11 + 1) (ad (11 + 1)) := rfl
  have hay20 : zAt ad (11 + 11) (ad (11 + 11)) := rfl
  have hay21 : zAt ad (11 + 12) (ad (11 + 12)) := rfl
  have hay22 : zAt ad (11 + 13) (ad (11 + 13)) := rfl
  have hay23 : zAt ad (11 + 17) (ad (11 + 17)) := rfl
  obtain ⟨u1, ⟨uu, u2, u3⟩, u4⟩ := id hXK.2.1
  have hay24 : zAt ad (11 + 1) (ad (11 + 1)) := rfl
  have hay25 : zAt ad (11 + 1 + 1) (ad (11 + 1 + 1)) := rfl
  have hok9 := hwx.1
  have ht9 := hwx.2
  have ht8 := hok9.2.1
  have hns4 : nsl ≤ 4 := by omega
  refine z_of (by decide) (Nat.le_of_ble_eq_true rfl) ?_
  intro pY eY sY mY below meth cY C hr hlk hnm
  refine z_lv (lv' := [(0, .ref (ad 0)), (1, .int (zI (z)))]) [0, 1] rfl ?_
  refine z_iload_n C 1 dX9_hours_0 rfl ?_
  refine z_iconst (z := 1) C dX9_hours_1 rfl ?_
  refine z_icmp_lt (tgt := 29) C dX9_hours_2 (by decide) (by omega) (by omega) (fun hby26 => ?_) (fun hby26 => ?_)
  · refine z_aload_n C 0 dX9_hours_29 rfl ?_
    refine z_iconst (z := 1) C dX9_hours_30 rfl ?_
    refine z_cV (As := [.int (zI (1))]) (rest := []) (ci := 11) C (c_qRefuse l D A cs tt N ad _ hN _ _ _ _ _ _ _ _ _ _ _ _ _ _ _ hR na H W P nu nv nw rf hS hXK 1 (by omega)) (lt_K hN (rfl : Nat.blt (0) 952 = true)) hay1 ra1 rfl rfl mv_yX9_refuse q_408 hd_yX9_refuse (by decide) (Nat.le_of_ble_eq_true rfl) (by decide) dX9_hours_31 rfl (kI0 fun vy27 gvy27 hvy27 => ?_)
    obtain ⟨rfl, ⟨hSvy27, hXvy27⟩, hfvy27⟩ := hvy27
    rw [show hoC ho ua op ai fa mu tb nsl z W na H = (-1, W, na, H) from if_neg (by omega)]
    exact z_iret C hr hlk dX9_hours_34 (by decide) (by decide) ⟨-1, rfl, rfl, rfl, by omega, okRec.st hR (fun j j1 => by rw [hfvy27 _ (by omega)]) hSvy27, ⟨hSvy27, _, Or.inl ⟨by omega, rfl⟩, hXvy27⟩, fun j j1 => by rw [hfvy27 _ (by omega)]⟩
  · refine z_iload_n C 1 dX9_hours_5 rfl ?_
    refine z_bipush (z := 24) C dX9_hours_6 (by decide) ?_
    refine z_icmp_gt (tgt := 29) C dX9_hours_8 (by decide) (by omega) (by omega) (fun hby28 => ?_) (fun hby28 => ?_)
    · refine z_aload_n C 0 dX9_hours_29 rfl ?_
      refine z_iconst (z := 1) C dX9_hours_30 rfl ?_
      refine z_cV (As := [.int (zI (1))]) (rest := []) (ci := 11) C (c_qRefuse l D A cs tt N ad _ hN _ _ _ _ _ _ _ _ _ _ _ _ _ _ _ hR na H W P nu nv nw rf hS hXK 1 (by omega)) (lt_K hN (rfl : Nat.blt (0) 952 = true)) hay1 ra1 rfl rfl mv_yX9_refuse q_408 hd_yX9_refuse (by decide) (Nat.le_of_ble_eq_true rfl) (by decide) dX9_hours_31 rfl (kI0 fun vy29 gvy29 hvy29 => ?_)
      obtain ⟨rfl, ⟨hSvy29, hXvy29⟩, hfvy29⟩ := hvy29
      rw [show hoC ho ua op ai fa mu tb nsl z W na H = (-1, W, na, H) from if_neg (by omega)]
      exact z_iret C hr hlk dX9_hours_34 (by decide) (by decide) ⟨-1, rfl, rfl, rfl, by omega, okRec.st hR (fun j j1 => by rw [hfvy29 _ (by omega)]) hSvy29, ⟨hSvy29, _, Or.inl ⟨by omega, rfl⟩, hXvy29⟩, fun j j1 => by rw [hfvy29 _ (by omega)]⟩
    · refine z_aload_n C 0 dX9_hours_11 rfl ?_
      refine z_get (v := .ref (ad 11)) C (lt_K hN (rfl : Nat.blt (0) 952 = true)) hay1 ra1 rfl inA_X9 5 (by decide) q_354 rfl rfl dX9_hours_12 ?_
      refine z_get (v := .ref (ad (11 + 1))) C (lt_K hN (rfl : Nat.blt (11) 952 = true)) hay5 hXK.1 rfl inA_X6 0 (by decide) q_258 rfl rfl dX9_hours_15 ?_
      refine z_get (v := .int (zI (W.1 0))) C (lt_K hN (rfl : Nat.blt (11 + 1) 952 = true)) hay24 u1 rfl inA_X8 0 (by decide) q_174 rfl rfl dX9_hours_18 ?_
      refine z_iload_n C 1 dX9_hours_21 rfl ?_
      refine z_iadd C dX9_hours_22 ?_
      refine z_sipush (z := 2000) C dX9_hours_23 (by decide) ?_
      refine z_icmp_le (tgt := 35) C dX9_hours_26 (by decide) (by omega) (by omega) (fun hby30 => ?_) (fun hby30 => ?_)
      · refine z_aload_n C 0 dX9_hours_35 rfl ?_
        refine z_get (v := .ref (ad 11)) C (lt_K hN (rfl : Nat.blt (0) 952 = true)) hay1 ra1 rfl inA_X9 5 (by decide) q_354 rfl rfl dX9_hours_36 ?_
        refine z_cV (As := []) (rest := []) (ci := 8) C (c_qKeep l D A cs tt N ad _ 11 (by omega) na _ H W P nu nv nw rf hS hXK) (lt_K hN (rfl : Nat.blt (11) 952 = true)) hay5 hXK.1 rfl rfl mv_yX6_keepAct q_412 hd_yX6_keepAct (by decide) (Nat.le_of_ble_eq_true rfl) (by decide) dX9_hours_39 rfl (kV0 fun gvy31 hvy31 => ?_)
        obtain ⟨hSvy31, hXvy31, hfvy31⟩ := hvy31
        obtain ⟨uy321, ⟨uy32u, uy322, uy323⟩, uy324⟩ := id hXvy31.2.1
        have hay33 : zAt ad (11 + 1) (ad (11 + 1)) := rfl
        have hay34 : zAt ad (11 + 1 + 1) (ad (11 + 1 + 1)) := rfl
        have hkn9 : kpN na ≤ 40 := by unfold kpN; split <;> omega
        refine z_iconst (z := 0) C dX9_hours_42 rfl ?_
        refine z_istore_n (lv' := [(2, .int (zI (0))), (0, .ref (ad 0)), (1, .int (zI (z)))]) C dX9_hours_43 rfl (by decide) rfl ?_
        obtain ⟨m7, hm7⟩ : ∃ m9 : Nat, z = (m9 : Int) := ⟨z.toNat, by omega⟩
        have hmz7 : z.toNat = m7 := by omega
        have hokm := hok9.mono (y := x + 1) (Y := 50 * (x + 1)) (by omega) (by omega)
        have hgy35 := (hfvy31 (0) (by omega)).trans ra1
        have hgy36 := (hfvy31 (4) (by omega)).trans ra6.1
        have hgy37 := (hfvy31 (4 + 1) (by omega)).trans ra6.2.1
        have hgy38 := (hfvy31 (4 + 2) (by omega)).trans ra6.2.2.1
        have hgy39 := (hfvy31 (4 + 3) (by omega)).trans ra6.2.2.2.1
        have hgy40 := (hfvy31 (4 + 4) (by omega)).trans ra6.2.2.2.2.1
        have hgy41 := (hfvy31 (4 + 5) (by omega)).trans ra6.2.2.2.2.2.1
        have hgy42 := (hfvy31 (4 + 6) (by omega)).trans ra6.2.2.2.2.2.2
        have hq0 := hgy35
        have hq4 := hgy36
        have hq11 := hXvy31.1
        have hq4_1 := hgy37
        have hq4_2 := hgy38
        have hq4_3 := hgy39
        have hq4_4 := hgy40
        have hq4_5 := hgy41
        have hq4_6 := hgy42
        have lp : ∀ (n9 : Nat) (i : Int) (k : Nat) (g1 : Nat → va_E), (25 - i).toNat = n9 → (i = (k : Int)) → ((k : Int) ≤ z) → (isWl cs ad g1 (11 + 1) (cwC ho ua op ai fa mu tb nsl k W)) → (∀ j, j < 11 + 1 ∨ 11 + 11 ≤ j → g1 j = gvy31 j) → zV pY l eY ({ frames := 8, cells := 0, slots := 0, locals := 480 } : Room) sY mY ([.ref (ad 0), .int (zI (z))] : List Value).toArray below meth cY (MQ below (zPost D A (rI0 N ad fun q g' => q = (hoC ho ua op ai fa mu tb nsl z W na H).1 ∧ okRec cs ad g' N t fp im nz kz sl ho ua st op ai fa mu tb tp ∧ (okState cs ad g' 11 (((hoC ho ua op ai fa mu tb nsl z W na H).2.2.1 : Nat) : Int) nz ∧ ∃ rf', ((q = -1 ∧ rf' = uZ rf 1 (rf 1 + 1)) ∨ (q ≠ -1 ∧ rf' = rf)) ∧ xKt cs ad g' 11 (hoC ho ua op ai fa mu tb nsl z W na H).2.2.1 (hoC ho ua op ai fa mu tb nsl z W na H).2.2.2 (hoC ho ua op ai fa mu tb nsl z W na H).2.1 P nz nu nv nw rf') ∧ ∀ j, j < 11 ∨ 447 ≤ j → g' j = g j)) ([.ref (ad 0), .int (zI (z))] : List Value).toArray sY ({ frames := 8, cells := 0, slots := 0, locals := 480 } : Room).cells ({ frames := 8, cells := 0, slots := 0, locals := 480 } : Room).slots A) D A 3 (N) ad g1 (0) (0) 44 [(2, .int (zI (i))), (0, .ref (ad 0)), (1, .int (zI (z)))] [] := by
          intro n9
          induction n9 using Nat.strongRecOn with
          | ind n9 ih =>
            intro i k g1 hm9 hik hkn f1 f3
            subst hik
            have hay43 : zAt ad (0) (ad 0) := rfl
            have hay44 : zAt ad (1) (ad 1) := rfl
            have hay45 : zAt ad (2) (ad 2) := rfl
            have hay46 : zAt ad (4) (ad 4) := rfl
            have hay47 : zAt ad (11) (ad 11) := rfl
            have hay48 : zAt ad (447) (ad 447) := rfl
            have hay49 : zAt ad (883) (ad 883) := rfl
            have hay50 : zAt ad (890) (ad 890) := rfl
            have hay51 : zAt ad (900) (ad 900) := rfl
            have hay52 : zAt ad (910) (ad 910) := rfl
            have hay53 : zAt ad (917) (ad 917) := rfl
            have hay54 : zAt ad (919) (ad 919) := rfl
            have hay55 : zAt ad (11 + 1) (ad (11 + 1)) := rfl
            have hay56 : zAt ad (11 + 11) (ad (11 + 11)) := rfl
            have hay57 : zAt ad (11 + 12) (ad (11 + 12)) := rfl
            have hay58 : zAt ad (11 + 13) (ad (11 + 13)) := rfl
            have hay59 : zAt ad (11 + 17) (ad (11 + 17)) := rfl
            have hay60 : zAt ad (4 + 1) (ad (4 + 1)) := rfl
            have hay61 : zAt ad (4 + 2) (ad (4 + 2)) := rfl
            have hay62 : zAt ad (4 + 3) (ad (4 + 3)) := rfl
            have hay63 : zAt ad (4 + 4) (ad (4 + 4)) := rfl
            have hay64 : zAt ad (4 + 5) (ad (4 + 5)) := rfl
            have hay65 : zAt ad (4 + 6) (ad (4 + 6)) := rfl
            obtain ⟨ha9, hb9, -⟩ := cw_ok hfc hnsl hokm hns4 (by omega) (by omega) k (by omega) (by omega)
            obtain ⟨v1, ⟨vu, v2, v3⟩, v4⟩ := id f1
            have hay66 : zAt ad (11 + 1) (ad (11 + 1)) := rfl
            have hay67 : zAt ad (11 + 1 + 1) (ad (11 + 1 + 1)) := rfl
            refine z_iload_n C 0 dX9_hours_44 rfl ?_
            refine z_iload_n C 2 dX9_hours_45 rfl ?_
            refine z_icmp_ge (tgt := 77) C dX9_hours_46 (by decide) (by omega) (by omega) (fun hby68 => ?_) (fun hby68 => ?_)
            · refine z_aload_n C 1 dX9_hours_77 rfl ?_
              refine z_get (v := .ref (ad 11)) C (lt_K hN (rfl : Nat.blt (0) 952 = true)) hay43 ((f3 (0) (by omega)).trans hq0) rfl inA_X9 5 (by decide) q_354 rfl rfl dX9_hours_78 ?_
              refine z_get (v := .ref (ad (11 + 1))) C (lt_K hN (rfl : Nat.blt (11) 952 = true)) hay47 ((f3 (11) (by omega)).trans hq11) rfl inA_X6 0 (by decide) q_258 rfl rfl dX9_hours_81 ?_
              refine z_get (v := .int (zI ((cwC ho ua op ai fa mu tb nsl k W).1 0))) C (lt_K hN (rfl : Nat.blt (11 + 1) 952 = true)) hay66 v1 rfl inA_X8 0 (by decide) q_174 rfl rfl dX9_hours_84 ?_
              have hkm : k = m7 := by omega
              rw [hkm] at f1 ha9 hb9
              have hok2 : okWl (x + 1) (50 * (x + 1)) (cwC ho ua op ai fa mu tb nsl m7 W) := ha9
              have hans9 : (cwC ho ua op ai fa mu tb nsl k W).1 0 = W.1 0 + z := by rw [hkm]; omega
              have hE9 : hoC ho ua op ai fa mu tb nsl z W na H = (W.1 0 + z, cwC ho ua op ai fa mu tb nsl m7 W, kpN na, kpH na H W) := (if_pos (by omega)).trans (by rw [hmz7])
              rw [hE9]
              have hfr9 : ∀ j, j < 11 + 1 ∨ 11 + 11 ≤ j → g1 j = gvy31 j := f3
              have hwl9 : isWl cs ad g1 (11 + 1) (cwC ho ua op ai fa mu tb nsl m7 W) := f1
              have hwn9 : ∀ s, s < 4 → ((cwC ho ua op ai fa mu tb nsl m7 W).2 s).1 ≤ 12 := hok2.n12
              have hS9 : okState cs ad g1 11 ((kpN na : Nat) : Int) nz := okState.now (i := 11) hSvy31 hfr9 (isWl.ok hwl9 hwn9 hok2.2.2.2)
              have hX9 := xKt.now (i := 11) hXvy31 hkn9 hfr9 hwl9
              have hfo9 : ∀ j, j < 11 ∨ 447 ≤ j → g1 j = g j := fun j j1 => (hfr9 j (by omega)).trans (hfvy31 j (by omega))
              exact z_iret C hr hlk dX9_hours_87 (by decide) (by decide) ⟨(cwC ho ua op ai fa mu tb nsl k W).1 0, rfl, rfl, rfl, by omega, okRec.st hR hfo9 hS9, ⟨hS9, _, Or.inr ⟨by omega, rfl⟩, hX9⟩, hfo9⟩
            · refine z_aload_n C 1 dX9_hours_49 rfl ?_
              refine z_get (v := .ref (ad 11)) C (lt_K hN (rfl : Nat.blt (0) 952 = true)) hay43 ((f3 (0) (by omega)).trans hq0) rfl inA_X9 5 (by decide) q_354 rfl rfl dX9_hours_50 ?_
              refine z_get (v := .ref (ad (11 + 1))) C (lt_K hN (rfl : Nat.blt (11) 952 = true)) hay47 ((f3 (11) (by omega)).trans hq11) rfl inA_X6 0 (by decide) q_258 rfl rfl dX9_hours_53 ?_
              refine z_aload_n C 1 dX9_hours_56 rfl ?_
              refine z_get (v := .ref (ad 4)) C (lt_K hN (rfl : Nat.blt (0) 952 = true)) hay43 ((f3 (0) (by omega)).trans hq0) rfl inA_X9 4 (by decide) q_353 rfl rfl dX9_hours_57 ?_
              refine z_aload_n C 1 dX9_hours_60 rfl ?_
              refine z_get (v := .ref (ad 4)) C (lt_K hN (rfl : Nat.blt (0) 952 = true)) hay43 ((f3 (0) (by omega)).trans hq0) rfl inA_X9 4 (by decide) q_353 rfl rfl dX9_hours_61 ?_
              refine z_cV (As := []) (rest := [.ref (ad 4), .ref (ad (11 + 1))]) (ci := 7) C (c_pAll l D A cs tt N ad _ (4) (by omega) _ _ _ _ _ _ _ _ _ ⟨((f3 (4) (by omega)).trans hq4), ((f3 (4 + 1) (by omega)).trans hq4_1), ((f3 (4 + 2) (by omega)).trans hq4_2), ((f3 (4 + 3) (by omega)).trans hq4_3), ((f3 (4 + 4) (by omega)).trans hq4_4), ((f3 (4 + 5) (by omega)).trans hq4_5), ((f3 (4 + 6) (by omega)).trans hq4_6)⟩ nsl hnsl hns4) (lt_K hN (rfl : Nat.blt (4) 952 = true)) hay46 ((f3 (4) (by omega)).trans hq4) rfl rfl mv_yX5_allSlopes q_431 hd_yX5_allSlopes (by decide) (Nat.le_of_ble_eq_true rfl) (by decide) dX9_hours_64 rfl (kI0 fun vy69 gvy69 hvy69 => ?_)
              obtain ⟨rfl, rfl⟩ := hvy69
              refine z_iconst (z := 1) C dX9_hours_67 rfl ?_
              refine z_cV (As := [.ref (ad 4), .int (zI ((aZ nsl : Int))), .int (zI (1))]) (rest := []) (ci := 10) C (c_wHour l D A cs tt N ad _ (11 + 1) (by omega) (cwC ho ua op ai fa mu tb nsl k W) f1 4 (by omega) _ _ _ _ _ _ _ _ _ ⟨((f3 (4) (by omega)).trans hq4), ((f3 (4 + 1) (by omega)).trans hq4_1), ((f3 (4 + 2) (by omega)).trans hq4_2), ((f3 (4 + 3) (by omega)).trans hq4_3), ((f3 (4 + 4) (by omega)).trans hq4_4), ((f3 (4 + 5) (by omega)).trans hq4_5), ((f3 (4 + 6) (by omega)).trans hq4_6)⟩ (by omega) hfc nsl hnsl hns4 (aZ nsl) (aZ_lt hns4) 1 (by omega) (x + 1) (50 * (x + 1)) ha9 (by omega) (by omega)) (lt_K hN (rfl : Nat.blt (11 + 1) 952 = true)) hay66 v1 rfl rfl mv_yX8_hour q_435 hd_yX8_hour (by decide) (Nat.le_of_ble_eq_true rfl) (by decide) dX9_hours_68 rfl (kV0 fun gvy70 hvy70 => ?_)
              obtain ⟨hwvy70, hfvy70⟩ := hvy70
              rw [ho_all hns4, if_pos rfl] at hwvy70
              refine z_iinc (z := (k : Int) + 1) (lv' := [(2, .int (zI ((k : Int) + 1))), (0, .ref (ad 0)), (1, .int (zI (z)))]) (j := 0) C dX9_hours_71 rfl rfl (by decide) rfl ?_
              refine z_goto (tgt := 44) C dX9_hours_74 (by decide) ?_
              refine z_lv (lv' := [(2, .int (zI ((k : Int) + 1))), (0, .ref (ad 0)), (1, .int (zI (z)))]) [0, 1, 2] rfl ?_
              exact ih _ (by omega) ((k : Int) + 1) (k + 1) gvy70 rfl (by omega) (by omega) hwvy70 (fun j j1 => (hfvy70 j j1).trans (f3 j j1))
        refine z_lv (lv' := [(2, .int (zI (0))), (0, .ref (ad 0)), (1, .int (zI (z)))]) [0, 1, 2] rfl ?_
        exact lp _ 0 0 gvy31 rfl rfl (by omega) hXvy31.2.1 (fun j _ => rfl)
      · refine z_aload_n C 0 dX9_hours_29 rfl ?_
        refine z_iconst (z := 1) C dX9_hours_30 rfl ?_
        refine z_cV (As := [.int (zI (1))]) (rest := []) (ci := 11) C (c_qRefuse l D A cs tt N ad _ hN _ _ _ _ _ _ _ _ _ _ _ _ _ _ _ hR na H W P nu nv nw rf hS hXK 1 (by omega)) (lt_K hN (rfl : Nat.blt (0) 952 = true)) hay1 ra1 rfl rfl mv_yX9_refuse q_408 hd_yX9_refuse (by decide) (Nat.le_of_ble_eq_true rfl) (by decide) dX9_hours_31 rfl (kI0 fun vy71 gvy71 hvy71 => ?_)
        obtain ⟨rfl, ⟨hSvy71, hXvy71⟩, hfvy71⟩ := hvy71
        rw [show hoC ho ua op ai fa mu tb nsl z W na H = (-1, W, na, H) from if_neg (by omega)]
        exact z_iret C hr hlk dX9_hours_34 (by decide) (by decide) ⟨-1, rfl, rfl, rfl, by omega, okRec.st hR (fun j j1 => by rw [hfvy71 _ (by omega)]) hSvy71, ⟨hSvy71, _, Or.inl ⟨by omega, rfl⟩, hXvy71⟩, fun j j1 => by rw [hfvy71 _ (by omega)]⟩

set_option maxRecDepth 100000 in
set_option maxHeartbeats 4000000 in
theorem c_qUndo (l : Launch) (D : va_G) (A : Nat → Prop) (cs : Nat → ClassId) (tt : Nat) (N : Nat) (ad : Nat → Nat) (g : Nat → va_E) (hN : 952 ≤ N) (t fp im nz kz sl ho ua : Int) (st op ai fa mu tb tp : Nat → Int) (hR : okRec cs ad g N t fp im nz kz sl ho ua st op ai fa mu tb tp) (na : Nat) (H : Nat → WL9) (W : WL9) (P : Nat → PT9) (nu nv nw rf : Nat → Int) (hS : okState cs ad g 11 (na : Int) nz) (hXK : xKt cs ad g 11 na H W P nz nu nv nw rf) (nsl : Nat) (hnsl : sl = (nsl : Int)) (hfc : okFc sl ho ua op ai fa mu tb) (x : Int) (hx : 0 ≤ x ∧ x ≤ 512) (hwx : okWx x W) : zM l yX9_undo cX9_undo 1 (some .int) ({ frames := 8, cells := 0, slots := 0, locals := 480 } : Room) D A cs tt N ad g [.ref (ad 0)] (rI0 N ad fun q g' => q = (undA W na H).1 ∧ okRec cs ad g' N t fp im nz kz sl ho ua st op ai fa mu tb tp ∧ (okState cs ad g' 11 (((undA W na H).2.2.1 : Nat) : Int) nz ∧ ∃ rf', rf' = rf ∧ xKt cs ad g' 11 (undA W na H).2.2.1 (undA W na H).2.2.2 (undA W na H).2.1 P nz nu nv nw rf') ∧ ∀ j, j < 11 ∨ 447 ≤ j → g' j = g j) := by
  obtain ⟨ra1, ra2, ra3, -, -, ra6, ra7, ra8, -⟩ := id hR
  have hna := hS.2.1
  have hay1 : zAt ad (0) (ad 0) := rfl
  have hay2 : zAt ad (1) (ad 1) := rfl
  have hay3 : zAt ad (2) (ad 2) := rfl
  have hay4 : zAt ad (4) (ad 4) := rfl
  have hay5 : zAt ad (11) (ad 11) := rfl
  have hay6 : zAt ad (447) (ad 447) := rfl
  have hay7 : zAt ad (883) (ad 883) := rfl
  have hay8 : zAt ad (890) (ad 890) := rfl
  have hay9 : zAt ad (900) (ad 900) := rfl
  have hay10 : zAt ad (910) (ad 910) := rfl
  have hay11 : zAt ad (917) (ad 917) := rfl
  have hay12 : zAt ad (919) (ad 919) := rfl
  have hay13 : zAt ad (4 + 1) (ad (4 + 1)) := rfl
  have hay14 : zAt ad (4 + 2) (ad (4 + 2)) := rfl
  have hay15 : zAt ad (4 + 3) (ad (4 + 3)) := rfl
  have hay16 : zAt ad (4 + 4) (ad (4 + 4)) := rfl
  have hay17 : zAt ad (4 + 5) (ad (4 + 5)) := rfl
  have hay18 : zAt ad (4 + 6) (ad (4 + 6)) := rfl
  have hay19 : zAt ad (11 + 1) (ad (11 + 1)) := rfl
  have hay20 : zAt ad (11 + 11) (ad (11 + 11)) := rfl
  have hay21 : zAt ad (11 + 12) (ad (11 + 12)) := rfl
  have hay22 : zAt ad (11 + 13) (ad (11 + 13)) := rfl
  have hay23 : zAt ad (11 + 17) (ad (11 + 17)) := rfl
  obtain ⟨u1, ⟨uu, u2, u3⟩, u4⟩ := id hXK.2.1
  have hay24 : zAt ad (11 + 1) (ad (11 + 1)) := rfl
  have hay25 : zAt ad (11 + 1 + 1) (ad (11 + 1 + 1)) := rfl
  refine z_of (by decide) (Nat.le_of_ble_eq_true rfl) ?_
  intro pY eY sY mY below meth cY C hr hlk hnm
  refine z_lv (lv' := [(0, .ref (ad 0))]) [0] rfl ?_
  refine z_aload_n C 0 dX9_undo_0 rfl ?_
  refine z_get (v := .ref (ad 11)) C (lt_K hN (rfl : Nat.blt (0) 952 = true)) hay1 ra1 rfl inA_X9 5 (by decide) q_354 rfl rfl dX9_undo_1 ?_
  refine z_get (v := .int (zI ((na : Int)))) C (lt_K hN (rfl : Nat.blt (11) 952 = true)) hay5 hXK.1 rfl inA_X6 2 (by decide) q_261 rfl rfl dX9_undo_4 ?_
  refine z_if_ne (tgt := 12) C dX9_undo_7 (by decide) (by omega) (fun hby26 => ?_) (fun hby26 => ?_)
  · refine z_aload_n C 0 dX9_undo_12 rfl ?_
    refine z_get (v := .ref (ad 11)) C (lt_K hN (rfl : Nat.blt (0) 952 = true)) hay1 ra1 rfl inA_X9 5 (by decide) q_354 rfl rfl dX9_undo_13 ?_
    have hac : 0 < na := by omega
    refine z_cV (As := []) (rest := []) (ci := 8) C (c_qTake l D A cs tt N ad _ 11 (by omega) na _ H W P nu nv nw rf hS hXK hac) (lt_K hN (rfl : Nat.blt (11) 952 = true)) hay5 hXK.1 rfl rfl mv_yX6_takeBack q_611 hd_yX6_takeBack (by decide) (Nat.le_of_ble_eq_true rfl) (by decide) dX9_undo_16 rfl (kV0 fun gvy27 hvy27 => ?_)
    obtain ⟨hSvy27, hXvy27, hfvy27⟩ := hvy27
    obtain ⟨uy281, ⟨uy28u, uy282, uy283⟩, uy284⟩ := id hXvy27.2.1
    have hay29 : zAt ad (11 + 1) (ad (11 + 1)) := rfl
    have hay30 : zAt ad (11 + 1 + 1) (ad (11 + 1 + 1)) := rfl
    refine z_aload_n C 0 dX9_undo_19 rfl ?_
    have hgy31 := (hfvy27 (0) (by omega)).trans ra1
    refine z_get (v := .ref (ad 11)) C (lt_K hN (rfl : Nat.blt (0) 952 = true)) hay1 hgy31 rfl inA_X9 5 (by decide) q_354 rfl rfl dX9_undo_20 ?_
    refine z_get (v := .int (zI (((na - 1 : Nat) : Int)))) C (lt_K hN (rfl : Nat.blt (11) 952 = true)) hay5 hXvy27.1 rfl inA_X6 2 (by decide) q_261 rfl rfl dX9_undo_23 ?_
    have hE9 : undA W na H = ((na : Int) - 1, H (na - 1), na - 1, H) := if_neg (by omega)
    rw [hE9]
    exact z_iret C hr hlk dX9_undo_26 (by decide) (by decide) ⟨((na - 1 : Nat) : Int), rfl, rfl, rfl, by omega, okRec.st hR (fun j j1 => by rw [hfvy27 _ (by omega)]) hSvy27, ⟨hSvy27, _, rfl, hXvy27⟩, fun j j1 => by rw [hfvy27 _ (by omega)]⟩
  · refine z_iconst (z := -1) C dX9_undo_10 rfl ?_
    rw [show undA W na H = (-1, W, na, H) from if_pos (by omega)]
    exact z_iret C hr hlk dX9_undo_11 (by decide) (by decide) ⟨-1, rfl, rfl, rfl, by omega, hR, ⟨hS, _, rfl, hXK⟩, fun j j1 => rfl⟩
end
section
-- 9lx.words.lean.txt
-- words of qb
theorem q_541 : (Jvm.Cond.methodLink "SnowRecorder" (272 : Nat) ({ cls := "SnowRecorder", name := "comesByHand", desc := "(II)Z" } : Jvm.MethodName)) ∈ AW := AW_m3 61 (by decide +kernel) (by decide +kernel)
theorem q_543 : (Jvm.Cond.instanceMethod ({ cls := "SnowRecorder", name := "comesByHand", desc := "(II)Z" } : Jvm.MethodName)) ∈ AW := AW_m3 63 (by decide +kernel) (by decide +kernel)
theorem q_544 : (Jvm.Cond.code ({ cls := "SnowRecorder", name := "comesByHand", desc := "(II)Z" } : Jvm.MethodName) prog_1_method_45_code (3 : Nat) (Option.some Jvm.ClassFile.FieldType.boolean)) ∈ AW := AW_m3 64 (by decide +kernel) (by decide +kernel)
theorem s_6 : Cond.selects "SnowRecorder" ({ cls := "SnowRecorder", name := "comesByHand", desc := "(II)Z" } : Jvm.MethodName) ({ cls := "SnowRecorder", name := "comesByHand", desc := "(II)Z" } : Jvm.MethodName) ∈ AW := AW_m 6 (by decide +kernel) (by decide +kernel)
theorem hd_yX9_comesByHand : yX9_comesByHand.cls ≠ "java/lang/invoke/MethodHandle" ∧ yX9_comesByHand.cls ≠ "java/lang/invoke/VarHandle" ∧ (parseMethodDescriptor yX9_comesByHand.desc).map (fun d => d.parameters.length) = some 2 := by decide +kernel
theorem mv_yX9_comesByHand : zWv yX9_comesByHand cX9_comesByHand 3 (some .boolean) := ⟨q_543, s_6, q_1, q_544⟩
end
section
-- 9ly.dec.lean.txt
-- decode rows of qb
theorem dX9_dig_0 : decode cX9_dig 0 = .ok (.aload_n 0, 1) := by decide +kernel
theorem dX9_dig_1 : decode cX9_dig 1 = .ok (.iload_n 1, 1) := by decide +kernel
theorem dX9_dig_2 : decode cX9_dig 2 = .ok (.invokevirtual 268, 3) := by decide +kernel
theorem dX9_dig_5 : decode cX9_dig 5 = .ok (.ifCond .eq 21, 3) := by decide +kernel
theorem dX9_dig_26 : decode cX9_dig 26 = .ok (.aload_n 0, 1) := by decide +kernel
theorem dX9_dig_27 : decode cX9_dig 27 = .ok (.iconst 1, 1) := by decide +kernel
theorem dX9_dig_28 : decode cX9_dig 28 = .ok (.invokevirtual 255, 3) := by decide +kernel
theorem dX9_dig_31 : decode cX9_dig 31 = .ok (.ireturn, 1) := by decide +kernel
theorem dX9_dig_8 : decode cX9_dig 8 = .ok (.aload_n 0, 1) := by decide +kernel
theorem dX9_dig_9 : decode cX9_dig 9 = .ok (.getfield 37, 3) := by decide +kernel
theorem dX9_dig_12 : decode cX9_dig 12 = .ok (.getfield 112, 3) := by decide +kernel
theorem dX9_dig_15 : decode cX9_dig 15 = .ok (.getfield 280, 3) := by decide +kernel
theorem dX9_dig_18 : decode cX9_dig 18 = .ok (.iload_n 1, 1) := by decide +kernel
theorem dX9_dig_19 : decode cX9_dig 19 = .ok (.aaload, 1) := by decide +kernel
theorem dX9_dig_20 : decode cX9_dig 20 = .ok (.getfield 193, 3) := by decide +kernel
theorem dX9_dig_23 : decode cX9_dig 23 = .ok (.ifCond .ne 9, 3) := by decide +kernel
theorem dX9_dig_32 : decode cX9_dig 32 = .ok (.aload_n 0, 1) := by decide +kernel
theorem dX9_dig_33 : decode cX9_dig 33 = .ok (.getfield 37, 3) := by decide +kernel
theorem dX9_dig_36 : decode cX9_dig 36 = .ok (.invokevirtual 258, 3) := by decide +kernel
theorem dX9_dig_39 : decode cX9_dig 39 = .ok (.aload_n 0, 1) := by decide +kernel
theorem dX9_dig_40 : decode cX9_dig 40 = .ok (.getfield 37, 3) := by decide +kernel
theorem dX9_dig_43 : decode cX9_dig 43 = .ok (.getfield 112, 3) := by decide +kernel
theorem dX9_dig_46 : decode cX9_dig 46 = .ok (.iload_n 1, 1) := by decide +kernel
theorem dX9_dig_47 : decode cX9_dig 47 = .ok (.invokevirtual 284, 3) := by decide +kernel
theorem dX9_dig_50 : decode cX9_dig 50 = .ok (.ireturn, 1) := by decide +kernel
theorem dX9_fall_0 : decode cX9_fall 0 = .ok (.aload_n 0, 1) := by decide +kernel
theorem dX9_fall_1 : decode cX9_fall 1 = .ok (.iload_n 1, 1) := by decide +kernel
theorem dX9_fall_2 : decode cX9_fall 2 = .ok (.invokevirtual 268, 3) := by decide +kernel
theorem dX9_fall_5 : decode cX9_fall 5 = .ok (.ifCond .eq 12, 3) := by decide +kernel
theorem dX9_fall_17 : decode cX9_fall 17 = .ok (.aload_n 0, 1) := by decide +kernel
theorem dX9_fall_18 : decode cX9_fall 18 = .ok (.iconst 1, 1) := by decide +kernel
theorem dX9_fall_19 : decode cX9_fall 19 = .ok (.invokevirtual 255, 3) := by decide +kernel
theorem dX9_fall_22 : decode cX9_fall 22 = .ok (.ireturn, 1) := by decide +kernel
theorem dX9_fall_8 : decode cX9_fall 8 = .ok (.aload_n 0, 1) := by decide +kernel
theorem dX9_fall_9 : decode cX9_fall 9 = .ok (.iload_n 2, 1) := by decide +kernel
theorem dX9_fall_10 : decode cX9_fall 10 = .ok (.iload_n 3, 1) := by decide +kernel
theorem dX9_fall_11 : decode cX9_fall 11 = .ok (.invokevirtual 272, 3) := by decide +kernel
theorem dX9_fall_14 : decode cX9_fall 14 = .ok (.ifCond .ne 9, 3) := by decide +kernel
theorem dX9_fall_23 : decode cX9_fall 23 = .ok (.aload_n 0, 1) := by decide +kernel
theorem dX9_fall_24 : decode cX9_fall 24 = .ok (.getfield 37, 3) := by decide +kernel
theorem dX9_fall_27 : decode cX9_fall 27 = .ok (.invokevirtual 258, 3) := by decide +kernel
theorem dX9_fall_30 : decode cX9_fall 30 = .ok (.aload_n 0, 1) := by decide +kernel
theorem dX9_fall_31 : decode cX9_fall 31 = .ok (.getfield 37, 3) := by decide +kernel
theorem dX9_fall_34 : decode cX9_fall 34 = .ok (.getfield 112, 3) := by decide +kernel
theorem dX9_fall_37 : decode cX9_fall 37 = .ok (.iload_n 1, 1) := by decide +kernel
theorem dX9_fall_38 : decode cX9_fall 38 = .ok (.iload_n 2, 1) := by decide +kernel
theorem dX9_fall_39 : decode cX9_fall 39 = .ok (.iload_n 3, 1) := by decide +kernel
theorem dX9_fall_40 : decode cX9_fall 40 = .ok (.aload_n 0, 1) := by decide +kernel
theorem dX9_fall_41 : decode cX9_fall 41 = .ok (.getfield 30, 3) := by decide +kernel
theorem dX9_fall_44 : decode cX9_fall 44 = .ok (.aload_n 0, 1) := by decide +kernel
theorem dX9_fall_45 : decode cX9_fall 45 = .ok (.getfield 37, 3) := by decide +kernel
theorem dX9_fall_48 : decode cX9_fall 48 = .ok (.getfield 112, 3) := by decide +kernel
theorem dX9_fall_51 : decode cX9_fall 51 = .ok (.getfield 121, 3) := by decide +kernel
theorem dX9_fall_54 : decode cX9_fall 54 = .ok (.invokevirtual 225, 3) := by decide +kernel
theorem dX9_fall_57 : decode cX9_fall 57 = .ok (.invokevirtual 276, 3) := by decide +kernel
theorem dX9_fall_60 : decode cX9_fall 60 = .ok (.aload_n 0, 1) := by decide +kernel
theorem dX9_fall_61 : decode cX9_fall 61 = .ok (.getfield 37, 3) := by decide +kernel
theorem dX9_fall_64 : decode cX9_fall 64 = .ok (.getfield 112, 3) := by decide +kernel
theorem dX9_fall_67 : decode cX9_fall 67 = .ok (.getfield 280, 3) := by decide +kernel
theorem dX9_fall_70 : decode cX9_fall 70 = .ok (.iload_n 1, 1) := by decide +kernel
theorem dX9_fall_71 : decode cX9_fall 71 = .ok (.aaload, 1) := by decide +kernel
theorem dX9_fall_72 : decode cX9_fall 72 = .ok (.getfield 193, 3) := by decide +kernel
theorem dX9_fall_75 : decode cX9_fall 75 = .ok (.ireturn, 1) := by decide +kernel
theorem dX9_slide_0 : decode cX9_slide 0 = .ok (.aload_n 0, 1) := by decide +kernel
theorem dX9_slide_1 : decode cX9_slide 1 = .ok (.iload_n 1, 1) := by decide +kernel
theorem dX9_slide_2 : decode cX9_slide 2 = .ok (.invokevirtual 268, 3) := by decide +kernel
theorem dX9_slide_5 : decode cX9_slide 5 = .ok (.ifCond .eq 18, 3) := by decide +kernel
theorem dX9_slide_23 : decode cX9_slide 23 = .ok (.aload_n 0, 1) := by decide +kernel
theorem dX9_slide_24 : decode cX9_slide 24 = .ok (.iconst 1, 1) := by decide +kernel
theorem dX9_slide_25 : decode cX9_slide 25 = .ok (.invokevirtual 255, 3) := by decide +kernel
theorem dX9_slide_28 : decode cX9_slide 28 = .ok (.ireturn, 1) := by decide +kernel
theorem dX9_slide_8 : decode cX9_slide 8 = .ok (.aload_n 0, 1) := by decide +kernel
theorem dX9_slide_9 : decode cX9_slide 9 = .ok (.aload_n 0, 1) := by decide +kernel
theorem dX9_slide_10 : decode cX9_slide 10 = .ok (.getfield 37, 3) := by decide +kernel
theorem dX9_slide_13 : decode cX9_slide 13 = .ok (.getfield 112, 3) := by decide +kernel
theorem dX9_slide_16 : decode cX9_slide 16 = .ok (.iload_n 1, 1) := by decide +kernel
theorem dX9_slide_17 : decode cX9_slide 17 = .ok (.invokevirtual 287, 3) := by decide +kernel
theorem dX9_slide_20 : decode cX9_slide 20 = .ok (.ifCond .ne 9, 3) := by decide +kernel
theorem dX9_slide_29 : decode cX9_slide 29 = .ok (.aload_n 0, 1) := by decide +kernel
theorem dX9_slide_30 : decode cX9_slide 30 = .ok (.getfield 37, 3) := by decide +kernel
theorem dX9_slide_33 : decode cX9_slide 33 = .ok (.invokevirtual 258, 3) := by decide +kernel
theorem dX9_slide_36 : decode cX9_slide 36 = .ok (.aload_n 0, 1) := by decide +kernel
theorem dX9_slide_37 : decode cX9_slide 37 = .ok (.getfield 37, 3) := by decide +kernel
theorem dX9_slide_40 : decode cX9_slide 40 = .ok (.getfield 112, 3) := by decide +kernel
theorem dX9_slide_43 : decode cX9_slide 43 = .ok (.iload_n 1, 1) := by decide +kernel
theorem dX9_slide_44 : decode cX9_slide 44 = .ok (.aload_n 0, 1) := by decide +kernel
theorem dX9_slide_45 : decode cX9_slide 45 = .ok (.getfield 30, 3) := by decide +kernel
theorem dX9_slide_48 : decode cX9_slide 48 = .ok (.invokevirtual 291, 3) := by decide +kernel
theorem dX9_slide_51 : decode cX9_slide 51 = .ok (.ireturn, 1) := by decide +kernel
end
