theorem zE_nc {D : va_G} {A : Nat → Prop} {cs : Nat → ClassId} {tt : Nat} {U : State} (h : zE D A cs tt U) : va_Nc "java/lang/IllegalArgumentException" "java/util/NoSuchElementException" U := h.2.2.2.2.2.2.2.1
theorem okRec.o951 {cs : Nat → ClassId} {ad : Nat → Nat} {g g' : Nat → va_E} {N : Nat} {t fp im nz kz sl ho ua : Int} {st op ai fa mu tb tp : Nat → Int} (h : okRec cs ad g N t fp im nz kz sl ho ua st op ai fa mu tb tp) (hG : ∀ j, (j < 921 ∨ 952 ≤ j) → g' j = g j) : okRec cs ad g' N t fp im nz kz sl ho ua st op ai fa mu tb tp := by
  obtain ⟨a1, a2, a3, a4, a5, a6, a7, a8, ⟨ac, a9⟩, ⟨kc, a10⟩, a11, a12, a13, a14, a15, a16⟩ := h
  have hG2 : ∀ j, j < 919 → g' j = g j := fun j hj => hG j (by omega)
  exact ⟨by rw [hG2 0 (by omega)]; exact a1, a2, a3, by rw [hG2 1 (by omega)]; exact a4, a5.mv (fun j _ _ => rfl) (fun j _ _ => hG2 j (by omega)), a6.mv (fun j _ _ => rfl) (fun j _ _ => hG2 j (by omega)), a7, a8, ⟨ac, a9.mv (fun j _ _ => rfl) (fun j _ _ => hG2 j (by omega))⟩, ⟨kc, a10.mv (fun j _ _ => rfl) (fun j _ _ => hG2 j (by omega))⟩, a11.mv (fun j _ _ => rfl) (fun j _ _ => hG2 j (by omega)), a12.mv2 (fun j _ _ => rfl) (fun j _ _ => hG2 j (by omega)), a13.mv2 (fun j _ _ => rfl) (fun j _ _ => hG2 j (by omega)), a14.mv (fun j _ _ => rfl) (fun j _ _ => hG2 j (by omega)), a15.mv (fun j _ _ => rfl) (fun j _ _ => hG2 j (by omega)), a16.mv (fun j _ _ => rfl) (fun j _ h2 => hG j (by omega))⟩
/-- what a helper of the law leaves elsewhere -/
def zLF (N : Nat) (ad : Nat → Nat) (g : Nat → va_E) (N' : Nat) (ad' : Nat → Nat) (g' : Nat → va_E) : Prop := N ≤ N' ∧ (∀ j, j < N → ad' j = ad j) ∧ ∀ j, 921 ≤ j → j < 951 → g' j = g j
theorem zLF.same {N : Nat} {ad : Nat → Nat} {g : Nat → va_E} : zLF N ad g N ad g := ⟨Nat.le_refl _, fun _ _ => rfl, fun _ _ _ => rfl⟩
theorem zLF.put {cs : Nat → ClassId} {N N' : Nat} {ad ad' : Nat → Nat} {g g' g2 : Nat → va_E} {q : Nat → Int} (h : zLF N ad g N' ad' g') (he : g2 = va_up g' 951 (jA cs 1 q)) : zLF N ad g N' ad' g2 := ⟨h.1, h.2.1, fun j a b => by rw [he, va_up_ne _ _ (by omega)]; exact h.2.2 j a b⟩
theorem okRec.put {cs : Nat → ClassId} {ad : Nat → Nat} {g g2 : Nat → va_E} {N : Nat} {q : Nat → Int} {t fp im nz kz sl ho ua : Int} {st op ai fa mu tb tp : Nat → Int} (h : okRec cs ad g N t fp im nz kz sl ho ua st op ai fa mu tb tp) (he : g2 = va_up g 951 (jA cs 1 q)) : okRec cs ad g2 N t fp im nz kz sl ho ua st op ai fa mu tb tp := h.o951 (fun j hj => by rw [he, va_up_ne _ _ (by omega)])

set_option maxRecDepth 100000 in
set_option maxHeartbeats 4000000 in
theorem c_yThrown (l : Launch) (D : va_G) (A : Nat → Prop) (cs : Nat → ClassId) (tt : Nat) (N : Nat) (ad : Nat → Nat) (g : Nat → va_E) (i : Nat) (hN : i + 30 ≤ N) (F : Nat → Int) (hg : g i = mC ad i F) : zM l yX10_thrown cX10_thrown 1 (some .int) ({ frames := 1, cells := 0, slots := 0, locals := 60 } : Room) D A cs tt N ad g [.ref (ad i)] (rI0 N ad fun r g' => r = F 12 ∧ g = g') := by
  have hay1 : zAt ad (i) (ad i) := rfl
  refine z_of (by decide) (Nat.le_of_ble_eq_true rfl) ?_
  intro p e s m below meth c C hr hlk hnm
  refine z_lv (lv' := [(0, .ref (ad i))]) [0] rfl ?_
  refine z_aload_n C 0 dX10_thrown_0 rfl ?_
  refine z_get (v := .int (zI (F 12))) C (lt_A0 hN rfl) hay1 hg rfl inA_X10 12 (by decide) q_1471 rfl (fv (F := F) (f := 12) rfl) dX10_thrown_1 ?_
  exact z_iret C hr hlk dX10_thrown_4 (by decide) (by decide) ⟨_, rfl, rfl, rfl, rfl, rfl⟩

set_option maxRecDepth 100000 in
set_option maxHeartbeats 4000000 in
theorem c_L_snow (l : Launch) (D : va_G) (A : Nat → Prop) (cs : Nat → ClassId) (tt : Nat) (N : Nat) (ad : Nat → Nat) (g : Nat → va_E) (hN : 952 ≤ N) {t fp im nz kz sl ho ua : Int} {st op ai fa mu tb tp : Nat → Int} (hR : okRec cs ad g N t fp im nz kz sl ho ua st op ai fa mu tb tp) (hTr : ∀ k, k < 900 → -128 ≤ tp k ∧ tp k ≤ 127) (hl0 : l.stackTraces = false) (q : Nat → Int) (hq : g 951 = jA cs 1 q) (z : Int) (hz : -2147483648 ≤ z ∧ z ≤ 2147483647) : zMW l yL_snow cL_snow 4 (some .int) [((0 : Nat), (9 : Nat), (12 : Nat), (13 : Nat))] ({ frames := 13, cells := 6, slots := 60, locals := 780 } : Room) D A cs tt N ad g [.ref (ad 0), .int (zI z), .ref (ad 951)] (rI fun k N' ad' g' => zLF N ad g N' ad' g' ∧ ((k = 1 ∧ ¬ (0 ≤ z ∧ z ≤ t) ∧ okRec cs ad' g' N' t fp im nz kz sl ho ua st op ai fa mu tb tp ∧ g' 951 = jA cs 1 q) ∨ (k = 0 ∧ (0 ≤ z ∧ z ≤ t) ∧ ∃ r : Int, (0 ≤ r ∧ r ≤ 5) ∧ (∃ (st0 op0 ai0 fa0 mu0 : Nat → Int) (L0 : Nat → Nat → Int) (k9 : Nat) (pl9 : Int) (s9 : Int × Int × Int × (Nat → Int) × (Nat → Int) × (Nat → Int) × (Nat → Int) × (Nat → Int) × (Nat → Int) × (Nat → Int) × (Nat → Int) × (Nat → Nat → Int)), ps_run (unS tp) (z).toNat k9 (0, 0, 0, (fun _ => 0), st0, op0, ai0, fa0, mu0, tabZ, (fun _ => 0), L0) (tk_at (unS tp) (z).toNat 0) = some ((r, pl9), s9) ∧ ((r = 0 ∧ okRec cs ad' g' N' 0 pl9 0 0 kz (s9.1) (s9.2.1) 0 (s9.2.2.2.2.1) (s9.2.2.2.2.2.1) (s9.2.2.2.2.2.2.1) (s9.2.2.2.2.2.2.2.1) (s9.2.2.2.2.2.2.2.2.1) (s9.2.2.2.2.2.2.2.2.2.1) tp) ∨ (r ≠ 0 ∧ okRec cs ad' g' N' 0 pl9 im nz kz sl ho ua st op ai fa mu tb tp))) ∧ g' 951 = jA cs 1 (uZ q 0 r)))) := by
  have hay1 : zAt ad (0) (ad 0) := rfl
  have hay2 : zAt ad (951) (ad 951) := rfl
  refine z_ofW (by decide) (Nat.le_of_ble_eq_true rfl) ?_
  intro p e s m below meth c C hr hlk hxt
  refine z_lv (lv' := [(0, .ref (ad 0)), (1, .int (zI (z))), (2, .ref (ad 951))]) [0, 1, 2] rfl ?_
  refine z_aload_n C 2 dL_snow_0 rfl ?_
  refine z_iconst (z := 0) C dL_snow_1 rfl ?_
  refine z_aload_n C 0 dL_snow_2 rfl ?_
  refine z_iload_n C 1 dL_snow_3 rfl ?_
  refine z_cVX (As := [.int (zI (z))]) (rest := [.int (zI (0)), .ref (ad 951)]) (ci := 11) C (c_xSnow l D A cs tt N ad _ hN _ _ _ _ _ _ _ _ _ _ _ _ _ _ _ hR hTr hl0 z hz) (by omega) hay1 hR.1 rfl rfl mv_yX9_snow q_654 hd_yX9_snow (by decide) (Nat.le_of_ble_eq_true rfl) (by decide) dL_snow_4 rfl (?_) (kI0 fun r0 g0 h0 => ?_)
  · intro E9 N9 ad9 g9 hx9
    obtain ⟨⟨rfl, hc9⟩, e2, e3, e4⟩ := hx9
    obtain rfl := e2.symm; obtain rfl := e3.symm; obtain rfl := e4.symm
    refine z_ucatch (name := "java/lang/IllegalArgumentException") C [] ⟨0, 9, 12, 13⟩ [] hxt (fun z hz => absurd hz List.not_mem_nil) (by decide) (by decide) q_653 n_660 (fun q9 => ?_)
    refine z_astore_n (lv' := [(3, .ref q9), (0, .ref (ad 0)), (1, .int (zI (z))), (2, .ref (ad 951))]) C dL_snow_12 rfl (by decide) rfl ?_
    refine z_iconst (z := 1) C dL_snow_13 rfl ?_
    exact z_iret C hr hlk dL_snow_14 (by decide) (by decide) ⟨1, rfl, zLF.same, Or.inl ⟨rfl, hc9, hR, hq⟩⟩
  · obtain ⟨⟨hr0, hc0⟩, ⟨st0, op0, ai0, fa0, mu0, L0, k9, pl9, s9, hrun0, hR0⟩, hF0⟩ := h0
    refine z_i2l C dL_snow_7 (by omega) ?_
    have hgy3 := (hF0 (951) (by omega) (by omega)).trans hq
    refine z_last C (by omega) hay2 hgy3 (0) (by omega) (by omega) (by decide) dL_snow_8 (fun gy4 egy5 => ?_)
    have hgy6 := up_s egy5
    refine z_goto (tgt := 15) C dL_snow_9 (by decide) ?_
    refine z_iconst (z := 0) C dL_snow_15 rfl ?_
    exact z_iret C hr hlk dL_snow_16 (by decide) (by decide) ⟨0, rfl, (show zLF N ad g N ad g0 from ⟨Nat.le_refl _, fun _ _ => rfl, fun j a b => hF0 j (by omega) (by omega)⟩).put egy5, Or.inr ⟨rfl, hc0, r0, hr0, ⟨st0, op0, ai0, fa0, mu0, L0, k9, pl9, s9, hrun0, hR0.elim (fun h9 => Or.inl ⟨h9.1, h9.2.put egy5⟩) (fun h9 => Or.inr ⟨h9.1, h9.2.put egy5⟩)⟩, up_s egy5⟩⟩

set_option maxRecDepth 100000 in
set_option maxHeartbeats 4000000 in
theorem c_L_count (l : Launch) (D : va_G) (A : Nat → Prop) (cs : Nat → ClassId) (tt : Nat) (N : Nat) (ad : Nat → Nat) (g : Nat → va_E) (hN : 952 ≤ N) {t fp im nz kz sl ho ua : Int} {st op ai fa mu tb tp : Nat → Int} (hR : okRec cs ad g N t fp im nz kz sl ho ua st op ai fa mu tb tp) (hl0 : l.stackTraces = false) (q : Nat → Int) (hq : g 951 = jA cs 1 q) (z : Int) (hz : -2147483648 ≤ z ∧ z ≤ 2147483647) : zMW l yL_count cL_count 4 (some .int) [((0 : Nat), (9 : Nat), (12 : Nat), (18 : Nat))] ({ frames := 13, cells := 6, slots := 36, locals := 780 } : Room) D A cs tt N ad g [.ref (ad 0), .int (zI z), .ref (ad 951)] (rI fun _ N' ad' g' => zLF N ad g N' ad' g' ∧ okRec cs ad' g' N' t fp im nz kz sl ho ua st op ai fa mu tb tp ∧ ∃ q' : Nat → Int, g' 951 = jA cs 1 q') := by
  have hay1 : zAt ad (0) (ad 0) := rfl
  have hay2 : zAt ad (951) (ad 951) := rfl
  refine z_ofW (by decide) (Nat.le_of_ble_eq_true rfl) ?_
  intro p e s m below meth c C hr hlk hxt
  refine z_lv (lv' := [(0, .ref (ad 0)), (1, .int (zI (z))), (2, .ref (ad 951))]) [0, 1, 2] rfl ?_
  refine z_aload_n C 2 dL_count_0 rfl ?_
  refine z_iconst (z := 0) C dL_count_1 rfl ?_
  refine z_aload_n C 0 dL_count_2 rfl ?_
  refine z_iload_n C 1 dL_count_3 rfl ?_
  refine z_cVX (As := [.int (zI (z))]) (rest := [.int (zI (0)), .ref (ad 951)]) (ci := 11) C (c_X9_count l D A cs tt N ad _ hN _ _ _ _ _ _ _ _ _ _ _ _ _ _ _ hR hl0 z hz) (by omega) hay1 hR.1 rfl rfl mv_yX9_count q_874 hd_yX9_count (by decide) (Nat.le_of_ble_eq_true rfl) (by decide) dL_count_4 rfl (?_) (kI0 fun r0 g0 h0 => ?_)
  · intro E9 N9 ad9 g9 hx9
    obtain ⟨rfl, e2, e3, e4⟩ := hx9
    obtain rfl := e2.symm; obtain rfl := e3.symm; obtain rfl := e4.symm
    refine z_ucatch (name := "java/util/NoSuchElementException") C [] ⟨0, 9, 12, 18⟩ [] hxt (fun z hz => absurd hz List.not_mem_nil) (by decide) (by decide) q_873 n_906 (fun q9 => ?_)
    refine z_astore_n (lv' := [(3, .ref q9), (0, .ref (ad 0)), (1, .int (zI (z))), (2, .ref (ad 951))]) C dL_count_12 rfl (by decide) rfl ?_
    refine z_iconst (z := 1) C dL_count_13 rfl ?_
    exact z_iret C hr hlk dL_count_14 (by decide) (by decide) ⟨1, rfl, zLF.same, hR, q, hq⟩
  · obtain ⟨hr0, rfl⟩ := h0
    refine z_i2l C dL_count_7 (by omega) ?_
    refine z_last C (by omega) hay2 hq (0) (by omega) (by omega) (by decide) dL_count_8 (fun gy3 egy4 => ?_)
    have hgy5 := up_s egy4
    refine z_goto (tgt := 15) C dL_count_9 (by decide) ?_
    refine z_iconst (z := 0) C dL_count_15 rfl ?_
    exact z_iret C hr hlk dL_count_16 (by decide) (by decide) ⟨0, rfl, zLF.same.put egy4, hR.put egy4, _, up_s egy4⟩

set_option maxRecDepth 100000 in
set_option maxHeartbeats 4000000 in
theorem c_L_forecast (l : Launch) (D : va_G) (A : Nat → Prop) (cs : Nat → ClassId) (tt : Nat) (N : Nat) (ad : Nat → Nat) (g : Nat → va_E) (hN : 952 ≤ N) {t fp im nz kz sl ho ua : Int} {st op ai fa mu tb tp : Nat → Int} (hR : okRec cs ad g N t fp im nz kz sl ho ua st op ai fa mu tb tp) (hl0 : l.stackTraces = false) (q : Nat → Int) (hq : g 951 = jA cs 1 q) (z : Int) (hz : -2147483648 ≤ z ∧ z ≤ 2147483647) (z1 : Int) (hz1 : -2147483648 ≤ z1 ∧ z1 ≤ 2147483647) : zMW l yL_forecast cL_forecast 5 (some .int) [((0 : Nat), (10 : Nat), (13 : Nat), (18 : Nat))] ({ frames := 13, cells := 6, slots := 36, locals := 780 } : Room) D A cs tt N ad g [.ref (ad 0), .int (zI z), .int (zI z1), .ref (ad 951)] (rI fun k N' ad' g' => zLF N ad g N' ad' g' ∧ okRec cs ad' g' N' t fp im nz kz sl ho ua st op ai fa mu tb tp ∧ ((k = 1 ∧ ¬ ((0 ≤ z ∧ z < ho) ∧ 0 ≤ z1 ∧ z1 ≤ 2) ∧ g' 951 = jA cs 1 q) ∨ (k = 0 ∧ ∃ r : Int, (-2147483648 ≤ r ∧ r ≤ 2147483647) ∧ ((0 ≤ z ∧ z < ho) ∧ ((z1 = 0 ∧ zI (ai (z).toNat) = zI r) ∨ (z1 = 1 ∧ zI (fa (z).toNat) = zI r) ∨ (z1 = 2 ∧ zI (mu (z).toNat) = zI r))) ∧ g' 951 = jA cs 1 (uZ q 0 r)))) := by
  have hay1 : zAt ad (0) (ad 0) := rfl
  have hay2 : zAt ad (951) (ad 951) := rfl
  refine z_ofW (by decide) (Nat.le_of_ble_eq_true rfl) ?_
  intro p e s m below meth c C hr hlk hxt
  refine z_lv (lv' := [(0, .ref (ad 0)), (1, .int (zI (z))), (2, .int (zI (z1))), (3, .ref (ad 951))]) [0, 1, 2, 3] rfl ?_
  refine z_aload_n C 3 dL_forecast_0 rfl ?_
  refine z_iconst (z := 0) C dL_forecast_1 rfl ?_
  refine z_aload_n C 0 dL_forecast_2 rfl ?_
  refine z_iload_n C 1 dL_forecast_3 rfl ?_
  refine z_iload_n C 2 dL_forecast_4 rfl ?_
  refine z_cVX (As := [.int (zI (z)), .int (zI (z1))]) (rest := [.int (zI (0)), .ref (ad 951)]) (ci := 11) C (c_X9_forecast l D A cs tt N ad _ hN _ _ _ _ _ _ _ _ _ _ _ _ _ _ _ hR hl0 z hz z1 hz1) (by omega) hay1 hR.1 rfl rfl mv_yX9_forecast q_923 hd_yX9_forecast (by decide) (Nat.le_of_ble_eq_true rfl) (by decide) dL_forecast_5 rfl (?_) (kI0 fun r0 g0 h0 => ?_)
  · intro E9 N9 ad9 g9 hx9
    obtain ⟨⟨rfl, hc9⟩, e2, e3, e4⟩ := hx9
    obtain rfl := e2.symm; obtain rfl := e3.symm; obtain rfl := e4.symm
    refine z_ucatch (name := "java/util/NoSuchElementException") C [] ⟨0, 10, 13, 18⟩ [] hxt (fun z hz => absurd hz List.not_mem_nil) (by decide) (by decide) q_873 n_906 (fun q9 => ?_)
    refine z_astore (lv' := [(4, .ref q9), (0, .ref (ad 0)), (1, .int (zI (z))), (2, .int (zI (z1))), (3, .ref (ad 951))]) C dL_forecast_13 (by decide) rfl ?_
    refine z_iconst (z := 1) C dL_forecast_15 rfl ?_
    exact z_iret C hr hlk dL_forecast_16 (by decide) (by decide) ⟨1, rfl, zLF.same, hR, Or.inl ⟨rfl, hc9, hq⟩⟩
  · obtain ⟨hr0, hc0, rfl⟩ := h0
    refine z_i2l C dL_forecast_8 (by omega) ?_
    refine z_last C (by omega) hay2 hq (0) (by omega) (by omega) (by decide) dL_forecast_9 (fun gy3 egy4 => ?_)
    have hgy5 := up_s egy4
    refine z_goto (tgt := 17) C dL_forecast_10 (by decide) ?_
    refine z_iconst (z := 0) C dL_forecast_17 rfl ?_
    exact z_iret C hr hlk dL_forecast_18 (by decide) (by decide) ⟨0, rfl, zLF.same.put egy4, hR.put egy4, Or.inr ⟨rfl, r0, hr0, hc0, up_s egy4⟩⟩

set_option maxRecDepth 100000 in
set_option maxHeartbeats 4000000 in
theorem c_L_slope (l : Launch) (D : va_G) (A : Nat → Prop) (cs : Nat → ClassId) (tt : Nat) (N : Nat) (ad : Nat → Nat) (g : Nat → va_E) (hN : 952 ≤ N) {t fp im nz kz sl ho ua : Int} {st op ai fa mu tb tp : Nat → Int} (hR : okRec cs ad g N t fp im nz kz sl ho ua st op ai fa mu tb tp) (hl0 : l.stackTraces = false) (q : Nat → Int) (hq : g 951 = jA cs 1 q) (z : Int) (hz : -2147483648 ≤ z ∧ z ≤ 2147483647) (z1 : Int) (hz1 : -2147483648 ≤ z1 ∧ z1 ≤ 2147483647) : zMW l yL_slope cL_slope 5 (some .int) [((0 : Nat), (10 : Nat), (13 : Nat), (18 : Nat))] ({ frames := 13, cells := 6, slots := 36, locals := 780 } : Room) D A cs tt N ad g [.ref (ad 0), .int (zI z), .int (zI z1), .ref (ad 951)] (rI fun _ N' ad' g' => zLF N ad g N' ad' g' ∧ okRec cs ad' g' N' t fp im nz kz sl ho ua st op ai fa mu tb tp ∧ ∃ q' : Nat → Int, g' 951 = jA cs 1 q') := by
  have hay1 : zAt ad (0) (ad 0) := rfl
  have hay2 : zAt ad (951) (ad 951) := rfl
  refine z_ofW (by decide) (Nat.le_of_ble_eq_true rfl) ?_
  intro p e s m below meth c C hr hlk hxt
  refine z_lv (lv' := [(0, .ref (ad 0)), (1, .int (zI (z))), (2, .int (zI (z1))), (3, .ref (ad 951))]) [0, 1, 2, 3] rfl ?_
  refine z_aload_n C 3 dL_slope_0 rfl ?_
  refine z_iconst (z := 0) C dL_slope_1 rfl ?_
  refine z_aload_n C 0 dL_slope_2 rfl ?_
  refine z_iload_n C 1 dL_slope_3 rfl ?_
  refine z_iload_n C 2 dL_slope_4 rfl ?_
  refine z_cVX (As := [.int (zI (z)), .int (zI (z1))]) (rest := [.int (zI (0)), .ref (ad 951)]) (ci := 11) C (c_X9_slope l D A cs tt N ad _ hN _ _ _ _ _ _ _ _ _ _ _ _ _ _ _ hR hl0 z hz z1 hz1) (by omega) hay1 hR.1 rfl rfl mv_yX9_slope q_932 hd_yX9_slope (by decide) (Nat.le_of_ble_eq_true rfl) (by decide) dL_slope_5 rfl (?_) (kI0 fun r0 g0 h0 => ?_)
  · intro E9 N9 ad9 g9 hx9
    obtain ⟨rfl, e2, e3, e4⟩ := hx9
    obtain rfl := e2.symm; obtain rfl := e3.symm; obtain rfl := e4.symm
    refine z_ucatch (name := "java/util/NoSuchElementException") C [] ⟨0, 10, 13, 18⟩ [] hxt (fun z hz => absurd hz List.not_mem_nil) (by decide) (by decide) q_873 n_906 (fun q9 => ?_)
    refine z_astore (lv' := [(4, .ref q9), (0, .ref (ad 0)), (1, .int (zI (z))), (2, .int (zI (z1))), (3, .ref (ad 951))]) C dL_slope_13 (by decide) rfl ?_
    refine z_iconst (z := 1) C dL_slope_15 rfl ?_
    exact z_iret C hr hlk dL_slope_16 (by decide) (by decide) ⟨1, rfl, zLF.same, hR, q, hq⟩
  · obtain ⟨hr0, rfl⟩ := h0
    refine z_i2l C dL_slope_8 (by omega) ?_
    refine z_last C (by omega) hay2 hq (0) (by omega) (by omega) (by decide) dL_slope_9 (fun gy3 egy4 => ?_)
    have hgy5 := up_s egy4
    refine z_goto (tgt := 17) C dL_slope_10 (by decide) ?_
    refine z_iconst (z := 0) C dL_slope_17 rfl ?_
    exact z_iret C hr hlk dL_slope_18 (by decide) (by decide) ⟨0, rfl, zLF.same.put egy4, hR.put egy4, _, up_s egy4⟩

set_option maxRecDepth 100000 in
set_option maxHeartbeats 4000000 in
theorem c_L_layer (l : Launch) (D : va_G) (A : Nat → Prop) (cs : Nat → ClassId) (tt : Nat) (N : Nat) (ad : Nat → Nat) (g : Nat → va_E) (hN : 952 ≤ N) {t fp im nz kz sl ho ua : Int} {st op ai fa mu tb tp : Nat → Int} (hR : okRec cs ad g N t fp im nz kz sl ho ua st op ai fa mu tb tp) (hl0 : l.stackTraces = false) (q : Nat → Int) (hq : g 951 = jA cs 1 q) (z : Int) (hz : -2147483648 ≤ z ∧ z ≤ 2147483647) (z1 : Int) (hz1 : -2147483648 ≤ z1 ∧ z1 ≤ 2147483647) (z2 : Int) (hz2 : -2147483648 ≤ z2 ∧ z2 ≤ 2147483647) : zMW l yL_layer cL_layer 6 (some .int) [((0 : Nat), (12 : Nat), (15 : Nat), (18 : Nat))] ({ frames := 13, cells := 6, slots := 36, locals := 780 } : Room) D A cs tt N ad g [.ref (ad 0), .int (zI z), .int (zI z1), .int (zI z2), .ref (ad 951)] (rI fun _ N' ad' g' => zLF N ad g N' ad' g' ∧ okRec cs ad' g' N' t fp im nz kz sl ho ua st op ai fa mu tb tp ∧ ∃ q' : Nat → Int, g' 951 = jA cs 1 q') := by
  have hay1 : zAt ad (0) (ad 0) := rfl
  have hay2 : zAt ad (951) (ad 951) := rfl
  refine z_ofW (by decide) (Nat.le_of_ble_eq_true rfl) ?_
  intro p e s m below meth c C hr hlk hxt
  refine z_lv (lv' := [(0, .ref (ad 0)), (1, .int (zI (z))), (2, .int (zI (z1))), (3, .int (zI (z2))), (4, .ref (ad 951))]) [0, 1, 2, 3, 4] rfl ?_
  refine z_aload C 4 dL_layer_0 rfl ?_
  refine z_iconst (z := 0) C dL_layer_2 rfl ?_
  refine z_aload_n C 0 dL_layer_3 rfl ?_
  refine z_iload_n C 1 dL_layer_4 rfl ?_
  refine z_iload_n C 2 dL_layer_5 rfl ?_
  refine z_iload_n C 3 dL_layer_6 rfl ?_
  refine z_cVX (As := [.int (zI (z)), .int (zI (z1)), .int (zI (z2))]) (rest := [.int (zI (0)), .ref (ad 951)]) (ci := 11) C (c_X9_layer l D A cs tt N ad _ hN _ _ _ _ _ _ _ _ _ _ _ _ _ _ _ hR hl0 z hz z1 hz1 z2 hz2) (by omega) hay1 hR.1 rfl rfl mv_yX9_layer q_951 hd_yX9_layer (by decide) (Nat.le_of_ble_eq_true rfl) (by decide) dL_layer_7 rfl (?_) (kI0 fun r0 g0 h0 => ?_)
  · intro E9 N9 ad9 g9 hx9
    obtain ⟨rfl, e2, e3, e4⟩ := hx9
    obtain rfl := e2.symm; obtain rfl := e3.symm; obtain rfl := e4.symm
    refine z_ucatch (name := "java/util/NoSuchElementException") C [] ⟨0, 12, 15, 18⟩ [] hxt (fun z hz => absurd hz List.not_mem_nil) (by decide) (by decide) q_873 n_906 (fun q9 => ?_)
    refine z_astore (lv' := [(5, .ref q9), (0, .ref (ad 0)), (1, .int (zI (z))), (2, .int (zI (z1))), (3, .int (zI (z2))), (4, .ref (ad 951))]) C dL_layer_15 (by decide) rfl ?_
    refine z_iconst (z := 1) C dL_layer_17 rfl ?_
    exact z_iret C hr hlk dL_layer_18 (by decide) (by decide) ⟨1, rfl, zLF.same, hR, q, hq⟩
  · obtain ⟨hr0, rfl⟩ := h0
    refine z_i2l C dL_layer_10 (by omega) ?_
    refine z_last C (by omega) hay2 hq (0) (by omega) (by omega) (by decide) dL_layer_11 (fun gy3 egy4 => ?_)
    have hgy5 := up_s egy4
    refine z_goto (tgt := 19) C dL_layer_12 (by decide) ?_
    refine z_iconst (z := 0) C dL_layer_19 rfl ?_
    exact z_iret C hr hlk dL_layer_20 (by decide) (by decide) ⟨0, rfl, zLF.same.put egy4, hR.put egy4, _, up_s egy4⟩

set_option maxRecDepth 100000 in
set_option maxHeartbeats 4000000 in
theorem c_L_told (l : Launch) (D : va_G) (A : Nat → Prop) (cs : Nat → ClassId) (tt : Nat) (N : Nat) (ad : Nat → Nat) (g : Nat → va_E) (hN : 952 ≤ N) {t fp im nz kz sl ho ua : Int} {st op ai fa mu tb tp : Nat → Int} (hR : okRec cs ad g N t fp im nz kz sl ho ua st op ai fa mu tb tp) (hl0 : l.stackTraces = false) (q : Nat → Int) (hq : g 951 = jA cs 1 q) (z : Int) (hz : -2147483648 ≤ z ∧ z ≤ 2147483647) (z1 : Int) (hz1 : -2147483648 ≤ z1 ∧ z1 ≤ 2147483647) (z2 : Int) (hz2 : -2147483648 ≤ z2 ∧ z2 ≤ 2147483647) : zMW l yL_told cL_told 6 (some .int) [((0 : Nat), (12 : Nat), (15 : Nat), (18 : Nat))] ({ frames := 10, cells := 16, slots := 2150, locals := 600 } : Room) D A cs tt N ad g [.ref (ad 0), .int (zI z), .int (zI z1), .int (zI z2), .ref (ad 951)] (rI fun _ N' ad' g' => zLF N ad g N' ad' g' ∧ okRec cs ad' g' N' t fp im nz kz sl ho ua st op ai fa mu tb tp ∧ ∃ q' : Nat → Int, g' 951 = jA cs 1 q') := by
  have hay1 : zAt ad (0) (ad 0) := rfl
  have hay2 : zAt ad (951) (ad 951) := rfl
  refine z_ofW (by decide) (Nat.le_of_ble_eq_true rfl) ?_
  intro p e s m below meth c C hr hlk hxt
  refine z_lv (lv' := [(0, .ref (ad 0)), (1, .int (zI (z))), (2, .int (zI (z1))), (3, .int (zI (z2))), (4, .ref (ad 951))]) [0, 1, 2, 3, 4] rfl ?_
  refine z_aload C 4 dL_told_0 rfl ?_
  refine z_iconst (z := 0) C dL_told_2 rfl ?_
  refine z_aload_n C 0 dL_told_3 rfl ?_
  refine z_iload_n C 1 dL_told_4 rfl ?_
  refine z_iload_n C 2 dL_told_5 rfl ?_
  refine z_iload_n C 3 dL_told_6 rfl ?_
  refine z_cVX (As := [.int (zI (z)), .int (zI (z1)), .int (zI (z2))]) (rest := [.int (zI (0)), .ref (ad 951)]) (ci := 11) C (c_X9_told l D A cs tt N ad _ hN _ _ _ _ _ _ _ _ _ _ _ _ _ _ _ hR hl0 z hz z1 hz1 z2 hz2) (by omega) hay1 hR.1 rfl rfl mv_yX9_told q_970 hd_yX9_told (by decide) (Nat.le_of_ble_eq_true rfl) (by decide) dL_told_7 rfl (?_) (kI fun r0 N0 ad0 g0 h0 => ?_)
  · intro E9 N9 ad9 g9 hx9
    obtain ⟨rfl, hR9, hG9⟩ := hx9
    refine z_ucatch (name := "java/util/NoSuchElementException") C [] ⟨0, 12, 15, 18⟩ [] hxt (fun z hz => absurd hz List.not_mem_nil) (by decide) (by decide) q_873 n_906 (fun q9 => ?_)
    refine z_astore (lv' := [(5, .ref q9), (0, .ref (ad 0)), (1, .int (zI (z))), (2, .int (zI (z1))), (3, .int (zI (z2))), (4, .ref (ad 951))]) C dL_told_15 (by decide) rfl ?_
    refine z_iconst (z := 1) C dL_told_17 rfl ?_
    exact z_iret C hr hlk dL_told_18 (by decide) (by decide) ⟨1, rfl, ⟨hG9.1, hG9.2.1, fun j a b => hG9.2.2 j (by omega) (by omega) (by omega)⟩, hR9, q, (hG9.2.2 951 (by omega) (by omega) (by omega)).trans hq⟩
  · obtain ⟨hR0, hG0⟩ := h0
    obtain ⟨hN0, hA0, hF0⟩ := id hG0
    obtain ⟨xy3, exy4, hxy5⟩ := zI_of (zI (r0))
    rw [exy4]
    refine z_i2l C dL_told_10 (by omega) ?_
    have hay6 : zAt ad0 (951) (ad 951) := (hA0 (951) (by omega)).trans hay2
    have hgy7 := (hF0 (951) (by omega) (by omega) (by omega)).trans hq
    refine z_last C (by omega) hay6 hgy7 (0) (by omega) (by omega) (by decide) dL_told_11 (fun gy8 egy9 => ?_)
    have hgy10 := up_s egy9
    refine z_goto (tgt := 19) C dL_told_12 (by decide) ?_
    refine z_iconst (z := 0) C dL_told_19 rfl ?_
    exact z_iret C hr hlk dL_told_20 (by decide) (by decide) ⟨0, rfl, (show zLF N ad g N0 ad0 g0 from ⟨hN0, hA0, fun j a b => hF0 j (by omega) (by omega) (by omega)⟩).put egy9, hR0.put egy9, _, up_s egy9⟩

set_option maxRecDepth 100000 in
set_option maxHeartbeats 4000000 in
theorem c_L_then (l : Launch) (D : va_G) (A : Nat → Prop) (cs : Nat → ClassId) (tt : Nat) (N : Nat) (ad : Nat → Nat) (g : Nat → va_E) (hN : 952 ≤ N) {t fp im nz kz sl ho ua : Int} {st op ai fa mu tb tp : Nat → Int} (hR : okRec cs ad g N t fp im nz kz sl ho ua st op ai fa mu tb tp) (hl0 : l.stackTraces = false) (q : Nat → Int) (hq : g 951 = jA cs 1 q) (z : Int) (hz : -2147483648 ≤ z ∧ z ≤ 2147483647) (z1 : Int) (hz1 : -2147483648 ≤ z1 ∧ z1 ≤ 2147483647) (z2 : Int) (hz2 : -2147483648 ≤ z2 ∧ z2 ≤ 2147483647) : zMW l yL_then cL_then 6 (some .int) [((0 : Nat), (12 : Nat), (15 : Nat), (18 : Nat)), ((0 : Nat), (12 : Nat), (19 : Nat), (13 : Nat))] ({ frames := 13, cells := 6, slots := 60, locals := 780 } : Room) D A cs tt N ad g [.ref (ad 0), .int (zI z), .int (zI z1), .int (zI z2), .ref (ad 951)] (rI fun _ N' ad' g' => zLF N ad g N' ad' g' ∧ okRec cs ad' g' N' t fp im nz kz sl ho ua st op ai fa mu tb tp ∧ ∃ q' : Nat → Int, g' 951 = jA cs 1 q') := by
  have hay1 : zAt ad (0) (ad 0) := rfl
  have hay2 : zAt ad (951) (ad 951) := rfl
  refine z_ofW (by decide) (Nat.le_of_ble_eq_true rfl) ?_
  intro p e s m below meth c C hr hlk hxt
  refine z_lv (lv' := [(0, .ref (ad 0)), (1, .int (zI (z))), (2, .int (zI (z1))), (3, .int (zI (z2))), (4, .ref (ad 951))]) [0, 1, 2, 3, 4] rfl ?_
  refine z_aload C 4 dL_then_0 rfl ?_
  refine z_iconst (z := 0) C dL_then_2 rfl ?_
  refine z_aload_n C 0 dL_then_3 rfl ?_
  refine z_iload_n C 1 dL_then_4 rfl ?_
  refine z_iload_n C 2 dL_then_5 rfl ?_
  refine z_iload_n C 3 dL_then_6 rfl ?_
  refine z_cVX (As := [.int (zI (z)), .int (zI (z1)), .int (zI (z2))]) (rest := [.int (zI (0)), .ref (ad 951)]) (ci := 11) C (c_X9_then l D A cs tt N ad _ hN _ _ _ _ _ _ _ _ _ _ _ _ _ _ _ hR hl0 z hz z1 hz1 z2 hz2) (by omega) hay1 hR.1 rfl rfl mv_yX9_then q_1216 hd_yX9_then (by decide) (Nat.le_of_ble_eq_true rfl) (by decide) dL_then_7 rfl (?_) (kI0 fun r0 g0 h0 => ?_)
  · intro E9 N9 ad9 g9 hx9
    obtain ⟨h9, e2, e3, e4⟩ := hx9
    obtain rfl := e2.symm; obtain rfl := e3.symm; obtain rfl := e4.symm
    rcases h9 with rfl | rfl
    · refine z_ucatch (name := "java/util/NoSuchElementException") C [] ⟨0, 12, 15, 18⟩ [⟨0, 12, 19, 13⟩] hxt (fun z hz => absurd hz List.not_mem_nil) (by decide) (by decide) q_873 n_906 (fun q9 => ?_)
      refine z_astore (lv' := [(5, .ref q9), (0, .ref (ad 0)), (1, .int (zI (z))), (2, .int (zI (z1))), (3, .int (zI (z2))), (4, .ref (ad 951))]) C dL_then_15 (by decide) rfl ?_
      refine z_iconst (z := 1) C dL_then_17 rfl ?_
      exact z_iret C hr hlk dL_then_18 (by decide) (by decide) ⟨1, rfl, zLF.same, hR, q, hq⟩
    · refine z_ucatch (name := "java/lang/IllegalArgumentException") C [⟨0, 12, 15, 18⟩] ⟨0, 12, 19, 13⟩ [] hxt (fun z hz => by obtain rfl := List.mem_singleton.mp hz; exact Or.inr ⟨by decide, _, q_873, zE_nc C.2.2.2.2.2⟩) (by decide) (by decide) q_653 n_660 (fun q9 => ?_)
      refine z_astore (lv' := [(5, .ref q9), (0, .ref (ad 0)), (1, .int (zI (z))), (2, .int (zI (z1))), (3, .int (zI (z2))), (4, .ref (ad 951))]) C dL_then_19 (by decide) rfl ?_
      refine z_iconst (z := 2) C dL_then_21 rfl ?_
      exact z_iret C hr hlk dL_then_22 (by decide) (by decide) ⟨2, rfl, zLF.same, hR, q, hq⟩
  · obtain ⟨hr0, hR0, hF0⟩ := h0
    refine z_i2l C dL_then_10 (by omega) ?_
    have hgy3 := (hF0 (951) (by omega) (by omega)).trans hq
    refine z_last C (by omega) hay2 hgy3 (0) (by omega) (by omega) (by decide) dL_then_11 (fun gy4 egy5 => ?_)
    have hgy6 := up_s egy5
    refine z_goto (tgt := 23) C dL_then_12 (by decide) ?_
    refine z_iconst (z := 0) C dL_then_23 rfl ?_
    exact z_iret C hr hlk dL_then_24 (by decide) (by decide) ⟨0, rfl, (show zLF N ad g N ad g0 from ⟨Nat.le_refl _, fun _ _ => rfl, fun j a b => hF0 j (by omega) (by omega)⟩).put egy5, hR0.put egy5, _, up_s egy5⟩

set_option maxRecDepth 100000 in
set_option maxHeartbeats 4000000 in
theorem c_L_once (l : Launch) (D : va_G) (A : Nat → Prop) (cs : Nat → ClassId) (tt : Nat) (N : Nat) (ad : Nat → Nat) (g : Nat → va_E) (hN : 952 ≤ N) {t fp im nz kz sl ho ua : Int} {st op ai fa mu tb tp : Nat → Int} (hR : okRec cs ad g N t fp im nz kz sl ho ua st op ai fa mu tb tp) (hl0 : l.stackTraces = false) (q : Nat → Int) (hq : g 951 = jA cs 1 q) (z : Int) (hz : -2147483648 ≤ z ∧ z ≤ 2147483647) (z1 : Int) (hz1 : -2147483648 ≤ z1 ∧ z1 ≤ 2147483647) : zMW l yL_once cL_once 5 (some .int) [((0 : Nat), (10 : Nat), (13 : Nat), (18 : Nat))] ({ frames := 13, cells := 6, slots := 60, locals := 780 } : Room) D A cs tt N ad g [.ref (ad 0), .int (zI z), .int (zI z1), .ref (ad 951)] (rI fun _ N' ad' g' => zLF N ad g N' ad' g' ∧ okRec cs ad' g' N' t fp im nz kz sl ho ua st op ai fa mu tb tp ∧ ∃ q' : Nat → Int, g' 951 = jA cs 1 q') := by
  have hay1 : zAt ad (0) (ad 0) := rfl
  have hay2 : zAt ad (951) (ad 951) := rfl
  refine z_ofW (by decide) (Nat.le_of_ble_eq_true rfl) ?_
  intro p e s m below meth c C hr hlk hxt
  refine z_lv (lv' := [(0, .ref (ad 0)), (1, .int (zI (z))), (2, .int (zI (z1))), (3, .ref (ad 951))]) [0, 1, 2, 3] rfl ?_
  refine z_aload_n C 3 dL_once_0 rfl ?_
  refine z_iconst (z := 0) C dL_once_1 rfl ?_
  refine z_aload_n C 0 dL_once_2 rfl ?_
  refine z_iload_n C 1 dL_once_3 rfl ?_
  refine z_iload_n C 2 dL_once_4 rfl ?_
  refine z_cVX (As := [.int (zI (z)), .int (zI (z1))]) (rest := [.int (zI (0)), .ref (ad 951)]) (ci := 11) C (c_X9_once l D A cs tt N ad _ hN _ _ _ _ _ _ _ _ _ _ _ _ _ _ _ hR hl0 z hz z1 hz1) (by omega) hay1 hR.1 rfl rfl mv_yX9_once q_1236 hd_yX9_once (by decide) (Nat.le_of_ble_eq_true rfl) (by decide) dL_once_5 rfl (?_) (kI0 fun r0 g0 h0 => ?_)
  · intro E9 N9 ad9 g9 hx9
    obtain ⟨rfl, e2, e3, e4⟩ := hx9
    obtain rfl := e2.symm; obtain rfl := e3.symm; obtain rfl := e4.symm
    refine z_ucatch (name := "java/util/NoSuchElementException") C [] ⟨0, 10, 13, 18⟩ [] hxt (fun z hz => absurd hz List.not_mem_nil) (by decide) (by decide) q_873 n_906 (fun q9 => ?_)
    refine z_astore (lv' := [(4, .ref q9), (0, .ref (ad 0)), (1, .int (zI (z))), (2, .int (zI (z1))), (3, .ref (ad 951))]) C dL_once_13 (by decide) rfl ?_
    refine z_iconst (z := 1) C dL_once_15 rfl ?_
    exact z_iret C hr hlk dL_once_16 (by decide) (by decide) ⟨1, rfl, zLF.same, hR, q, hq⟩
  · obtain ⟨hr0, hR0, hF0⟩ := h0
    refine z_i2l C dL_once_8 (by omega) ?_
    have hgy3 := (hF0 (951) (by omega) (by omega)).trans hq
    refine z_last C (by omega) hay2 hgy3 (0) (by omega) (by omega) (by decide) dL_once_9 (fun gy4 egy5 => ?_)
    have hgy6 := up_s egy5
    refine z_goto (tgt := 17) C dL_once_10 (by decide) ?_
    refine z_iconst (z := 0) C dL_once_17 rfl ?_
    exact z_iret C hr hlk dL_once_18 (by decide) (by decide) ⟨0, rfl, (show zLF N ad g N ad g0 from ⟨Nat.le_refl _, fun _ _ => rfl, fun j a b => hF0 j (by omega) (by omega)⟩).put egy5, hR0.put egy5, _, up_s egy5⟩

set_option maxRecDepth 100000 in
set_option maxHeartbeats 4000000 in
theorem c_L_gone (l : Launch) (D : va_G) (A : Nat → Prop) (cs : Nat → ClassId) (tt : Nat) (N : Nat) (ad : Nat → Nat) (g : Nat → va_E) (hN : 952 ≤ N) {t fp im nz kz sl ho ua : Int} {st op ai fa mu tb tp : Nat → Int} (hR : okRec cs ad g N t fp im nz kz sl ho ua st op ai fa mu tb tp) (hl0 : l.stackTraces = false) (q : Nat → Int) (hq : g 951 = jA cs 1 q) (z : Int) (hz : -2147483648 ≤ z ∧ z ≤ 2147483647) : zMW l yL_gone cL_gone 4 (some .int) [((0 : Nat), (9 : Nat), (12 : Nat), (18 : Nat))] ({ frames := 13, cells := 6, slots := 60, locals := 780 } : Room) D A cs tt N ad g [.ref (ad 0), .int (zI z), .ref (ad 951)] (rI fun _ N' ad' g' => zLF N ad g N' ad' g' ∧ okRec cs ad' g' N' t fp im nz kz sl ho ua st op ai fa mu tb tp ∧ ∃ q' : Nat → Int, g' 951 = jA cs 1 q') := by
  have hay1 : zAt ad (0) (ad 0) := rfl
  have hay2 : zAt ad (951) (ad 951) := rfl
  refine z_ofW (by decide) (Nat.le_of_ble_eq_true rfl) ?_
  intro p e s m below meth c C hr hlk hxt
  refine z_lv (lv' := [(0, .ref (ad 0)), (1, .int (zI (z))), (2, .ref (ad 951))]) [0, 1, 2] rfl ?_
  refine z_aload_n C 2 dL_gone_0 rfl ?_
  refine z_iconst (z := 0) C dL_gone_1 rfl ?_
  refine z_aload_n C 0 dL_gone_2 rfl ?_
  refine z_iload_n C 1 dL_gone_3 rfl ?_
  refine z_cVX (As := [.int (zI (z))]) (rest := [.int (zI (0)), .ref (ad 951)]) (ci := 11) C (c_X9_gone l D A cs tt N ad _ hN _ _ _ _ _ _ _ _ _ _ _ _ _ _ _ hR hl0 z hz) (by omega) hay1 hR.1 rfl rfl mv_yX9_gone q_1243 hd_yX9_gone (by decide) (Nat.le_of_ble_eq_true rfl) (by decide) dL_gone_4 rfl (?_) (kI0 fun r0 g0 h0 => ?_)
  · intro E9 N9 ad9 g9 hx9
    obtain ⟨rfl, e2, e3, e4⟩ := hx9
    obtain rfl := e2.symm; obtain rfl := e3.symm; obtain rfl := e4.symm
    refine z_ucatch (name := "java/util/NoSuchElementException") C [] ⟨0, 9, 12, 18⟩ [] hxt (fun z hz => absurd hz List.not_mem_nil) (by decide) (by decide) q_873 n_906 (fun q9 => ?_)
    refine z_astore_n (lv' := [(3, .ref q9), (0, .ref (ad 0)), (1, .int (zI (z))), (2, .ref (ad 951))]) C dL_gone_12 rfl (by decide) rfl ?_
    refine z_iconst (z := 1) C dL_gone_13 rfl ?_
    exact z_iret C hr hlk dL_gone_14 (by decide) (by decide) ⟨1, rfl, zLF.same, hR, q, hq⟩
  · obtain ⟨hr0, hR0, hF0⟩ := h0
    refine z_i2l C dL_gone_7 (by omega) ?_
    have hgy3 := (hF0 (951) (by omega) (by omega)).trans hq
    refine z_last C (by omega) hay2 hgy3 (0) (by omega) (by omega) (by decide) dL_gone_8 (fun gy4 egy5 => ?_)
    have hgy6 := up_s egy5
    refine z_goto (tgt := 15) C dL_gone_9 (by decide) ?_
    refine z_iconst (z := 0) C dL_gone_15 rfl ?_
    exact z_iret C hr hlk dL_gone_16 (by decide) (by decide) ⟨0, rfl, (show zLF N ad g N ad g0 from ⟨Nat.le_refl _, fun _ _ => rfl, fun j a b => hF0 j (by omega) (by omega)⟩).put egy5, hR0.put egy5, _, up_s egy5⟩

set_option maxRecDepth 100000 in
set_option maxHeartbeats 4000000 in
theorem c_L_stands (l : Launch) (D : va_G) (A : Nat → Prop) (cs : Nat → ClassId) (tt : Nat) (N : Nat) (ad : Nat → Nat) (g : Nat → va_E) (hN : 952 ≤ N) {t fp im nz kz sl ho ua : Int} {st op ai fa mu tb tp : Nat → Int} (hR : okRec cs ad g N t fp im nz kz sl ho ua st op ai fa mu tb tp) (hl0 : l.stackTraces = false) (q : Nat → Int) (hq : g 951 = jA cs 1 q) (z : Int) (hz : -2147483648 ≤ z ∧ z ≤ 2147483647) (z1 : Int) (hz1 : -2147483648 ≤ z1 ∧ z1 ≤ 2147483647) : zMW l yL_stands cL_stands 5 (some .int) [((0 : Nat), (10 : Nat), (13 : Nat), (18 : Nat))] ({ frames := 13, cells := 6, slots := 36, locals := 780 } : Room) D A cs tt N ad g [.ref (ad 0), .int (zI z), .int (zI z1), .ref (ad 951)] (rI fun _ N' ad' g' => zLF N ad g N' ad' g' ∧ okRec cs ad' g' N' t fp im nz kz sl ho ua st op ai fa mu tb tp ∧ ∃ q' : Nat → Int, g' 951 = jA cs 1 q') := by
  have hay1 : zAt ad (0) (ad 0) := rfl
  have hay2 : zAt ad (951) (ad 951) := rfl
  refine z_ofW (by decide) (Nat.le_of_ble_eq_true rfl) ?_
  intro p e s m below meth c C hr hlk hxt
  refine z_lv (lv' := [(0, .ref (ad 0)), (1, .int (zI (z))), (2, .int (zI (z1))), (3, .ref (ad 951))]) [0, 1, 2, 3] rfl ?_
  refine z_aload_n C 3 dL_stands_0 rfl ?_
  refine z_iconst (z := 0) C dL_stands_1 rfl ?_
  refine z_aload_n C 0 dL_stands_2 rfl ?_
  refine z_iload_n C 1 dL_stands_3 rfl ?_
  refine z_iload_n C 2 dL_stands_4 rfl ?_
  refine z_cVX (As := [.int (zI (z)), .int (zI (z1))]) (rest := [.int (zI (0)), .ref (ad 951)]) (ci := 11) C (c_X9_stands l D A cs tt N ad _ hN _ _ _ _ _ _ _ _ _ _ _ _ _ _ _ hR hl0 z hz z1 hz1) (by omega) hay1 hR.1 rfl rfl mv_yX9_stands q_1259 hd_yX9_stands (by decide) (Nat.le_of_ble_eq_true rfl) (by decide) dL_stands_5 rfl (?_) (kI0 fun r0 g0 h0 => ?_)
  · intro E9 N9 ad9 g9 hx9
    obtain ⟨rfl, e2, e3, e4⟩ := hx9
    obtain rfl := e2.symm; obtain rfl := e3.symm; obtain rfl := e4.symm
    refine z_ucatch (name := "java/util/NoSuchElementException") C [] ⟨0, 10, 13, 18⟩ [] hxt (fun z hz => absurd hz List.not_mem_nil) (by decide) (by decide) q_873 n_906 (fun q9 => ?_)
    refine z_astore (lv' := [(4, .ref q9), (0, .ref (ad 0)), (1, .int (zI (z))), (2, .int (zI (z1))), (3, .ref (ad 951))]) C dL_stands_13 (by decide) rfl ?_
    refine z_iconst (z := 1) C dL_stands_15 rfl ?_
    exact z_iret C hr hlk dL_stands_16 (by decide) (by decide) ⟨1, rfl, zLF.same, hR, q, hq⟩
  · obtain ⟨hr0, rfl⟩ := h0
    refine z_i2l C dL_stands_8 (by omega) ?_
    refine z_last C (by omega) hay2 hq (0) (by omega) (by omega) (by decide) dL_stands_9 (fun gy3 egy4 => ?_)
    have hgy5 := up_s egy4
    refine z_goto (tgt := 17) C dL_stands_10 (by decide) ?_
    refine z_iconst (z := 0) C dL_stands_17 rfl ?_
    exact z_iret C hr hlk dL_stands_18 (by decide) (by decide) ⟨0, rfl, zLF.same.put egy4, hR.put egy4, _, up_s egy4⟩

set_option maxRecDepth 100000 in
set_option maxHeartbeats 4000000 in
theorem c_L_toLoad (l : Launch) (D : va_G) (A : Nat → Prop) (cs : Nat → ClassId) (tt : Nat) (N : Nat) (ad : Nat → Nat) (g : Nat → va_E) (hN : 952 ≤ N) {t fp im nz kz sl ho ua : Int} {st op ai fa mu tb tp : Nat → Int} (hR : okRec cs ad g N t fp im nz kz sl ho ua st op ai fa mu tb tp) (hl0 : l.stackTraces = false) (q : Nat → Int) (hq : g 951 = jA cs 1 q) (z : Int) (hz : -2147483648 ≤ z ∧ z ≤ 2147483647) : zMW l yL_toLoad cL_toLoad 4 (some .int) [((0 : Nat), (9 : Nat), (12 : Nat), (18 : Nat))] ({ frames := 13, cells := 6, slots := 36, locals := 780 } : Room) D A cs tt N ad g [.ref (ad 0), .int (zI z), .ref (ad 951)] (rI fun _ N' ad' g' => zLF N ad g N' ad' g' ∧ okRec cs ad' g' N' t fp im nz kz sl ho ua st op ai fa mu tb tp ∧ ∃ q' : Nat → Int, g' 951 = jA cs 1 q') := by
  have hay1 : zAt ad (0) (ad 0) := rfl
  have hay2 : zAt ad (951) (ad 951) := rfl
  refine z_ofW (by decide) (Nat.le_of_ble_eq_true rfl) ?_
  intro p e s m below meth c C hr hlk hxt
  refine z_lv (lv' := [(0, .ref (ad 0)), (1, .int (zI (z))), (2, .ref (ad 951))]) [0, 1, 2] rfl ?_
  refine z_aload_n C 2 dL_toLoad_0 rfl ?_
  refine z_iconst (z := 0) C dL_toLoad_1 rfl ?_
  refine z_aload_n C 0 dL_toLoad_2 rfl ?_
  refine z_iload_n C 1 dL_toLoad_3 rfl ?_
  refine z_cVX (As := [.int (zI (z))]) (rest := [.int (zI (0)), .ref (ad 951)]) (ci := 11) C (c_X9_toLoad l D A cs tt N ad _ hN _ _ _ _ _ _ _ _ _ _ _ _ _ _ _ hR hl0 z hz) (by omega) hay1 hR.1 rfl rfl mv_yX9_toLoad q_1270 hd_yX9_toLoad (by decide) (Nat.le_of_ble_eq_true rfl) (by decide) dL_toLoad_4 rfl (?_) (kI0 fun r0 g0 h0 => ?_)
  · intro E9 N9 ad9 g9 hx9
    obtain ⟨rfl, e2, e3, e4⟩ := hx9
    obtain rfl := e2.symm; obtain rfl := e3.symm; obtain rfl := e4.symm
    refine z_ucatch (name := "java/util/NoSuchElementException") C [] ⟨0, 9, 12, 18⟩ [] hxt (fun z hz => absurd hz List.not_mem_nil) (by decide) (by decide) q_873 n_906 (fun q9 => ?_)
    refine z_astore_n (lv' := [(3, .ref q9), (0, .ref (ad 0)), (1, .int (zI (z))), (2, .ref (ad 951))]) C dL_toLoad_12 rfl (by decide) rfl ?_
    refine z_iconst (z := 1) C dL_toLoad_13 rfl ?_
    exact z_iret C hr hlk dL_toLoad_14 (by decide) (by decide) ⟨1, rfl, zLF.same, hR, q, hq⟩
  · obtain ⟨hr0, rfl⟩ := h0
    refine z_i2l C dL_toLoad_7 (by omega) ?_
    refine z_last C (by omega) hay2 hq (0) (by omega) (by omega) (by decide) dL_toLoad_8 (fun gy3 egy4 => ?_)
    have hgy5 := up_s egy4
    refine z_goto (tgt := 15) C dL_toLoad_9 (by decide) ?_
    refine z_iconst (z := 0) C dL_toLoad_15 rfl ?_
    exact z_iret C hr hlk dL_toLoad_16 (by decide) (by decide) ⟨0, rfl, zLF.same.put egy4, hR.put egy4, _, up_s egy4⟩

set_option maxRecDepth 100000 in
set_option maxHeartbeats 4000000 in
theorem c_L_steepest (l : Launch) (D : va_G) (A : Nat → Prop) (cs : Nat → ClassId) (tt : Nat) (N : Nat) (ad : Nat → Nat) (g : Nat → va_E) (hN : 952 ≤ N) {t fp im nz kz sl ho ua : Int} {st op ai fa mu tb tp : Nat → Int} (hR : okRec cs ad g N t fp im nz kz sl ho ua st op ai fa mu tb tp) (hl0 : l.stackTraces = false) (q : Nat → Int) (hq : g 951 = jA cs 1 q) (z : Int) (hz : -2147483648 ≤ z ∧ z ≤ 2147483647) : zMW l yL_steepest cL_steepest 4 (some .int) [((0 : Nat), (9 : Nat), (12 : Nat), (18 : Nat))] ({ frames := 13, cells := 6, slots := 36, locals := 780 } : Room) D A cs tt N ad g [.ref (ad 0), .int (zI z), .ref (ad 951)] (rI fun _ N' ad' g' => zLF N ad g N' ad' g' ∧ okRec cs ad' g' N' t fp im nz kz sl ho ua st op ai fa mu tb tp ∧ ∃ q' : Nat → Int, g' 951 = jA cs 1 q') := by
  have hay1 : zAt ad (0) (ad 0) := rfl
  have hay2 : zAt ad (951) (ad 951) := rfl
  refine z_ofW (by decide) (Nat.le_of_ble_eq_true rfl) ?_
  intro p e s m below meth c C hr hlk hxt
  refine z_lv (lv' := [(0, .ref (ad 0)), (1, .int (zI (z))), (2, .ref (ad 951))]) [0, 1, 2] rfl ?_
  refine z_aload_n C 2 dL_steepest_0 rfl ?_
  refine z_iconst (z := 0) C dL_steepest_1 rfl ?_
  refine z_aload_n C 0 dL_steepest_2 rfl ?_
  refine z_iload_n C 1 dL_steepest_3 rfl ?_
  refine z_cVX (As := [.int (zI (z))]) (rest := [.int (zI (0)), .ref (ad 951)]) (ci := 11) C (c_X9_steepest l D A cs tt N ad _ hN _ _ _ _ _ _ _ _ _ _ _ _ _ _ _ hR hl0 z hz) (by omega) hay1 hR.1 rfl rfl mv_yX9_steepest q_1277 hd_yX9_steepest (by decide) (Nat.le_of_ble_eq_true rfl) (by decide) dL_steepest_4 rfl (?_) (kI0 fun r0 g0 h0 => ?_)
  · intro E9 N9 ad9 g9 hx9
    obtain ⟨rfl, e2, e3, e4⟩ := hx9
    obtain rfl := e2.symm; obtain rfl := e3.symm; obtain rfl := e4.symm
    refine z_ucatch (name := "java/util/NoSuchElementException") C [] ⟨0, 9, 12, 18⟩ [] hxt (fun z hz => absurd hz List.not_mem_nil) (by decide) (by decide) q_873 n_906 (fun q9 => ?_)
    refine z_astore_n (lv' := [(3, .ref q9), (0, .ref (ad 0)), (1, .int (zI (z))), (2, .ref (ad 951))]) C dL_steepest_12 rfl (by decide) rfl ?_
    refine z_iconst (z := 1) C dL_steepest_13 rfl ?_
    exact z_iret C hr hlk dL_steepest_14 (by decide) (by decide) ⟨1, rfl, zLF.same, hR, q, hq⟩
  · obtain ⟨hr0, rfl⟩ := h0
    refine z_i2l C dL_steepest_7 (by omega) ?_
    refine z_last C (by omega) hay2 hq (0) (by omega) (by omega) (by decide) dL_steepest_8 (fun gy3 egy4 => ?_)
    have hgy5 := up_s egy4
    refine z_goto (tgt := 15) C dL_steepest_9 (by decide) ?_
    refine z_iconst (z := 0) C dL_steepest_15 rfl ?_
    exact z_iret C hr hlk dL_steepest_16 (by decide) (by decide) ⟨0, rfl, zLF.same.put egy4, hR.put egy4, _, up_s egy4⟩

set_option maxRecDepth 100000 in
set_option maxHeartbeats 4000000 in
theorem c_L_toWarm (l : Launch) (D : va_G) (A : Nat → Prop) (cs : Nat → ClassId) (tt : Nat) (N : Nat) (ad : Nat → Nat) (g : Nat → va_E) (hN : 952 ≤ N) {t fp im nz kz sl ho ua : Int} {st op ai fa mu tb tp : Nat → Int} (hR : okRec cs ad g N t fp im nz kz sl ho ua st op ai fa mu tb tp) (hl0 : l.stackTraces = false) (q : Nat → Int) (hq : g 951 = jA cs 1 q) (z : Int) (hz : -2147483648 ≤ z ∧ z ≤ 2147483647) (z1 : Int) (hz1 : -2147483648 ≤ z1 ∧ z1 ≤ 2147483647) : zMW l yL_toWarm cL_toWarm 5 (some .int) [((0 : Nat), (10 : Nat), (13 : Nat), (18 : Nat)), ((0 : Nat), (10 : Nat), (17 : Nat), (13 : Nat))] ({ frames := 13, cells := 6, slots := 60, locals := 780 } : Room) D A cs tt N ad g [.ref (ad 0), .int (zI z), .int (zI z1), .ref (ad 951)] (rI fun _ N' ad' g' => zLF N ad g N' ad' g' ∧ okRec cs ad' g' N' t fp im nz kz sl ho ua st op ai fa mu tb tp ∧ ∃ q' : Nat → Int, g' 951 = jA cs 1 q') := by
  have hay1 : zAt ad (0) (ad 0) := rfl
  have hay2 : zAt ad (951) (ad 951) := rfl
  refine z_ofW (by decide) (Nat.le_of_ble_eq_true rfl) ?_
  intro p e s m below meth c C hr hlk hxt
  refine z_lv (lv' := [(0, .ref (ad 0)), (1, .int (zI (z))), (2, .int (zI (z1))), (3, .ref (ad 951))]) [0, 1, 2, 3] rfl ?_
  refine z_aload_n C 3 dL_toWarm_0 rfl ?_
  refine z_iconst (z := 0) C dL_toWarm_1 rfl ?_
  refine z_aload_n C 0 dL_toWarm_2 rfl ?_
  refine z_iload_n C 1 dL_toWarm_3 rfl ?_
  refine z_iload_n C 2 dL_toWarm_4 rfl ?_
  refine z_cVX (As := [.int (zI (z)), .int (zI (z1))]) (rest := [.int (zI (0)), .ref (ad 951)]) (ci := 11) C (c_X9_toWarm l D A cs tt N ad _ hN _ _ _ _ _ _ _ _ _ _ _ _ _ _ _ hR hl0 z hz z1 hz1) (by omega) hay1 hR.1 rfl rfl mv_yX9_toWarm q_1284 hd_yX9_toWarm (by decide) (Nat.le_of_ble_eq_true rfl) (by decide) dL_toWarm_5 rfl (?_) (kI0 fun r0 g0 h0 => ?_)
  · intro E9 N9 ad9 g9 hx9
    obtain ⟨h9, e2, e3, e4⟩ := hx9
    obtain rfl := e2.symm; obtain rfl := e3.symm; obtain rfl := e4.symm
    rcases h9 with rfl | rfl
    · refine z_ucatch (name := "java/util/NoSuchElementException") C [] ⟨0, 10, 13, 18⟩ [⟨0, 10, 17, 13⟩] hxt (fun z hz => absurd hz List.not_mem_nil) (by decide) (by decide) q_873 n_906 (fun q9 => ?_)
      refine z_astore (lv' := [(4, .ref q9), (0, .ref (ad 0)), (1, .int (zI (z))), (2, .int (zI (z1))), (3, .ref (ad 951))]) C dL_toWarm_13 (by decide) rfl ?_
      refine z_iconst (z := 1) C dL_toWarm_15 rfl ?_
      exact z_iret C hr hlk dL_toWarm_16 (by decide) (by decide) ⟨1, rfl, zLF.same, hR, q, hq⟩
    · refine z_ucatch (name := "java/lang/IllegalArgumentException") C [⟨0, 10, 13, 18⟩] ⟨0, 10, 17, 13⟩ [] hxt (fun z hz => by obtain rfl := List.mem_singleton.mp hz; exact Or.inr ⟨by decide, _, q_873, zE_nc C.2.2.2.2.2⟩) (by decide) (by decide) q_653 n_660 (fun q9 => ?_)
      refine z_astore (lv' := [(4, .ref q9), (0, .ref (ad 0)), (1, .int (zI (z))), (2, .int (zI (z1))), (3, .ref (ad 951))]) C dL_toWarm_17 (by decide) rfl ?_
      refine z_iconst (z := 2) C dL_toWarm_19 rfl ?_
      exact z_iret C hr hlk dL_toWarm_20 (by decide) (by decide) ⟨2, rfl, zLF.same, hR, q, hq⟩
  · obtain ⟨hr0, hR0, hF0⟩ := h0
    refine z_i2l C dL_toWarm_8 (by omega) ?_
    have hgy3 := (hF0 (951) (by omega) (by omega)).trans hq
    refine z_last C (by omega) hay2 hgy3 (0) (by omega) (by omega) (by decide) dL_toWarm_9 (fun gy4 egy5 => ?_)
    have hgy6 := up_s egy5
    refine z_goto (tgt := 21) C dL_toWarm_10 (by decide) ?_
    refine z_iconst (z := 0) C dL_toWarm_21 rfl ?_
    exact z_iret C hr hlk dL_toWarm_22 (by decide) (by decide) ⟨0, rfl, (show zLF N ad g N ad g0 from ⟨Nat.le_refl _, fun _ _ => rfl, fun j a b => hF0 j (by omega) (by omega)⟩).put egy5, hR0.put egy5, _, up_s egy5⟩

set_option maxRecDepth 100000 in
set_option maxHeartbeats 4000000 in
theorem c_L_matters (l : Launch) (D : va_G) (A : Nat → Prop) (cs : Nat → ClassId) (tt : Nat) (N : Nat) (ad : Nat → Nat) (g : Nat → va_E) (hN : 952 ≤ N) {t fp im nz kz sl ho ua : Int} {st op ai fa mu tb tp : Nat → Int} (hR : okRec cs ad g N t fp im nz kz sl ho ua st op ai fa mu tb tp) (hl0 : l.stackTraces = false) (q : Nat → Int) (hq : g 951 = jA cs 1 q) (z : Int) (hz : -2147483648 ≤ z ∧ z ≤ 2147483647) (z1 : Int) (hz1 : -2147483648 ≤ z1 ∧ z1 ≤ 2147483647) (z2 : Int) (hz2 : -2147483648 ≤ z2 ∧ z2 ≤ 2147483647) : zMW l yL_matters cL_matters 6 (some .int) [((0 : Nat), (12 : Nat), (15 : Nat), (18 : Nat)), ((0 : Nat), (12 : Nat), (19 : Nat), (13 : Nat))] ({ frames := 13, cells := 6, slots := 60, locals := 780 } : Room) D A cs tt N ad g [.ref (ad 0), .int (zI z), .int (zI z1), .int (zI z2), .ref (ad 951)] (rI fun _ N' ad' g' => zLF N ad g N' ad' g' ∧ okRec cs ad' g' N' t fp im nz kz sl ho ua st op ai fa mu tb tp ∧ ∃ q' : Nat → Int, g' 951 = jA cs 1 q') := by
  have hay1 : zAt ad (0) (ad 0) := rfl
  have hay2 : zAt ad (951) (ad 951) := rfl
  refine z_ofW (by decide) (Nat.le_of_ble_eq_true rfl) ?_
  intro p e s m below meth c C hr hlk hxt
  refine z_lv (lv' := [(0, .ref (ad 0)), (1, .int (zI (z))), (2, .int (zI (z1))), (3, .int (zI (z2))), (4, .ref (ad 951))]) [0, 1, 2, 3, 4] rfl ?_
  refine z_aload C 4 dL_matters_0 rfl ?_
  refine z_iconst (z := 0) C dL_matters_2 rfl ?_
  refine z_aload_n C 0 dL_matters_3 rfl ?_
  refine z_iload_n C 1 dL_matters_4 rfl ?_
  refine z_iload_n C 2 dL_matters_5 rfl ?_
  refine z_iload_n C 3 dL_matters_6 rfl ?_
  refine z_cVX (As := [.int (zI (z)), .int (zI (z1)), .int (zI (z2))]) (rest := [.int (zI (0)), .ref (ad 951)]) (ci := 11) C (c_X9_matters l D A cs tt N ad _ hN _ _ _ _ _ _ _ _ _ _ _ _ _ _ _ hR hl0 z hz z1 hz1 z2 hz2) (by omega) hay1 hR.1 rfl rfl mv_yX9_matters q_1300 hd_yX9_matters (by decide) (Nat.le_of_ble_eq_true rfl) (by decide) dL_matters_7 rfl (?_) (kI0 fun r0 g0 h0 => ?_)
  · intro E9 N9 ad9 g9 hx9
    obtain ⟨h9, e2, e3, e4⟩ := hx9
    obtain rfl := e2.symm; obtain rfl := e3.symm; obtain rfl := e4.symm
    rcases h9 with rfl | rfl
    · refine z_ucatch (name := "java/util/NoSuchElementException") C [] ⟨0, 12, 15, 18⟩ [⟨0, 12, 19, 13⟩] hxt (fun z hz => absurd hz List.not_mem_nil) (by decide) (by decide) q_873 n_906 (fun q9 => ?_)
      refine z_astore (lv' := [(5, .ref q9), (0, .ref (ad 0)), (1, .int (zI (z))), (2, .int (zI (z1))), (3, .int (zI (z2))), (4, .ref (ad 951))]) C dL_matters_15 (by decide) rfl ?_
      refine z_iconst (z := 1) C dL_matters_17 rfl ?_
      exact z_iret C hr hlk dL_matters_18 (by decide) (by decide) ⟨1, rfl, zLF.same, hR, q, hq⟩
    · refine z_ucatch (name := "java/lang/IllegalArgumentException") C [⟨0, 12, 15, 18⟩] ⟨0, 12, 19, 13⟩ [] hxt (fun z hz => by obtain rfl := List.mem_singleton.mp hz; exact Or.inr ⟨by decide, _, q_873, zE_nc C.2.2.2.2.2⟩) (by decide) (by decide) q_653 n_660 (fun q9 => ?_)
      refine z_astore (lv' := [(5, .ref q9), (0, .ref (ad 0)), (1, .int (zI (z))), (2, .int (zI (z1))), (3, .int (zI (z2))), (4, .ref (ad 951))]) C dL_matters_19 (by decide) rfl ?_
      refine z_iconst (z := 2) C dL_matters_21 rfl ?_
      exact z_iret C hr hlk dL_matters_22 (by decide) (by decide) ⟨2, rfl, zLF.same, hR, q, hq⟩
  · obtain ⟨hr0, hR0, hF0⟩ := h0
    refine z_i2l C dL_matters_10 (by omega) ?_
    have hgy3 := (hF0 (951) (by omega) (by omega)).trans hq
    refine z_last C (by omega) hay2 hgy3 (0) (by omega) (by omega) (by decide) dL_matters_11 (fun gy4 egy5 => ?_)
    have hgy6 := up_s egy5
    refine z_goto (tgt := 23) C dL_matters_12 (by decide) ?_
    refine z_iconst (z := 0) C dL_matters_23 rfl ?_
    exact z_iret C hr hlk dL_matters_24 (by decide) (by decide) ⟨0, rfl, (show zLF N ad g N ad g0 from ⟨Nat.le_refl _, fun _ _ => rfl, fun j a b => hF0 j (by omega) (by omega)⟩).put egy5, hR0.put egy5, _, up_s egy5⟩

set_option maxRecDepth 100000 in
set_option maxHeartbeats 4000000 in
theorem c_L_pitOf (l : Launch) (D : va_G) (A : Nat → Prop) (cs : Nat → ClassId) (tt : Nat) (N : Nat) (ad : Nat → Nat) (g : Nat → va_E) (hN : 952 ≤ N) {t fp im nz kz sl ho ua : Int} {st op ai fa mu tb tp : Nat → Int} (hR : okRec cs ad g N t fp im nz kz sl ho ua st op ai fa mu tb tp) (hl0 : l.stackTraces = false) (q : Nat → Int) (hq : g 951 = jA cs 1 q) (z : Int) (hz : -2147483648 ≤ z ∧ z ≤ 2147483647) (z1 : Int) (hz1 : -2147483648 ≤ z1 ∧ z1 ≤ 2147483647) : zMW l yL_pitOf cL_pitOf 5 (some .int) [((0 : Nat), (10 : Nat), (13 : Nat), (18 : Nat))] ({ frames := 13, cells := 6, slots := 36, locals := 780 } : Room) D A cs tt N ad g [.ref (ad 0), .int (zI z), .int (zI z1), .ref (ad 951)] (rI fun _ N' ad' g' => zLF N ad g N' ad' g' ∧ okRec cs ad' g' N' t fp im nz kz sl ho ua st op ai fa mu tb tp ∧ ∃ q' : Nat → Int, g' 951 = jA cs 1 q') := by
  have hay1 : zAt ad (0) (ad 0) := rfl
  have hay2 : zAt ad (951) (ad 951) := rfl
  refine z_ofW (by decide) (Nat.le_of_ble_eq_true rfl) ?_
  intro p e s m below meth c C hr hlk hxt
  refine z_lv (lv' := [(0, .ref (ad 0)), (1, .int (zI (z))), (2, .int (zI (z1))), (3, .ref (ad 951))]) [0, 1, 2, 3] rfl ?_
  refine z_aload_n C 3 dL_pitOf_0 rfl ?_
  refine z_iconst (z := 0) C dL_pitOf_1 rfl ?_
  refine z_aload_n C 0 dL_pitOf_2 rfl ?_
  refine z_iload_n C 1 dL_pitOf_3 rfl ?_
  refine z_iload_n C 2 dL_pitOf_4 rfl ?_
  refine z_cVX (As := [.int (zI (z)), .int (zI (z1))]) (rest := [.int (zI (0)), .ref (ad 951)]) (ci := 11) C (c_X9_pitOf l D A cs tt N ad _ hN _ _ _ _ _ _ _ _ _ _ _ _ _ _ _ hR hl0 z hz z1 hz1) (by omega) hay1 hR.1 rfl rfl mv_yX9_pitOf q_1312 hd_yX9_pitOf (by decide) (Nat.le_of_ble_eq_true rfl) (by decide) dL_pitOf_5 rfl (?_) (kI0 fun r0 g0 h0 => ?_)
  · intro E9 N9 ad9 g9 hx9
    obtain ⟨rfl, e2, e3, e4⟩ := hx9
    obtain rfl := e2.symm; obtain rfl := e3.symm; obtain rfl := e4.symm
    refine z_ucatch (name := "java/util/NoSuchElementException") C [] ⟨0, 10, 13, 18⟩ [] hxt (fun z hz => absurd hz List.not_mem_nil) (by decide) (by decide) q_873 n_906 (fun q9 => ?_)
    refine z_astore (lv' := [(4, .ref q9), (0, .ref (ad 0)), (1, .int (zI (z))), (2, .int (zI (z1))), (3, .ref (ad 951))]) C dL_pitOf_13 (by decide) rfl ?_
    refine z_iconst (z := 1) C dL_pitOf_15 rfl ?_
    exact z_iret C hr hlk dL_pitOf_16 (by decide) (by decide) ⟨1, rfl, zLF.same, hR, q, hq⟩
  · obtain ⟨hr0, rfl⟩ := h0
    refine z_i2l C dL_pitOf_8 (by omega) ?_
    refine z_last C (by omega) hay2 hq (0) (by omega) (by omega) (by decide) dL_pitOf_9 (fun gy3 egy4 => ?_)
    have hgy5 := up_s egy4
    refine z_goto (tgt := 17) C dL_pitOf_10 (by decide) ?_
    refine z_iconst (z := 0) C dL_pitOf_17 rfl ?_
    exact z_iret C hr hlk dL_pitOf_18 (by decide) (by decide) ⟨0, rfl, zLF.same.put egy4, hR.put egy4, _, up_s egy4⟩

set_option maxRecDepth 100000 in
set_option maxHeartbeats 4000000 in
theorem c_L_compare (l : Launch) (D : va_G) (A : Nat → Prop) (cs : Nat → ClassId) (tt : Nat) (N : Nat) (ad : Nat → Nat) (g : Nat → va_E) (hN : 952 ≤ N) {t fp im nz kz sl ho ua : Int} {st op ai fa mu tb tp : Nat → Int} (hR : okRec cs ad g N t fp im nz kz sl ho ua st op ai fa mu tb tp) (hl0 : l.stackTraces = false) (q : Nat → Int) (hq : g 951 = jA cs 1 q) (z : Int) (hz : -2147483648 ≤ z ∧ z ≤ 2147483647) (z1 : Int) (hz1 : -2147483648 ≤ z1 ∧ z1 ≤ 2147483647) (z2 : Int) (hz2 : -2147483648 ≤ z2 ∧ z2 ≤ 2147483647) : zMW l yL_compare cL_compare 6 (some .int) [((0 : Nat), (12 : Nat), (15 : Nat), (18 : Nat))] ({ frames := 13, cells := 6, slots := 60, locals := 780 } : Room) D A cs tt N ad g [.ref (ad 0), .int (zI z), .int (zI z1), .int (zI z2), .ref (ad 951)] (rI fun _ N' ad' g' => zLF N ad g N' ad' g' ∧ okRec cs ad' g' N' t fp im nz kz sl ho ua st op ai fa mu tb tp ∧ ∃ q' : Nat → Int, g' 951 = jA cs 1 q') := by
  have hay1 : zAt ad (0) (ad 0) := rfl
  have hay2 : zAt ad (951) (ad 951) := rfl
  refine z_ofW (by decide) (Nat.le_of_ble_eq_true rfl) ?_
  intro p e s m below meth c C hr hlk hxt
  refine z_lv (lv' := [(0, .ref (ad 0)), (1, .int (zI (z))), (2, .int (zI (z1))), (3, .int (zI (z2))), (4, .ref (ad 951))]) [0, 1, 2, 3, 4] rfl ?_
  refine z_aload C 4 dL_compare_0 rfl ?_
  refine z_iconst (z := 0) C dL_compare_2 rfl ?_
  refine z_aload_n C 0 dL_compare_3 rfl ?_
  refine z_iload_n C 1 dL_compare_4 rfl ?_
  refine z_iload_n C 2 dL_compare_5 rfl ?_
  refine z_iload_n C 3 dL_compare_6 rfl ?_
  refine z_cVX (As := [.int (zI (z)), .int (zI (z1)), .int (zI (z2))]) (rest := [.int (zI (0)), .ref (ad 951)]) (ci := 11) C (c_X9_compare l D A cs tt N ad _ hN _ _ _ _ _ _ _ _ _ _ _ _ _ _ _ hR hl0 z hz z1 hz1 z2 hz2) (by omega) hay1 hR.1 rfl rfl mv_yX9_compare q_1325 hd_yX9_compare (by decide) (Nat.le_of_ble_eq_true rfl) (by decide) dL_compare_7 rfl (?_) (kI0 fun r0 g0 h0 => ?_)
  · intro E9 N9 ad9 g9 hx9
    obtain ⟨rfl, e2, e3, e4⟩ := hx9
    obtain rfl := e2.symm; obtain rfl := e3.symm; obtain rfl := e4.symm
    refine z_ucatch (name := "java/util/NoSuchElementException") C [] ⟨0, 12, 15, 18⟩ [] hxt (fun z hz => absurd hz List.not_mem_nil) (by decide) (by decide) q_873 n_906 (fun q9 => ?_)
    refine z_astore (lv' := [(5, .ref q9), (0, .ref (ad 0)), (1, .int (zI (z))), (2, .int (zI (z1))), (3, .int (zI (z2))), (4, .ref (ad 951))]) C dL_compare_15 (by decide) rfl ?_
    refine z_iconst (z := 1) C dL_compare_17 rfl ?_
    exact z_iret C hr hlk dL_compare_18 (by decide) (by decide) ⟨1, rfl, zLF.same, hR, q, hq⟩
  · obtain ⟨hr0, hR0, hF0⟩ := h0
    refine z_i2l C dL_compare_10 (by omega) ?_
    have hgy3 := (hF0 (951) (by omega) (by omega)).trans hq
    refine z_last C (by omega) hay2 hgy3 (0) (by omega) (by omega) (by decide) dL_compare_11 (fun gy4 egy5 => ?_)
    have hgy6 := up_s egy5
    refine z_goto (tgt := 19) C dL_compare_12 (by decide) ?_
    refine z_iconst (z := 0) C dL_compare_19 rfl ?_
    exact z_iret C hr hlk dL_compare_20 (by decide) (by decide) ⟨0, rfl, (show zLF N ad g N ad g0 from ⟨Nat.le_refl _, fun _ _ => rfl, fun j a b => hF0 j (by omega) (by omega)⟩).put egy5, hR0.put egy5, _, up_s egy5⟩

set_option maxRecDepth 100000 in
set_option maxHeartbeats 4000000 in
theorem c_L_nearest (l : Launch) (D : va_G) (A : Nat → Prop) (cs : Nat → ClassId) (tt : Nat) (N : Nat) (ad : Nat → Nat) (g : Nat → va_E) (hN : 952 ≤ N) {t fp im nz kz sl ho ua : Int} {st op ai fa mu tb tp : Nat → Int} (hR : okRec cs ad g N t fp im nz kz sl ho ua st op ai fa mu tb tp) (hl0 : l.stackTraces = false) (q : Nat → Int) (hq : g 951 = jA cs 1 q) (z : Int) (hz : -2147483648 ≤ z ∧ z ≤ 2147483647) : zMW l yL_nearest cL_nearest 4 (some .int) [((0 : Nat), (9 : Nat), (12 : Nat), (18 : Nat))] ({ frames := 13, cells := 6, slots := 60, locals := 780 } : Room) D A cs tt N ad g [.ref (ad 0), .int (zI z), .ref (ad 951)] (rI fun _ N' ad' g' => zLF N ad g N' ad' g' ∧ okRec cs ad' g' N' t fp im nz kz sl ho ua st op ai fa mu tb tp ∧ ∃ q' : Nat → Int, g' 951 = jA cs 1 q') := by
  have hay1 : zAt ad (0) (ad 0) := rfl
  have hay2 : zAt ad (951) (ad 951) := rfl
  refine z_ofW (by decide) (Nat.le_of_ble_eq_true rfl) ?_
  intro p e s m below meth c C hr hlk hxt
  refine z_lv (lv' := [(0, .ref (ad 0)), (1, .int (zI (z))), (2, .ref (ad 951))]) [0, 1, 2] rfl ?_
  refine z_aload_n C 2 dL_nearest_0 rfl ?_
  refine z_iconst (z := 0) C dL_nearest_1 rfl ?_
  refine z_aload_n C 0 dL_nearest_2 rfl ?_
  refine z_iload_n C 1 dL_nearest_3 rfl ?_
  refine z_cVX (As := [.int (zI (z))]) (rest := [.int (zI (0)), .ref (ad 951)]) (ci := 11) C (c_X9_nearest l D A cs tt N ad _ hN _ _ _ _ _ _ _ _ _ _ _ _ _ _ _ hR hl0 z hz) (by omega) hay1 hR.1 rfl rfl mv_yX9_nearest q_1352 hd_yX9_nearest (by decide) (Nat.le_of_ble_eq_true rfl) (by decide) dL_nearest_4 rfl (?_) (kI0 fun r0 g0 h0 => ?_)
  · intro E9 N9 ad9 g9 hx9
    obtain ⟨rfl, e2, e3, e4⟩ := hx9
    obtain rfl := e2.symm; obtain rfl := e3.symm; obtain rfl := e4.symm
    refine z_ucatch (name := "java/util/NoSuchElementException") C [] ⟨0, 9, 12, 18⟩ [] hxt (fun z hz => absurd hz List.not_mem_nil) (by decide) (by decide) q_873 n_906 (fun q9 => ?_)
    refine z_astore_n (lv' := [(3, .ref q9), (0, .ref (ad 0)), (1, .int (zI (z))), (2, .ref (ad 951))]) C dL_nearest_12 rfl (by decide) rfl ?_
    refine z_iconst (z := 1) C dL_nearest_13 rfl ?_
    exact z_iret C hr hlk dL_nearest_14 (by decide) (by decide) ⟨1, rfl, zLF.same, hR, q, hq⟩
  · obtain ⟨hr0, hR0, hF0⟩ := h0
    refine z_i2l C dL_nearest_7 (by omega) ?_
    have hgy3 := (hF0 (951) (by omega) (by omega)).trans hq
    refine z_last C (by omega) hay2 hgy3 (0) (by omega) (by omega) (by decide) dL_nearest_8 (fun gy4 egy5 => ?_)
    have hgy6 := up_s egy5
    refine z_goto (tgt := 15) C dL_nearest_9 (by decide) ?_
    refine z_iconst (z := 0) C dL_nearest_15 rfl ?_
    exact z_iret C hr hlk dL_nearest_16 (by decide) (by decide) ⟨0, rfl, (show zLF N ad g N ad g0 from ⟨Nat.le_refl _, fun _ _ => rfl, fun j a b => hF0 j (by omega) (by omega)⟩).put egy5, hR0.put egy5, _, up_s egy5⟩

set_option maxRecDepth 100000 in
set_option maxHeartbeats 4000000 in
theorem c_L_falls (l : Launch) (D : va_G) (A : Nat → Prop) (cs : Nat → ClassId) (tt : Nat) (N : Nat) (ad : Nat → Nat) (g : Nat → va_E) (hN : 952 ≤ N) {t fp im nz kz sl ho ua : Int} {st op ai fa mu tb tp : Nat → Int} (hR : okRec cs ad g N t fp im nz kz sl ho ua st op ai fa mu tb tp) (hl0 : l.stackTraces = false) (q : Nat → Int) (hq : g 951 = jA cs 1 q) (z : Int) (hz : -2147483648 ≤ z ∧ z ≤ 2147483647) : zMW l yL_falls cL_falls 4 (some .int) [((0 : Nat), (9 : Nat), (12 : Nat), (18 : Nat))] ({ frames := 15, cells := 6, slots := 60, locals := 900 } : Room) D A cs tt N ad g [.ref (ad 0), .int (zI z), .ref (ad 951)] (rI fun _ N' ad' g' => zLF N ad g N' ad' g' ∧ okRec cs ad' g' N' t fp im nz kz sl ho ua st op ai fa mu tb tp ∧ ∃ q' : Nat → Int, g' 951 = jA cs 1 q') := by
  have hay1 : zAt ad (0) (ad 0) := rfl
  have hay2 : zAt ad (951) (ad 951) := rfl
  refine z_ofW (by decide) (Nat.le_of_ble_eq_true rfl) ?_
  intro p e s m below meth c C hr hlk hxt
  refine z_lv (lv' := [(0, .ref (ad 0)), (1, .int (zI (z))), (2, .ref (ad 951))]) [0, 1, 2] rfl ?_
  refine z_aload_n C 2 dL_falls_0 rfl ?_
  refine z_iconst (z := 0) C dL_falls_1 rfl ?_
  refine z_aload_n C 0 dL_falls_2 rfl ?_
  refine z_iload_n C 1 dL_falls_3 rfl ?_
  refine z_cVX (As := [.int (zI (z))]) (rest := [.int (zI (0)), .ref (ad 951)]) (ci := 11) C (c_X9_falls l D A cs tt N ad _ hN _ _ _ _ _ _ _ _ _ _ _ _ _ _ _ hR hl0 z hz) (by omega) hay1 hR.1 rfl rfl mv_yX9_falls q_1359 hd_yX9_falls (by decide) (Nat.le_of_ble_eq_true rfl) (by decide) dL_falls_4 rfl (?_) (kI0 fun r0 g0 h0 => ?_)
  · intro E9 N9 ad9 g9 hx9
    obtain ⟨rfl, e2, e3, e4⟩ := hx9
    obtain rfl := e2.symm; obtain rfl := e3.symm; obtain rfl := e4.symm
    refine z_ucatch (name := "java/util/NoSuchElementException") C [] ⟨0, 9, 12, 18⟩ [] hxt (fun z hz => absurd hz List.not_mem_nil) (by decide) (by decide) q_873 n_906 (fun q9 => ?_)
    refine z_astore_n (lv' := [(3, .ref q9), (0, .ref (ad 0)), (1, .int (zI (z))), (2, .ref (ad 951))]) C dL_falls_12 rfl (by decide) rfl ?_
    refine z_iconst (z := 1) C dL_falls_13 rfl ?_
    exact z_iret C hr hlk dL_falls_14 (by decide) (by decide) ⟨1, rfl, zLF.same, hR, q, hq⟩
  · obtain ⟨hr0, hR0, hF0⟩ := h0
    refine z_i2l C dL_falls_7 (by omega) ?_
    have hgy3 := (hF0 (951) (by omega) (by omega)).trans hq
    refine z_last C (by omega) hay2 hgy3 (0) (by omega) (by omega) (by decide) dL_falls_8 (fun gy4 egy5 => ?_)
    have hgy6 := up_s egy5
    refine z_goto (tgt := 15) C dL_falls_9 (by decide) ?_
    refine z_iconst (z := 0) C dL_falls_15 rfl ?_
    exact z_iret C hr hlk dL_falls_16 (by decide) (by decide) ⟨0, rfl, (show zLF N ad g N ad g0 from ⟨Nat.le_refl _, fun _ _ => rfl, fun j a b => hF0 j (by omega) (by omega)⟩).put egy5, hR0.put egy5, _, up_s egy5⟩

set_option maxRecDepth 100000 in
set_option maxHeartbeats 4000000 in
theorem c_L_look (l : Launch) (D : va_G) (A : Nat → Prop) (cs : Nat → ClassId) (tt : Nat) (N : Nat) (ad : Nat → Nat) (g : Nat → va_E) (hN : 952 ≤ N) {t fp im nz kz sl ho ua : Int} {st op ai fa mu tb tp : Nat → Int} (hR : okRec cs ad g N t fp im nz kz sl ho ua st op ai fa mu tb tp) (hl0 : l.stackTraces = false) (q : Nat → Int) (hq : g 951 = jA cs 1 q) (z : Int) (hz : -2147483648 ≤ z ∧ z ≤ 2147483647) : zMW l yL_look cL_look 4 (some .int) [((0 : Nat), (9 : Nat), (12 : Nat), (18 : Nat))] ({ frames := 15, cells := 6, slots := 60, locals := 900 } : Room) D A cs tt N ad g [.ref (ad 0), .int (zI z), .ref (ad 951)] (rI fun _ N' ad' g' => zLF N ad g N' ad' g' ∧ okRec cs ad' g' N' t fp im nz kz sl ho ua st op ai fa mu tb tp ∧ ∃ q' : Nat → Int, g' 951 = jA cs 1 q') := by
  have hay1 : zAt ad (0) (ad 0) := rfl
  have hay2 : zAt ad (951) (ad 951) := rfl
  refine z_ofW (by decide) (Nat.le_of_ble_eq_true rfl) ?_
  intro p e s m below meth c C hr hlk hxt
  refine z_lv (lv' := [(0, .ref (ad 0)), (1, .int (zI (z))), (2, .ref (ad 951))]) [0, 1, 2] rfl ?_
  refine z_aload_n C 2 dL_look_0 rfl ?_
  refine z_iconst (z := 0) C dL_look_1 rfl ?_
  refine z_aload_n C 0 dL_look_2 rfl ?_
  refine z_iload_n C 1 dL_look_3 rfl ?_
  refine z_cVX (As := [.int (zI (z))]) (rest := [.int (zI (0)), .ref (ad 951)]) (ci := 11) C (c_X9_look l D A cs tt N ad _ hN _ _ _ _ _ _ _ _ _ _ _ _ _ _ _ hR hl0 z hz) (by omega) hay1 hR.1 rfl rfl mv_yX9_look q_1404 hd_yX9_look (by decide) (Nat.le_of_ble_eq_true rfl) (by decide) dL_look_4 rfl (?_) (kI0 fun r0 g0 h0 => ?_)
  · intro E9 N9 ad9 g9 hx9
    obtain ⟨rfl, e2, e3, e4⟩ := hx9
    obtain rfl := e2.symm; obtain rfl := e3.symm; obtain rfl := e4.symm
    refine z_ucatch (name := "java/util/NoSuchElementException") C [] ⟨0, 9, 12, 18⟩ [] hxt (fun z hz => absurd hz List.not_mem_nil) (by decide) (by decide) q_873 n_906 (fun q9 => ?_)
    refine z_astore_n (lv' := [(3, .ref q9), (0, .ref (ad 0)), (1, .int (zI (z))), (2, .ref (ad 951))]) C dL_look_12 rfl (by decide) rfl ?_
    refine z_iconst (z := 1) C dL_look_13 rfl ?_
    exact z_iret C hr hlk dL_look_14 (by decide) (by decide) ⟨1, rfl, zLF.same, hR, q, hq⟩
  · obtain ⟨hr0, hR0, hF0⟩ := h0
    refine z_i2l C dL_look_7 (by omega) ?_
    have hgy3 := (hF0 (951) (by omega) (by omega)).trans hq
    refine z_last C (by omega) hay2 hgy3 (0) (by omega) (by omega) (by decide) dL_look_8 (fun gy4 egy5 => ?_)
    have hgy6 := up_s egy5
    refine z_goto (tgt := 15) C dL_look_9 (by decide) ?_
    refine z_iconst (z := 0) C dL_look_15 rfl ?_
    exact z_iret C hr hlk dL_look_16 (by decide) (by decide) ⟨0, rfl, (show zLF N ad g N ad g0 from ⟨Nat.le_refl _, fun _ _ => rfl, fun j a b => hF0 j (by omega) (by omega)⟩).put egy5, hR0.put egy5, _, up_s egy5⟩

set_option maxRecDepth 100000 in
set_option maxHeartbeats 4000000 in
theorem c_L_odds (l : Launch) (D : va_G) (A : Nat → Prop) (cs : Nat → ClassId) (tt : Nat) (N : Nat) (ad : Nat → Nat) (g : Nat → va_E) (hN : 952 ≤ N) {t fp im nz kz sl ho ua : Int} {st op ai fa mu tb tp : Nat → Int} (hR : okRec cs ad g N t fp im nz kz sl ho ua st op ai fa mu tb tp) (hl0 : l.stackTraces = false) (q : Nat → Int) (hq : g 951 = jA cs 1 q) (z : Int) (hz : -2147483648 ≤ z ∧ z ≤ 2147483647) (z1 : Int) (hz1 : -2147483648 ≤ z1 ∧ z1 ≤ 2147483647) (z2 : Int) (hz2 : -2147483648 ≤ z2 ∧ z2 ≤ 2147483647) : zMW l yL_odds cL_odds 6 (some .int) [((0 : Nat), (12 : Nat), (15 : Nat), (18 : Nat)), ((0 : Nat), (12 : Nat), (19 : Nat), (13 : Nat))] ({ frames := 13, cells := 6, slots := 60, locals := 780 } : Room) D A cs tt N ad g [.ref (ad 0), .int (zI z), .int (zI z1), .int (zI z2), .ref (ad 951)] (rI fun _ N' ad' g' => zLF N ad g N' ad' g' ∧ okRec cs ad' g' N' t fp im nz kz sl ho ua st op ai fa mu tb tp ∧ ∃ q' : Nat → Int, g' 951 = jA cs 1 q') := by
  have hay1 : zAt ad (0) (ad 0) := rfl
  have hay2 : zAt ad (951) (ad 951) := rfl
  refine z_ofW (by decide) (Nat.le_of_ble_eq_true rfl) ?_
  intro p e s m below meth c C hr hlk hxt
  refine z_lv (lv' := [(0, .ref (ad 0)), (1, .int (zI (z))), (2, .int (zI (z1))), (3, .int (zI (z2))), (4, .ref (ad 951))]) [0, 1, 2, 3, 4] rfl ?_
  refine z_aload C 4 dL_odds_0 rfl ?_
  refine z_iconst (z := 0) C dL_odds_2 rfl ?_
  refine z_aload_n C 0 dL_odds_3 rfl ?_
  refine z_iload_n C 1 dL_odds_4 rfl ?_
  refine z_iload_n C 2 dL_odds_5 rfl ?_
  refine z_iload_n C 3 dL_odds_6 rfl ?_
  refine z_cVX (As := [.int (zI (z)), .int (zI (z1)), .int (zI (z2))]) (rest := [.int (zI (0)), .ref (ad 951)]) (ci := 11) C (c_X9_odds l D A cs tt N ad _ hN _ _ _ _ _ _ _ _ _ _ _ _ _ _ _ hR hl0 z hz z1 hz1 z2 hz2) (by omega) hay1 hR.1 rfl rfl mv_yX9_odds q_1411 hd_yX9_odds (by decide) (Nat.le_of_ble_eq_true rfl) (by decide) dL_odds_7 rfl (?_) (kI0 fun r0 g0 h0 => ?_)
  · intro E9 N9 ad9 g9 hx9
    obtain ⟨h9, e2, e3, e4⟩ := hx9
    obtain rfl := e2.symm; obtain rfl := e3.symm; obtain rfl := e4.symm
    rcases h9 with rfl | rfl
    · refine z_ucatch (name := "java/util/NoSuchElementException") C [] ⟨0, 12, 15, 18⟩ [⟨0, 12, 19, 13⟩] hxt (fun z hz => absurd hz List.not_mem_nil) (by decide) (by decide) q_873 n_906 (fun q9 => ?_)
      refine z_astore (lv' := [(5, .ref q9), (0, .ref (ad 0)), (1, .int (zI (z))), (2, .int (zI (z1))), (3, .int (zI (z2))), (4, .ref (ad 951))]) C dL_odds_15 (by decide) rfl ?_
      refine z_iconst (z := 1) C dL_odds_17 rfl ?_
      exact z_iret C hr hlk dL_odds_18 (by decide) (by decide) ⟨1, rfl, zLF.same, hR, q, hq⟩
    · refine z_ucatch (name := "java/lang/IllegalArgumentException") C [⟨0, 12, 15, 18⟩] ⟨0, 12, 19, 13⟩ [] hxt (fun z hz => by obtain rfl := List.mem_singleton.mp hz; exact Or.inr ⟨by decide, _, q_873, zE_nc C.2.2.2.2.2⟩) (by decide) (by decide) q_653 n_660 (fun q9 => ?_)
      refine z_astore (lv' := [(5, .ref q9), (0, .ref (ad 0)), (1, .int (zI (z))), (2, .int (zI (z1))), (3, .int (zI (z2))), (4, .ref (ad 951))]) C dL_odds_19 (by decide) rfl ?_
      refine z_iconst (z := 2) C dL_odds_21 rfl ?_
      exact z_iret C hr hlk dL_odds_22 (by decide) (by decide) ⟨2, rfl, zLF.same, hR, q, hq⟩
  · obtain ⟨hr0, hR0, hF0⟩ := h0
    refine z_i2l C dL_odds_10 (by omega) ?_
    have hgy3 := (hF0 (951) (by omega) (by omega)).trans hq
    refine z_last C (by omega) hay2 hgy3 (0) (by omega) (by omega) (by decide) dL_odds_11 (fun gy4 egy5 => ?_)
    have hgy6 := up_s egy5
    refine z_goto (tgt := 23) C dL_odds_12 (by decide) ?_
    refine z_iconst (z := 0) C dL_odds_23 rfl ?_
    exact z_iret C hr hlk dL_odds_24 (by decide) (by decide) ⟨0, rfl, (show zLF N ad g N ad g0 from ⟨Nat.le_refl _, fun _ _ => rfl, fun j a b => hF0 j (by omega) (by omega)⟩).put egy5, hR0.put egy5, _, up_s egy5⟩

set_option maxRecDepth 100000 in
set_option maxHeartbeats 4000000 in
theorem c_L_years (l : Launch) (D : va_G) (A : Nat → Prop) (cs : Nat → ClassId) (tt : Nat) (N : Nat) (ad : Nat → Nat) (g : Nat → va_E) (hN : 952 ≤ N) {t fp im nz kz sl ho ua : Int} {st op ai fa mu tb tp : Nat → Int} (hR : okRec cs ad g N t fp im nz kz sl ho ua st op ai fa mu tb tp) (hl0 : l.stackTraces = false) (q : Nat → Int) (hq : g 951 = jA cs 1 q) (z : Int) (hz : -2147483648 ≤ z ∧ z ≤ 2147483647) (z1 : Int) (hz1 : -2147483648 ≤ z1 ∧ z1 ≤ 2147483647) (z2 : Int) (hz2 : -2147483648 ≤ z2 ∧ z2 ≤ 2147483647) : zMW l yL_years cL_years 6 (some .int) [((0 : Nat), (12 : Nat), (15 : Nat), (18 : Nat)), ((0 : Nat), (12 : Nat), (19 : Nat), (13 : Nat))] ({ frames := 13, cells := 6, slots := 60, locals := 780 } : Room) D A cs tt N ad g [.ref (ad 0), .int (zI z), .int (zI z1), .int (zI z2), .ref (ad 951)] (rI fun _ N' ad' g' => zLF N ad g N' ad' g' ∧ okRec cs ad' g' N' t fp im nz kz sl ho ua st op ai fa mu tb tp ∧ ∃ q' : Nat → Int, g' 951 = jA cs 1 q') := by
  have hay1 : zAt ad (0) (ad 0) := rfl
  have hay2 : zAt ad (951) (ad 951) := rfl
  refine z_ofW (by decide) (Nat.le_of_ble_eq_true rfl) ?_
  intro p e s m below meth c C hr hlk hxt
  refine z_lv (lv' := [(0, .ref (ad 0)), (1, .int (zI (z))), (2, .int (zI (z1))), (3, .int (zI (z2))), (4, .ref (ad 951))]) [0, 1, 2, 3, 4] rfl ?_
  refine z_aload C 4 dL_years_0 rfl ?_
  refine z_iconst (z := 0) C dL_years_2 rfl ?_
  refine z_aload_n C 0 dL_years_3 rfl ?_
  refine z_iload_n C 1 dL_years_4 rfl ?_
  refine z_iload_n C 2 dL_years_5 rfl ?_
  refine z_iload_n C 3 dL_years_6 rfl ?_
  refine z_cVX (As := [.int (zI (z)), .int (zI (z1)), .int (zI (z2))]) (rest := [.int (zI (0)), .ref (ad 951)]) (ci := 11) C (c_X9_years l D A cs tt N ad _ hN _ _ _ _ _ _ _ _ _ _ _ _ _ _ _ hR hl0 z hz z1 hz1 z2 hz2) (by omega) hay1 hR.1 rfl rfl mv_yX9_years q_1428 hd_yX9_years (by decide) (Nat.le_of_ble_eq_true rfl) (by decide) dL_years_7 rfl (?_) (kI0 fun r0 g0 h0 => ?_)
  · intro E9 N9 ad9 g9 hx9
    obtain ⟨h9, e2, e3, e4⟩ := hx9
    obtain rfl := e2.symm; obtain rfl := e3.symm; obtain rfl := e4.symm
    rcases h9 with rfl | rfl
    · refine z_ucatch (name := "java/util/NoSuchElementException") C [] ⟨0, 12, 15, 18⟩ [⟨0, 12, 19, 13⟩] hxt (fun z hz => absurd hz List.not_mem_nil) (by decide) (by decide) q_873 n_906 (fun q9 => ?_)
      refine z_astore (lv' := [(5, .ref q9), (0, .ref (ad 0)), (1, .int (zI (z))), (2, .int (zI (z1))), (3, .int (zI (z2))), (4, .ref (ad 951))]) C dL_years_15 (by decide) rfl ?_
      refine z_iconst (z := 1) C dL_years_17 rfl ?_
      exact z_iret C hr hlk dL_years_18 (by decide) (by decide) ⟨1, rfl, zLF.same, hR, q, hq⟩
    · refine z_ucatch (name := "java/lang/IllegalArgumentException") C [⟨0, 12, 15, 18⟩] ⟨0, 12, 19, 13⟩ [] hxt (fun z hz => by obtain rfl := List.mem_singleton.mp hz; exact Or.inr ⟨by decide, _, q_873, zE_nc C.2.2.2.2.2⟩) (by decide) (by decide) q_653 n_660 (fun q9 => ?_)
      refine z_astore (lv' := [(5, .ref q9), (0, .ref (ad 0)), (1, .int (zI (z))), (2, .int (zI (z1))), (3, .int (zI (z2))), (4, .ref (ad 951))]) C dL_years_19 (by decide) rfl ?_
      refine z_iconst (z := 2) C dL_years_21 rfl ?_
      exact z_iret C hr hlk dL_years_22 (by decide) (by decide) ⟨2, rfl, zLF.same, hR, q, hq⟩
  · obtain ⟨hr0, hR0, hF0⟩ := h0
    refine z_i2l C dL_years_10 (by omega) ?_
    have hgy3 := (hF0 (951) (by omega) (by omega)).trans hq
    refine z_last C (by omega) hay2 hgy3 (0) (by omega) (by omega) (by decide) dL_years_11 (fun gy4 egy5 => ?_)
    have hgy6 := up_s egy5
    refine z_goto (tgt := 23) C dL_years_12 (by decide) ?_
    refine z_iconst (z := 0) C dL_years_23 rfl ?_
    exact z_iret C hr hlk dL_years_24 (by decide) (by decide) ⟨0, rfl, (show zLF N ad g N ad g0 from ⟨Nat.le_refl _, fun _ _ => rfl, fun j a b => hF0 j (by omega) (by omega)⟩).put egy5, hR0.put egy5, _, up_s egy5⟩

theorem mW_yL_snow : zWw yL_snow cL_snow 4 (some .int) [((0 : Nat), (9 : Nat), (12 : Nat), (13 : Nat))] := ⟨q_651, q_0, q_652⟩
theorem mW_yL_count : zWw yL_count cL_count 4 (some .int) [((0 : Nat), (9 : Nat), (12 : Nat), (18 : Nat))] := ⟨q_871, q_0, q_872⟩
theorem mW_yL_forecast : zWw yL_forecast cL_forecast 5 (some .int) [((0 : Nat), (10 : Nat), (13 : Nat), (18 : Nat))] := ⟨q_921, q_0, q_922⟩
theorem mW_yL_slope : zWw yL_slope cL_slope 5 (some .int) [((0 : Nat), (10 : Nat), (13 : Nat), (18 : Nat))] := ⟨q_930, q_0, q_931⟩
theorem mW_yL_layer : zWw yL_layer cL_layer 6 (some .int) [((0 : Nat), (12 : Nat), (15 : Nat), (18 : Nat))] := ⟨q_949, q_0, q_950⟩
theorem mW_yL_told : zWw yL_told cL_told 6 (some .int) [((0 : Nat), (12 : Nat), (15 : Nat), (18 : Nat))] := ⟨q_968, q_0, q_969⟩
theorem mW_yL_then : zWw yL_then cL_then 6 (some .int) [((0 : Nat), (12 : Nat), (15 : Nat), (18 : Nat)), ((0 : Nat), (12 : Nat), (19 : Nat), (13 : Nat))] := ⟨q_1214, q_0, q_1215⟩
theorem mW_yL_once : zWw yL_once cL_once 5 (some .int) [((0 : Nat), (10 : Nat), (13 : Nat), (18 : Nat))] := ⟨q_1234, q_0, q_1235⟩
theorem mW_yL_gone : zWw yL_gone cL_gone 4 (some .int) [((0 : Nat), (9 : Nat), (12 : Nat), (18 : Nat))] := ⟨q_1241, q_0, q_1242⟩
theorem mW_yL_stands : zWw yL_stands cL_stands 5 (some .int) [((0 : Nat), (10 : Nat), (13 : Nat), (18 : Nat))] := ⟨q_1257, q_0, q_1258⟩
theorem mW_yL_toLoad : zWw yL_toLoad cL_toLoad 4 (some .int) [((0 : Nat), (9 : Nat), (12 : Nat), (18 : Nat))] := ⟨q_1268, q_0, q_1269⟩
theorem mW_yL_steepest : zWw yL_steepest cL_steepest 4 (some .int) [((0 : Nat), (9 : Nat), (12 : Nat), (18 : Nat))] := ⟨q_1275, q_0, q_1276⟩
theorem mW_yL_toWarm : zWw yL_toWarm cL_toWarm 5 (some .int) [((0 : Nat), (10 : Nat), (13 : Nat), (18 : Nat)), ((0 : Nat), (10 : Nat), (17 : Nat), (13 : Nat))] := ⟨q_1282, q_0, q_1283⟩
theorem mW_yL_matters : zWw yL_matters cL_matters 6 (some .int) [((0 : Nat), (12 : Nat), (15 : Nat), (18 : Nat)), ((0 : Nat), (12 : Nat), (19 : Nat), (13 : Nat))] := ⟨q_1298, q_0, q_1299⟩
theorem mW_yL_pitOf : zWw yL_pitOf cL_pitOf 5 (some .int) [((0 : Nat), (10 : Nat), (13 : Nat), (18 : Nat))] := ⟨q_1310, q_0, q_1311⟩
theorem mW_yL_compare : zWw yL_compare cL_compare 6 (some .int) [((0 : Nat), (12 : Nat), (15 : Nat), (18 : Nat))] := ⟨q_1323, q_0, q_1324⟩
theorem mW_yL_nearest : zWw yL_nearest cL_nearest 4 (some .int) [((0 : Nat), (9 : Nat), (12 : Nat), (18 : Nat))] := ⟨q_1350, q_0, q_1351⟩
theorem mW_yL_falls : zWw yL_falls cL_falls 4 (some .int) [((0 : Nat), (9 : Nat), (12 : Nat), (18 : Nat))] := ⟨q_1357, q_0, q_1358⟩
theorem mW_yL_look : zWw yL_look cL_look 4 (some .int) [((0 : Nat), (9 : Nat), (12 : Nat), (18 : Nat))] := ⟨q_1402, q_0, q_1403⟩
theorem mW_yL_odds : zWw yL_odds cL_odds 6 (some .int) [((0 : Nat), (12 : Nat), (15 : Nat), (18 : Nat)), ((0 : Nat), (12 : Nat), (19 : Nat), (13 : Nat))] := ⟨q_1409, q_0, q_1410⟩
theorem mW_yL_years : zWw yL_years cL_years 6 (some .int) [((0 : Nat), (12 : Nat), (15 : Nat), (18 : Nat)), ((0 : Nat), (12 : Nat), (19 : Nat), (13 : Nat))] := ⟨q_1426, q_0, q_1427⟩
