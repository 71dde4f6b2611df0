/-- all rows of numbers but the tried one -/
def okA (r : Nat → Int) (x : Int) : Prop := ∀ w, w < 83 → w ≠ 1 → okW r (350 * w) x ∧ r (350 * w) ≤ 2000
theorem okA.mono {r : Nat → Int} {x y : Int} (h : okA r x) (hxy : x ≤ y) : okA r y := fun w a b => ⟨(h w a b).1.mono hxy, (h w a b).2⟩
theorem okA.at0 {r : Nat → Int} {x : Int} (h : okA r x) : okW r 0 x ∧ r 0 ≤ 2000 := h 0 (by omega) (by omega)
/-- what changes the tried row alone -/
theorem okA.tried {r r' : Nat → Int} {x : Int} (h : okA r x) (he : ∀ j, j < 350 ∨ 700 ≤ j → r' j = r j) : okA r' x := fun w a b => by
  obtain ⟨h1, h2⟩ := h w a b
  exact ⟨okW.ext (fun k hk => he _ (by omega)) h1, by rw [he _ (by omega)]; exact h2⟩
/-- what changes the first row alone -/
theorem okA.first {r r' : Nat → Int} {x y : Int} (h : okA r x) (hxy : x ≤ y) (he : ∀ j, 350 ≤ j → r' j = r j) (h0 : okW r' 0 y) (ht : r' 0 ≤ 2000) : okA r' y := fun w a b => by
  by_cases e : w = 0
  · subst e; exact ⟨h0, ht⟩
  · obtain ⟨h1, h2⟩ := h w a b
    exact ⟨okW.ext (fun k hk => he _ (by omega)) (h1.mono hxy), by rw [he _ (by omega)]; exact h2⟩
/-- rows copied: m rows from the row a to the row b -/
theorem okA.copy {r r' : Nat → Int} {x : Int} {a b m : Nat} (h : okA r x) (ha : a + m ≤ 83) (ha1 : a = 0 ∧ m = 1 ∨ 2 ≤ a) (hb : b + m ≤ 83) (he : ∀ k, k < 350 * m → r' (350 * b + k) = r (350 * a + k)) (hf : ∀ j, j < 350 * b ∨ 350 * b + 350 * m ≤ j → r' j = r j) : okA r' x := fun w c d => by
  by_cases e : b ≤ w ∧ w < b + m
  · obtain ⟨h1, h2⟩ := h (a + (w - b)) (by omega) (by omega)
    have h3 : ∀ k, k < 350 → r' (350 * w + k) = r (350 * (a + (w - b)) + k) := fun k hk => by
      rw [show 350 * w + k = 350 * b + (350 * (w - b) + k) by omega, show 350 * (a + (w - b)) + k = 350 * a + (350 * (w - b) + k) by omega]
      exact he _ (by omega)
    exact ⟨okW.ext h3 h1, by have := h3 0 (by omega); rw [Nat.add_zero, Nat.add_zero] at this; rw [this]; exact h2⟩
  · obtain ⟨h1, h2⟩ := h w c d
    exact ⟨okW.ext (fun k hk => hf _ (by omega)) h1, by rw [hf _ (by omega)]; exact h2⟩
/-- one slope of a row changed, and its counts -/
theorem okW.slope {r r' : Nat → Int} {b s p : Nat} {x : Int} (h : okW r b x) (hs : s < 4) (hp : b + 6 + 86 * s = p) (hS : okS r' p (mB (r b + x) + 50) (eB (r b + x) + 500)) (hn : r (b + 1) ≤ r' (b + 1) ∧ r' (b + 1) ≤ r (b + 1) + 1) (h0 : r' b = r b) (h5 : 0 ≤ r' (b + 5) ∧ r' (b + 5) ≤ 6) (he : ∀ j, b + 6 ≤ j → j < b + 350 → j < p ∨ p + 86 ≤ j → r' j = r j) : okW r' b (x + 1) := by
  obtain ⟨h1, h2, h3, h4⟩ := h
  refine ⟨fun k hk => ?_, by rw [h0]; exact h2, by rw [h0]; omega, h5⟩
  rw [h0]
  by_cases e : k = s
  · subst e; rw [hp]; exact hS.mono (by unfold mB; omega) (by unfold eB; omega)
  · exact ((h1 k hk).mono (by unfold mB; omega) (by unfold eB; omega)).ext (fun j a1 a2 => he j (by omega) (by omega) (by omega))
def okPt (pi : Nat → Int) : Prop := ∀ k, k < 12 → (0 ≤ pi (90 * k) ∧ pi (90 * k) ≤ 3) ∧ (0 ≤ pi (90 * k + 2) ∧ pi (90 * k + 2) ≤ 12) ∧ ∀ l : Nat, (l : Int) < pi (90 * k + 2) → (0 ≤ pi (90 * k + 3 + 7 * l) ∧ pi (90 * k + 3 + 7 * l) ≤ 4) ∧ 1 ≤ pi (90 * k + 3 + 7 * l + 3) ∧ pi (90 * k + 3 + 7 * l + 3) ≤ 400000000
theorem mBb {t : Int} (h : 0 ≤ t ∧ t ≤ 2722) : mB t ≤ 138500 ∧ eB t ≤ 400000000 ∧ mB t = 2400 + 50 * t ∧ eB t = 12000 + 139000 * t := by
  have e1 : mB t = 2400 + 50 * t := rfl
  have e2 : eB t = 12000 + 139000 * t := rfl
  omega

set_option maxRecDepth 100000 in
set_option maxHeartbeats 4000000 in
theorem c_X10_right (l : Launch) (D : va_G) (A : Nat → Prop) (cs : Nat → ClassId) (tt : Nat) (N : Nat) (ad : Nat → Nat) (g : Nat → va_E) (i : Nat) (hN : i + 30 ≤ N) (F : Nat → Int) (hg : g i = mC ad i F) (h12 : 0 ≤ F 12 ∧ F 12 ≤ 2) (z : Int) (hz : 0 ≤ z ∧ z ≤ 1) (z1 : Int) (hz1 : 1 ≤ z1 ∧ z1 ≤ 2) : zM l yX10_right cX10_right 3 (some .boolean) ({ frames := 1, cells := 0, slots := 0, locals := 60 } : Room) D A cs tt N ad g [.ref (ad i), .int (zI (z)), .int (zI (z1))] (rI0 N ad fun r g' => ((0 ≤ r ∧ r ≤ 1) ∧ (r = 1 → z = 1)) ∧ (∃ F' : Nat → Int, g' i = mC ad i F' ∧ (0 ≤ F' 12 ∧ F' 12 ≤ 2) ∧ (∀ f, f ≠ 12 → F' f = F f)) ∧ ∀ j, j ≠ i → g' j = g j) := by
  have hay1 : zAt ad (i) (ad i) := rfl
  refine z_of (by decide) (Nat.le_of_ble_eq_true rfl) ?_
  intro pZ eZ sZ mZ below meth cZ C hr hlk hnm
  refine z_lv (lv' := [(0, .ref (ad i)), (1, .int (zI (z))), (2, .int (zI (z1)))]) [0, 1, 2] rfl ?_
  refine z_aload_n C 0 dX10_right_0 rfl ?_
  refine z_get (v := .int (zI (F 12))) C (lt_A0 hN rfl) hay1 hg rfl inA_X10 12 (by decide) q_1471 rfl (fv (F := F) (f := 12) rfl) dX10_right_1 ?_
  refine z_if_ne (tgt := 16) C dX10_right_4 (by decide) (by omega) (fun hby2 => ?_) (fun hby2 => ?_)
  · refine z_aload_n C 0 dX10_right_16 rfl ?_
    refine z_get (v := .int (zI (F 12))) C (lt_A0 hN rfl) hay1 hg rfl inA_X10 12 (by decide) q_1471 rfl (fv (F := F) (f := 12) rfl) dX10_right_17 ?_
    refine z_if_ne (tgt := 27) C dX10_right_20 (by decide) (by omega) (fun hby3 => ?_) (fun hby3 => ?_)
    · refine z_iconst (z := 0) C dX10_right_27 rfl ?_
      have hFy4 : ∀ f, f ≠ 12 → F f = F f := fun f n12 => rfl
      have hey5 : F 12 = F 12 := rfl
      exact z_zret C hr hlk dX10_right_28 (by decide) (by decide) (by decide) ⟨0, rfl, rfl, rfl, by omega, ⟨_, hg, by omega, hFy4⟩, fun j j1 => by rfl⟩
    · refine z_iconst (z := 1) C dX10_right_23 rfl ?_
      refine z_goto (tgt := 28) C dX10_right_24 (by decide) ?_
      have hFy6 : ∀ f, f ≠ 12 → F f = F f := fun f n12 => rfl
      have hey7 : F 12 = F 12 := rfl
      exact z_zret C hr hlk dX10_right_28 (by decide) (by decide) (by decide) ⟨1, rfl, rfl, rfl, by omega, ⟨_, hg, by omega, hFy6⟩, fun j j1 => by rfl⟩
  · refine z_iload_n C 1 dX10_right_7 rfl ?_
    refine z_if_ne (tgt := 16) C dX10_right_8 (by decide) (by omega) (fun hby8 => ?_) (fun hby8 => ?_)
    · refine z_aload_n C 0 dX10_right_16 rfl ?_
      refine z_get (v := .int (zI (F 12))) C (lt_A0 hN rfl) hay1 hg rfl inA_X10 12 (by decide) q_1471 rfl (fv (F := F) (f := 12) rfl) dX10_right_17 ?_
      refine z_if_ne (tgt := 27) C dX10_right_20 (by decide) (by omega) (fun hby9 => ?_) (fun hby9 => ?_)
      · refine z_iconst (z := 0) C dX10_right_27 rfl ?_
        have hFy10 : ∀ f, f ≠ 12 → F f = F f := fun f n12 => rfl
        have hey11 : F 12 = F 12 := rfl
        exact z_zret C hr hlk dX10_right_28 (by decide) (by decide) (by decide) ⟨0, rfl, rfl, rfl, by omega, ⟨_, hg, by omega, hFy10⟩, fun j j1 => by rfl⟩
      · refine z_iconst (z := 1) C dX10_right_23 rfl ?_
        refine z_goto (tgt := 28) C dX10_right_24 (by decide) ?_
        have hFy12 : ∀ f, f ≠ 12 → F f = F f := fun f n12 => rfl
        have hey13 : F 12 = F 12 := rfl
        exact z_zret C hr hlk dX10_right_28 (by decide) (by decide) (by decide) ⟨1, rfl, rfl, rfl, by omega, ⟨_, hg, by omega, hFy12⟩, fun j j1 => by rfl⟩
    · refine z_aload_n C 0 dX10_right_11 rfl ?_
      refine z_iload_n C 2 dX10_right_12 rfl ?_
      refine z_put (fs' := mF ad (i) (uZ F 12 (z1))) C (lt_A0 hN rfl) hay1 hg tyX10 tyX10_ok nmX10 rfl inA_X10 12 (by decide) q_1471 rfl rfl rfl rfl (Nat.le_of_ble_eq_true rfl) rfl dX10_right_13 (fun gy14 egy15 => ?_)
      have hgy16 := up_s egy15
      refine z_aload_n C 0 dX10_right_16 rfl ?_
      refine z_get (v := .int (zI (z1))) C (lt_A0 hN rfl) hay1 hgy16 rfl inA_X10 12 (by decide) q_1471 rfl (fv (F := (uZ F 12 (z1))) (f := 12) (uZ_s _ _ _)) dX10_right_17 ?_
      refine z_if_ne (tgt := 27) C dX10_right_20 (by decide) (by omega) (fun hby17 => ?_) (fun hby17 => ?_)
      · refine z_iconst (z := 0) C dX10_right_27 rfl ?_
        have hFy18 : ∀ f, f ≠ 12 → (uZ F 12 (z1)) f = F f := fun f n12 => ((uZ_n _ _ n12).trans rfl)
        have hey19 : (uZ F 12 (z1)) 12 = z1 := (uZ_s _ _ _)
        exact z_zret C hr hlk dX10_right_28 (by decide) (by decide) (by decide) ⟨0, rfl, rfl, rfl, by omega, ⟨_, hgy16, by omega, hFy18⟩, fun j j1 => by rw [egy15, va_up_ne _ _ (by omega)]⟩
      · refine z_iconst (z := 1) C dX10_right_23 rfl ?_
        refine z_goto (tgt := 28) C dX10_right_24 (by decide) ?_
        have hFy20 : ∀ f, f ≠ 12 → (uZ F 12 (z1)) f = F f := fun f n12 => ((uZ_n _ _ n12).trans rfl)
        have hey21 : (uZ F 12 (z1)) 12 = z1 := (uZ_s _ _ _)
        exact z_zret C hr hlk dX10_right_28 (by decide) (by decide) (by decide) ⟨1, rfl, rfl, rfl, by omega, ⟨_, hgy16, by omega, hFy20⟩, fun j j1 => by rw [egy15, va_up_ne _ _ (by omega)]⟩

set_option maxRecDepth 100000 in
set_option maxHeartbeats 4000000 in
theorem c_X10_isSlope (l : Launch) (D : va_G) (A : Nat → Prop) (cs : Nat → ClassId) (tt : Nat) (N : Nat) (ad : Nat → Nat) (g : Nat → va_E) (i : Nat) (hN : i + 30 ≤ N) (F : Nat → Int) (hg : g i = mC ad i F) (h12 : 0 ≤ F 12 ∧ F 12 ≤ 2) (h13 : 0 ≤ F 13 ∧ F 13 ≤ 4) (z : Int) (hz : -2147483648 ≤ z ∧ z ≤ 2147483647) : zM l yX10_isSlope cX10_isSlope 2 (some .boolean) ({ frames := 2, cells := 0, slots := 0, locals := 120 } : Room) D A cs tt N ad g [.ref (ad i), .int (zI (z))] (rI0 N ad fun r g' => ((0 ≤ r ∧ r ≤ 1) ∧ (r = 1 → 0 ≤ z ∧ z < F 13)) ∧ (∃ F' : Nat → Int, g' i = mC ad i F' ∧ (0 ≤ F' 12 ∧ F' 12 ≤ 2) ∧ (∀ f, f ≠ 12 → F' f = F f)) ∧ ∀ j, j ≠ i → g' j = g j) := by
  have hay1 : zAt ad (i) (ad i) := rfl
  refine z_of (by decide) (Nat.le_of_ble_eq_true rfl) ?_
  intro pZ eZ sZ mZ below meth cZ C hr hlk hnm
  refine z_lv (lv' := [(0, .ref (ad i)), (1, .int (zI (z)))]) [0, 1] rfl ?_
  refine z_aload_n C 0 dX10_isSlope_0 rfl ?_
  refine z_iload_n C 1 dX10_isSlope_1 rfl ?_
  refine z_iconst (z := 0) C dX10_isSlope_2 rfl ?_
  refine z_aload_n C 0 dX10_isSlope_3 rfl ?_
  refine z_get (v := .int (zI (F 13))) C (lt_A0 hN rfl) hay1 hg rfl inA_X10 13 (by decide) q_1472 rfl (fv (F := F) (f := 13) rfl) dX10_isSlope_4 ?_
  refine z_iconst (z := 1) C dX10_isSlope_7 rfl ?_
  refine z_isub C dX10_isSlope_8 ?_
  refine z_cS (As := [.int (zI (z)), .int (zI (0)), .int (zI ((F 13) - 1))]) (rest := [.ref (ad i)]) C (c_X10_within l D A cs tt N ad _ (z) (by omega) (0) (by omega) ((F 13) - 1) (by omega)) ms_yX10_within q_1690 hd_yX10_within (by decide) (Nat.le_of_ble_eq_true rfl) (by decide) dX10_isSlope_9 rfl (kI0 fun vy2 gvy2 hvy2 => ?_)
  obtain ⟨hvy2, rfl⟩ := hvy2
  rcases hvy2 with ⟨rfl, hxvy2⟩ | ⟨rfl, hxvy2⟩
  · refine z_iconst (z := 1) C dX10_isSlope_12 rfl ?_
    have hey4 : F 12 = F 12 := rfl
    refine z_cV (As := [.int (zI (1)), .int (zI (1))]) (rest := []) (ci := 12) C (c_X10_right l D A cs tt N ad _ i hN _ hg (by omega) (1) (by omega) (1) (by omega)) (lt_A0 hN rfl) hay1 hg rfl rfl mv_yX10_right q_1652 hd_yX10_right (by decide) (Nat.le_of_ble_eq_true rfl) (by decide) dX10_isSlope_13 rfl (kI0 fun vy3 gvy3 hvy3 => ?_)
    obtain ⟨hrvy3, ⟨Fvy3, hcvy3, htvy3, hFvy3⟩, hfvy3⟩ := hvy3
    rcases (show vy3 = 1 ∨ vy3 = 0 by omega) with rfl | rfl
    · have hFy5 : ∀ f, f ≠ 12 → Fvy3 f = F f := fun f n12 => (hFvy3 f n12)
      have hey6 : Fvy3 12 = Fvy3 12 := rfl
      exact z_zret C hr hlk dX10_isSlope_16 (by decide) (by decide) (by decide) ⟨1, rfl, rfl, rfl, by omega, ⟨_, hcvy3, by omega, hFy5⟩, fun j j1 => by rw [hfvy3 _ (by omega)]⟩
    · have hFy7 : ∀ f, f ≠ 12 → Fvy3 f = F f := fun f n12 => (hFvy3 f n12)
      have hey8 : Fvy3 12 = Fvy3 12 := rfl
      exact z_zret C hr hlk dX10_isSlope_16 (by decide) (by decide) (by decide) ⟨0, rfl, rfl, rfl, by omega, ⟨_, hcvy3, by omega, hFy7⟩, fun j j1 => by rw [hfvy3 _ (by omega)]⟩
  · refine z_iconst (z := 1) C dX10_isSlope_12 rfl ?_
    have hey10 : F 12 = F 12 := rfl
    refine z_cV (As := [.int (zI (0)), .int (zI (1))]) (rest := []) (ci := 12) C (c_X10_right l D A cs tt N ad _ i hN _ hg (by omega) (0) (by omega) (1) (by omega)) (lt_A0 hN rfl) hay1 hg rfl rfl mv_yX10_right q_1652 hd_yX10_right (by decide) (Nat.le_of_ble_eq_true rfl) (by decide) dX10_isSlope_13 rfl (kI0 fun vy9 gvy9 hvy9 => ?_)
    obtain ⟨hrvy9, ⟨Fvy9, hcvy9, htvy9, hFvy9⟩, hfvy9⟩ := hvy9
    obtain rfl : vy9 = 0 := by omega
    have hFy11 : ∀ f, f ≠ 12 → Fvy9 f = F f := fun f n12 => (hFvy9 f n12)
    have hey12 : Fvy9 12 = Fvy9 12 := rfl
    exact z_zret C hr hlk dX10_isSlope_16 (by decide) (by decide) (by decide) ⟨0, rfl, rfl, rfl, by omega, ⟨_, hcvy9, by omega, hFy11⟩, fun j j1 => by rw [hfvy9 _ (by omega)]⟩

set_option maxRecDepth 100000 in
set_option maxHeartbeats 4000000 in
theorem c_X10_isLayer_a (l : Launch) (D : va_G) (A : Nat → Prop) (cs : Nat → ClassId) (tt : Nat) (N : Nat) (ad : Nat → Nat) (g : Nat → va_E) (i : Nat) (hN : i + 30 ≤ N) (F : Nat → Int) (hg : g i = mC ad i F) (r : Nat → Int) (ha1 : g (i + 1) = iA cs 29200 r) (hmn : ∀ s, s < 4 → 0 ≤ r (6 + 86 * s) ∧ r (6 + 86 * s) ≤ 12) (h12 : 0 ≤ F 12 ∧ F 12 ≤ 2) (h13 : 0 ≤ F 13 ∧ F 13 ≤ 4) (s p : Nat) (hs : s < 4) (hp : 0 + 6 + 86 * s = p) (z1 : Int) (hz1 : -2147483648 ≤ z1 ∧ z1 ≤ 2147483647) : zM l yX10_isLayer cX10_isLayer 3 (some .boolean) ({ frames := 3, cells := 0, slots := 0, locals := 180 } : Room) D A cs tt N ad g [.ref (ad i), .int (zI ((s : Int))), .int (zI (z1))] (rI0 N ad fun q g' => ((0 ≤ q ∧ q ≤ 1) ∧ (q = 1 → (s : Int) < F 13 ∧ 0 ≤ z1 ∧ z1 < r p)) ∧ (∃ F' : Nat → Int, g' i = mC ad i F' ∧ (0 ≤ F' 12 ∧ F' 12 ≤ 2) ∧ (∀ f, f ≠ 12 → F' f = F f)) ∧ ∀ j, j ≠ i → g' j = g j) := by
  have hay1 : zAt ad (i) (ad i) := rfl
  have hay2 : zAt ad (i + 1) (ad (i + 1)) := rfl
  have hmp := hmn s hs
  rw [show 6 + 86 * s = p by omega] at hmp
  refine z_of (by decide) (Nat.le_of_ble_eq_true rfl) ?_
  intro pZ eZ sZ mZ below meth cZ C hr hlk hnm
  refine z_lv (lv' := [(0, .ref (ad i)), (1, .int (zI ((s : Int)))), (2, .int (zI (z1)))]) [0, 1, 2] rfl ?_
  refine z_aload_n C 0 dX10_isLayer_0 rfl ?_
  refine z_iload_n C 1 dX10_isLayer_1 rfl ?_
  have h13vy3 : F 13 = F 13 := rfl
  have hey4 : F 12 = F 12 := rfl
  refine z_cV (As := [.int (zI ((s : Int)))]) (rest := []) (ci := 12) C (c_X10_isSlope l D A cs tt N ad _ i hN _ hg (by omega) (by omega) ((s : Int)) (by omega)) (lt_A0 hN rfl) hay1 hg rfl rfl mv_yX10_isSlope q_1807 hd_yX10_isSlope (by decide) (Nat.le_of_ble_eq_true rfl) (by decide) dX10_isLayer_2 rfl (kI0 fun vy3 gvy3 hvy3 => ?_)
  rw [h13vy3] at hvy3
  obtain ⟨hrvy3, ⟨Fvy3, hcvy3, htvy3, hFvy3⟩, hfvy3⟩ := hvy3
  rcases (show vy3 = 1 ∨ vy3 = 0 by omega) with rfl | rfl
  · have hxvy3 := hrvy3.2 rfl
    refine z_if_eq (tgt := 33) C dX10_isLayer_5 (by decide) (by omega) (fun h => absurd h (by omega)) (fun _ => ?_)
    refine z_aload_n C 0 dX10_isLayer_8 rfl ?_
    refine z_iload_n C 2 dX10_isLayer_9 rfl ?_
    refine z_iconst (z := 0) C dX10_isLayer_10 rfl ?_
    refine z_aload_n C 0 dX10_isLayer_11 rfl ?_
    refine z_iconst (z := 0) C dX10_isLayer_12 rfl ?_
    refine z_iload_n C 1 dX10_isLayer_13 rfl ?_
    have hgy5 := (hfvy3 (i + 1) (ne_o (i := i) (c := 1) (d := 0) rfl)).trans ha1
    refine z_cV (As := [.int (zI (0)), .int (zI ((s : Int)))]) (rest := [.int (zI (0)), .int (zI (z1)), .ref (ad i)]) (ci := 12) C (c_X10_many l D A cs tt N ad _ i hN _ hcvy3 _ hgy5 0 s p hp (by omega) (by omega)) (lt_A0 hN rfl) hay1 hcvy3 rfl rfl mv_yX10_many q_1737 hd_yX10_many (by decide) (Nat.le_of_ble_eq_true rfl) (by decide) dX10_isLayer_14 rfl (kI0 fun vy6 gvy6 hvy6 => ?_)
    obtain ⟨rfl, rfl⟩ := hvy6
    refine z_iconst (z := 1) C dX10_isLayer_17 rfl ?_
    refine z_isub C dX10_isLayer_18 ?_
    refine z_cS (As := [.int (zI (z1)), .int (zI (0)), .int (zI ((r (p)) - 1))]) (rest := [.ref (ad i)]) C (c_X10_within l D A cs tt N ad _ (z1) (by omega) (0) (by omega) ((r (p)) - 1) (by omega)) ms_yX10_within q_1690 hd_yX10_within (by decide) (Nat.le_of_ble_eq_true rfl) (by decide) dX10_isLayer_19 rfl (kI0 fun vy7 gvy7 hvy7 => ?_)
    obtain ⟨hvy7, rfl⟩ := hvy7
    rcases hvy7 with ⟨rfl, hxvy7⟩ | ⟨rfl, hxvy7⟩
    · refine z_iconst (z := 1) C dX10_isLayer_22 rfl ?_
      have hey9 : Fvy3 12 = Fvy3 12 := rfl
      refine z_cV (As := [.int (zI (1)), .int (zI (1))]) (rest := []) (ci := 12) C (c_X10_right l D A cs tt N ad _ i hN _ hcvy3 (by omega) (1) (by omega) (1) (by omega)) (lt_A0 hN rfl) hay1 hcvy3 rfl rfl mv_yX10_right q_1652 hd_yX10_right (by decide) (Nat.le_of_ble_eq_true rfl) (by decide) dX10_isLayer_23 rfl (kI0 fun vy8 gvy8 hvy8 => ?_)
      obtain ⟨hrvy8, ⟨Fvy8, hcvy8, htvy8, hFvy8⟩, hfvy8⟩ := hvy8
      rcases (show vy8 = 1 ∨ vy8 = 0 by omega) with rfl | rfl
      · refine z_if_eq (tgt := 33) C dX10_isLayer_26 (by decide) (by omega) (fun h => absurd h (by omega)) (fun _ => ?_)
        refine z_iconst (z := 1) C dX10_isLayer_29 rfl ?_
        refine z_goto (tgt := 34) C dX10_isLayer_30 (by decide) ?_
        have hFy10 : ∀ f, f ≠ 12 → Fvy8 f = F f := fun f n12 => ((hFvy8 f n12).trans (hFvy3 f n12))
        have hey11 : Fvy8 12 = Fvy8 12 := rfl
        exact z_zret C hr hlk dX10_isLayer_34 (by decide) (by decide) (by decide) ⟨1, rfl, rfl, rfl, by omega, ⟨_, hcvy8, by omega, hFy10⟩, fun j j1 => by rw [hfvy8 _ (by omega)]; rw [hfvy3 _ (by omega)]⟩
      · refine z_if_eq (tgt := 33) C dX10_isLayer_26 (by decide) (by omega) (fun _ => ?_) (fun h => absurd h (by omega))
        refine z_iconst (z := 0) C dX10_isLayer_33 rfl ?_
        have hFy12 : ∀ f, f ≠ 12 → Fvy8 f = F f := fun f n12 => ((hFvy8 f n12).trans (hFvy3 f n12))
        have hey13 : Fvy8 12 = Fvy8 12 := rfl
        exact z_zret C hr hlk dX10_isLayer_34 (by decide) (by decide) (by decide) ⟨0, rfl, rfl, rfl, by omega, ⟨_, hcvy8, by omega, hFy12⟩, fun j j1 => by rw [hfvy8 _ (by omega)]; rw [hfvy3 _ (by omega)]⟩
    · refine z_iconst (z := 1) C dX10_isLayer_22 rfl ?_
      have hey15 : Fvy3 12 = Fvy3 12 := rfl
      refine z_cV (As := [.int (zI (0)), .int (zI (1))]) (rest := []) (ci := 12) C (c_X10_right l D A cs tt N ad _ i hN _ hcvy3 (by omega) (0) (by omega) (1) (by omega)) (lt_A0 hN rfl) hay1 hcvy3 rfl rfl mv_yX10_right q_1652 hd_yX10_right (by decide) (Nat.le_of_ble_eq_true rfl) (by decide) dX10_isLayer_23 rfl (kI0 fun vy14 gvy14 hvy14 => ?_)
      obtain ⟨hrvy14, ⟨Fvy14, hcvy14, htvy14, hFvy14⟩, hfvy14⟩ := hvy14
      obtain rfl : vy14 = 0 := by omega
      refine z_if_eq (tgt := 33) C dX10_isLayer_26 (by decide) (by omega) (fun _ => ?_) (fun h => absurd h (by omega))
      refine z_iconst (z := 0) C dX10_isLayer_33 rfl ?_
      have hFy16 : ∀ f, f ≠ 12 → Fvy14 f = F f := fun f n12 => ((hFvy14 f n12).trans (hFvy3 f n12))
      have hey17 : Fvy14 12 = Fvy14 12 := rfl
      exact z_zret C hr hlk dX10_isLayer_34 (by decide) (by decide) (by decide) ⟨0, rfl, rfl, rfl, by omega, ⟨_, hcvy14, by omega, hFy16⟩, fun j j1 => by rw [hfvy14 _ (by omega)]; rw [hfvy3 _ (by omega)]⟩
  · refine z_if_eq (tgt := 33) C dX10_isLayer_5 (by decide) (by omega) (fun _ => ?_) (fun h => absurd h (by omega))
    refine z_iconst (z := 0) C dX10_isLayer_33 rfl ?_
    have hFy18 : ∀ f, f ≠ 12 → Fvy3 f = F f := fun f n12 => (hFvy3 f n12)
    have hey19 : Fvy3 12 = Fvy3 12 := rfl
    exact z_zret C hr hlk dX10_isLayer_34 (by decide) (by decide) (by decide) ⟨0, rfl, rfl, rfl, by omega, ⟨_, hcvy3, by omega, hFy18⟩, fun j j1 => by rw [hfvy3 _ (by omega)]⟩

set_option maxRecDepth 100000 in
set_option maxHeartbeats 4000000 in
theorem c_X10_isLayer_b (l : Launch) (D : va_G) (A : Nat → Prop) (cs : Nat → ClassId) (tt : Nat) (N : Nat) (ad : Nat → Nat) (g : Nat → va_E) (i : Nat) (hN : i + 30 ≤ N) (F : Nat → Int) (hg : g i = mC ad i F) (h12 : 0 ≤ F 12 ∧ F 12 ≤ 2) (h13 : 0 ≤ F 13 ∧ F 13 ≤ 4) (z : Int) (hz : -2147483648 ≤ z ∧ z ≤ 2147483647) (hzo : z < 0 ∨ 3 < z) (z1 : Int) : zM l yX10_isLayer cX10_isLayer 3 (some .boolean) ({ frames := 3, cells := 0, slots := 0, locals := 180 } : Room) D A cs tt N ad g [.ref (ad i), .int (zI (z)), .int (zI (z1))] (rI0 N ad fun q g' => q = 0 ∧ (∃ F' : Nat → Int, g' i = mC ad i F' ∧ (0 ≤ F' 12 ∧ F' 12 ≤ 2) ∧ (∀ f, f ≠ 12 → F' f = F f)) ∧ ∀ j, j ≠ i → g' j = g j) := by
  have hay1 : zAt ad (i) (ad i) := rfl
  refine z_of (by decide) (Nat.le_of_ble_eq_true rfl) ?_
  intro pZ eZ sZ mZ below meth cZ C hr hlk hnm
  refine z_lv (lv' := [(0, .ref (ad i)), (1, .int (zI (z))), (2, .int (zI (z1)))]) [0, 1, 2] rfl ?_
  refine z_aload_n C 0 dX10_isLayer_0 rfl ?_
  refine z_iload_n C 1 dX10_isLayer_1 rfl ?_
  have h13vy2 : F 13 = F 13 := rfl
  have hey3 : F 12 = F 12 := rfl
  refine z_cV (As := [.int (zI (z))]) (rest := []) (ci := 12) C (c_X10_isSlope l D A cs tt N ad _ i hN _ hg (by omega) (by omega) (z) (by omega)) (lt_A0 hN rfl) hay1 hg rfl rfl mv_yX10_isSlope q_1807 hd_yX10_isSlope (by decide) (Nat.le_of_ble_eq_true rfl) (by decide) dX10_isLayer_2 rfl (kI0 fun vy2 gvy2 hvy2 => ?_)
  rw [h13vy2] at hvy2
  obtain ⟨hrvy2, ⟨Fvy2, hcvy2, htvy2, hFvy2⟩, hfvy2⟩ := hvy2
  obtain rfl : vy2 = 0 := by omega
  refine z_if_eq (tgt := 33) C dX10_isLayer_5 (by decide) (by omega) (fun _ => ?_) (fun h => absurd h (by omega))
  refine z_iconst (z := 0) C dX10_isLayer_33 rfl ?_
  have hFy4 : ∀ f, f ≠ 12 → Fvy2 f = F f := fun f n12 => (hFvy2 f n12)
  have hey5 : Fvy2 12 = Fvy2 12 := rfl
  exact z_zret C hr hlk dX10_isLayer_34 (by decide) (by decide) (by decide) ⟨0, rfl, rfl, rfl, rfl, ⟨_, hcvy2, by omega, hFy4⟩, fun j j1 => by rw [hfvy2 _ (by omega)]⟩

set_option maxRecDepth 100000 in
set_option maxHeartbeats 4000000 in
theorem c_X10_isPit (l : Launch) (D : va_G) (A : Nat → Prop) (cs : Nat → ClassId) (tt : Nat) (N : Nat) (ad : Nat → Nat) (g : Nat → va_E) (i : Nat) (hN : i + 30 ≤ N) (F : Nat → Int) (hg : g i = mC ad i F) (r : Nat → Int) (ha1 : g (i + 1) = iA cs 29200 r) (h12 : 0 ≤ F 12 ∧ F 12 ≤ 2) (h5 : 0 ≤ r 5 ∧ r 5 ≤ 6) (z : Int) (hz : -2147483648 ≤ z ∧ z ≤ 2147483647) : zM l yX10_isPit cX10_isPit 2 (some .boolean) ({ frames := 2, cells := 0, slots := 0, locals := 120 } : Room) D A cs tt N ad g [.ref (ad i), .int (zI (z))] (rI0 N ad fun q g' => ((0 ≤ q ∧ q ≤ 1) ∧ (q = 1 → 0 ≤ z ∧ z < r 5)) ∧ (∃ F' : Nat → Int, g' i = mC ad i F' ∧ (0 ≤ F' 12 ∧ F' 12 ≤ 2) ∧ (∀ f, f ≠ 12 → F' f = F f)) ∧ ∀ j, j ≠ i → g' j = g j) := by
  have hay1 : zAt ad (i) (ad i) := rfl
  have hay2 : zAt ad (i + 1) (ad (i + 1)) := rfl
  refine z_of (by decide) (Nat.le_of_ble_eq_true rfl) ?_
  intro pZ eZ sZ mZ below meth cZ C hr hlk hnm
  refine z_lv (lv' := [(0, .ref (ad i)), (1, .int (zI (z)))]) [0, 1] rfl ?_
  refine z_aload_n C 0 dX10_isPit_0 rfl ?_
  refine z_iload_n C 1 dX10_isPit_1 rfl ?_
  refine z_iconst (z := 0) C dX10_isPit_2 rfl ?_
  refine z_aload_n C 0 dX10_isPit_3 rfl ?_
  refine z_get (v := .ref (ad (i + 1))) C (lt_A0 hN rfl) hay1 hg rfl inA_X10 0 (by decide) q_1459 rfl rfl dX10_isPit_4 ?_
  refine z_iconst (z := 5) C dX10_isPit_7 rfl ?_
  refine z_iald C (lt_A (c := 1) hN rfl) hay2 ha1 (5) (by omega) (by omega) (by decide) dX10_isPit_8 ?_
  refine z_iconst (z := 1) C dX10_isPit_9 rfl ?_
  refine z_isub C dX10_isPit_10 ?_
  refine z_cS (As := [.int (zI (z)), .int (zI (0)), .int (zI ((r (5)) - 1))]) (rest := [.ref (ad i)]) C (c_X10_within l D A cs tt N ad _ (z) (by omega) (0) (by omega) ((r (5)) - 1) (by omega)) ms_yX10_within q_1690 hd_yX10_within (by decide) (Nat.le_of_ble_eq_true rfl) (by decide) dX10_isPit_11 rfl (kI0 fun vy3 gvy3 hvy3 => ?_)
  obtain ⟨hvy3, rfl⟩ := hvy3
  rcases hvy3 with ⟨rfl, hxvy3⟩ | ⟨rfl, hxvy3⟩
  · refine z_iconst (z := 1) C dX10_isPit_14 rfl ?_
    have hey5 : F 12 = F 12 := rfl
    refine z_cV (As := [.int (zI (1)), .int (zI (1))]) (rest := []) (ci := 12) C (c_X10_right l D A cs tt N ad _ i hN _ hg (by omega) (1) (by omega) (1) (by omega)) (lt_A0 hN rfl) hay1 hg rfl rfl mv_yX10_right q_1652 hd_yX10_right (by decide) (Nat.le_of_ble_eq_true rfl) (by decide) dX10_isPit_15 rfl (kI0 fun vy4 gvy4 hvy4 => ?_)
    obtain ⟨hrvy4, ⟨Fvy4, hcvy4, htvy4, hFvy4⟩, hfvy4⟩ := hvy4
    rcases (show vy4 = 1 ∨ vy4 = 0 by omega) with rfl | rfl
    · have hFy6 : ∀ f, f ≠ 12 → Fvy4 f = F f := fun f n12 => (hFvy4 f n12)
      have hey7 : Fvy4 12 = Fvy4 12 := rfl
      exact z_zret C hr hlk dX10_isPit_18 (by decide) (by decide) (by decide) ⟨1, rfl, rfl, rfl, by omega, ⟨_, hcvy4, by omega, hFy6⟩, fun j j1 => by rw [hfvy4 _ (by omega)]⟩
    · have hFy8 : ∀ f, f ≠ 12 → Fvy4 f = F f := fun f n12 => (hFvy4 f n12)
      have hey9 : Fvy4 12 = Fvy4 12 := rfl
      exact z_zret C hr hlk dX10_isPit_18 (by decide) (by decide) (by decide) ⟨0, rfl, rfl, rfl, by omega, ⟨_, hcvy4, by omega, hFy8⟩, fun j j1 => by rw [hfvy4 _ (by omega)]⟩
  · refine z_iconst (z := 1) C dX10_isPit_14 rfl ?_
    have hey11 : F 12 = F 12 := rfl
    refine z_cV (As := [.int (zI (0)), .int (zI (1))]) (rest := []) (ci := 12) C (c_X10_right l D A cs tt N ad _ i hN _ hg (by omega) (0) (by omega) (1) (by omega)) (lt_A0 hN rfl) hay1 hg rfl rfl mv_yX10_right q_1652 hd_yX10_right (by decide) (Nat.le_of_ble_eq_true rfl) (by decide) dX10_isPit_15 rfl (kI0 fun vy10 gvy10 hvy10 => ?_)
    obtain ⟨hrvy10, ⟨Fvy10, hcvy10, htvy10, hFvy10⟩, hfvy10⟩ := hvy10
    obtain rfl : vy10 = 0 := by omega
    have hFy12 : ∀ f, f ≠ 12 → Fvy10 f = F f := fun f n12 => (hFvy10 f n12)
    have hey13 : Fvy10 12 = Fvy10 12 := rfl
    exact z_zret C hr hlk dX10_isPit_18 (by decide) (by decide) (by decide) ⟨0, rfl, rfl, rfl, by omega, ⟨_, hcvy10, by omega, hFy12⟩, fun j j1 => by rw [hfvy10 _ (by omega)]⟩

set_option maxRecDepth 100000 in
set_option maxHeartbeats 4000000 in
theorem c_X10_keptAt (l : Launch) (D : va_G) (A : Nat → Prop) (cs : Nat → ClassId) (tt : Nat) (N : Nat) (ad : Nat → Nat) (g : Nat → va_E) (z : Int) (hz : 0 ≤ z ∧ z ≤ 39) (z1 : Int) (hz1 : 0 ≤ z1 ∧ z1 ≤ 40) : zM l yX10_keptAt cX10_keptAt 2 (some .int) ({ frames := 1, cells := 0, slots := 0, locals := 60 } : Room) D A cs tt N ad g [.int (zI (z)), .int (zI (z1))] (rI0 N ad fun r g' => (∃ w : Nat, (2 ≤ w ∧ w < 42) ∧ r = ((350 * w : Nat) : Int)) ∧ g = g') := by
  refine z_of (by decide) (Nat.le_of_ble_eq_true rfl) ?_
  intro pZ eZ sZ mZ below meth cZ C hr hlk hnm
  refine z_lv (lv' := [(0, .int (zI (z))), (1, .int (zI (z1)))]) [0, 1] rfl ?_
  refine z_sipush (z := 700) C dX10_keptAt_0 (by decide) ?_
  refine z_sipush (z := 350) C dX10_keptAt_3 (by decide) ?_
  refine z_iload_n C 0 dX10_keptAt_6 rfl ?_
  refine z_iload_n C 1 dX10_keptAt_7 rfl ?_
  refine z_iadd C dX10_keptAt_8 ?_
  refine z_bipush (z := 40) C dX10_keptAt_9 (by decide) ?_
  refine z_irem C dX10_keptAt_11 (by omega) (by omega) (by omega) ?_
  obtain ⟨xy1, exy1, hxy1⟩ := tmd (a := z + z1) (k := 40) (by omega) (by omega)
  rw [exy1]
  refine z_imul C dX10_keptAt_12 ?_
  refine z_iadd C dX10_keptAt_13 ?_
  obtain ⟨n, hn⟩ : ∃ n9 : Nat, xy1 = (n9 : Int) := ⟨(xy1).toNat, by omega⟩
  exact z_iret C hr hlk dX10_keptAt_14 (by decide) (by decide) ⟨_, rfl, rfl, rfl, ⟨n + 2, by omega, by omega⟩, rfl⟩

set_option maxRecDepth 100000 in
set_option maxHeartbeats 4000000 in
theorem c_X10_copies (l : Launch) (D : va_G) (A : Nat → Prop) (cs : Nat → ClassId) (tt : Nat) (N : Nat) (ad : Nat → Nat) (g : Nat → va_E) (i : Nat) (hN : i + 30 ≤ N) (F : Nat → Int) (hg : g i = mC ad i F) (r : Nat → Int) (ha1 : g (i + 1) = iA cs 29200 r) (a b mm : Nat) (ha : a + mm ≤ 29200) (hb : b + mm ≤ 29200) (hd : a + mm ≤ b ∨ b + mm ≤ a) : zM l yX10_copies cX10_copies 5 none ({ frames := 1, cells := 0, slots := 0, locals := 60 } : Room) D A cs tt N ad g [.ref (ad i), .int (zI ((a : Int))), .int (zI ((b : Int))), .int (zI ((mm : Int)))] (rV0 N ad fun g' => (∃ r' : Nat → Int, g' (i + 1) = iA cs 29200 r' ∧ (∀ k, k < mm → r' (b + k) = r (a + k)) ∧ ∀ j, j < b ∨ b + mm ≤ j → r' j = r j) ∧ ∀ j, j ≠ i + 1 → g' j = g j) := by
  have hay1 : zAt ad (i) (ad i) := rfl
  have hay2 : zAt ad (i + 1) (ad (i + 1)) := rfl
  refine z_of (by decide) (Nat.le_of_ble_eq_true rfl) ?_
  intro pZ eZ sZ mZ below meth cZ C hr hlk hnm
  refine z_lv (lv' := [(0, .ref (ad i)), (1, .int (zI ((a : Int)))), (2, .int (zI ((b : Int)))), (3, .int (zI ((mm : Int))))]) [0, 1, 2, 3] rfl ?_
  have lp : ∀ (n9 : Nat) (kk : Int) (r9 : Nat → Int) (g1 : Nat → va_E), (29201 - kk).toNat = n9 → (g1 (i + 1) = iA cs 29200 r9) → (∀ j, j ≠ i + 1 → g1 j = g j) → (∀ k : Nat, (k : Int) < kk → r9 (b + k) = r (a + k)) → (∀ j : Nat, j < b ∨ (b : Int) + kk ≤ (j : Int) → r9 j = r j) → (0 ≤ kk ∧ kk ≤ (mm : Int)) → zV pZ l eZ ({ frames := 1, cells := 0, slots := 0, locals := 60 } : Room) sZ mZ ([.ref (ad i), .int (zI ((a : Int))), .int (zI ((b : Int))), .int (zI ((mm : Int)))] : List Value).toArray below meth cZ (MQ below (zPost D A (rV0 N ad fun g' => (∃ r' : Nat → Int, g' (i + 1) = iA cs 29200 r' ∧ (∀ k, k < mm → r' (b + k) = r (a + k)) ∧ ∀ j, j < b ∨ b + mm ≤ j → r' j = r j) ∧ ∀ j, j ≠ i + 1 → g' j = g j)) ([.ref (ad i), .int (zI ((a : Int))), .int (zI ((b : Int))), .int (zI ((mm : Int)))] : List Value).toArray sZ ({ frames := 1, cells := 0, slots := 0, locals := 60 } : Room).cells ({ frames := 1, cells := 0, slots := 0, locals := 60 } : Room).slots A) D A 5 (N) ad g1 (0) (0) 3 [(0, .ref (ad i)), (1, .int (zI ((a : Int)))), (2, .int (zI ((b : Int)))), (3, .int (zI ((mm : Int)))), (4, .int (zI (kk)))] [] := by
    intro n9
    induction n9 using Nat.strongRecOn with
    | ind n9 ih =>
      intro kk r9 g1 hm9 f2 f3 f4 f5 hv
      have hay3 : zAt ad (i) (ad i) := rfl
      have hay4 : zAt ad (i + 1) (ad (i + 1)) := rfl
      obtain ⟨nk, hnk⟩ : ∃ n9 : Nat, kk = (n9 : Int) := ⟨kk.toNat, by omega⟩
      obtain ⟨na, hna⟩ : ∃ n9 : Nat, a + nk = n9 := ⟨_, rfl⟩
      obtain ⟨nb, hnb⟩ : ∃ n9 : Nat, b + nk = n9 := ⟨_, rfl⟩
      refine z_iload C 4 dX10_copies_3 rfl ?_
      refine z_iload_n C 3 dX10_copies_5 rfl ?_
      refine z_icmp_ge (tgt := 33) C dX10_copies_6 (by decide) (by omega) (by omega) (fun hby5 => ?_) (fun hby5 => ?_)
      · exact z_vret C hr hlk dX10_copies_33 (by decide) (by decide) ⟨rfl, rfl, rfl, ⟨_, f2, fun k a1 => f4 k (by omega), fun j a1 => f5 j (by omega)⟩, fun j j1 => by exact f3 j j1⟩
      · refine z_aload_n C 0 dX10_copies_9 rfl ?_
        refine z_get (v := .ref (ad (i + 1))) C (lt_A0 hN rfl) hay3 ((f3 _ (by omega)).trans hg) rfl inA_X10 0 (by decide) q_1459 rfl rfl dX10_copies_10 ?_
        refine z_iload_n C 2 dX10_copies_13 rfl ?_
        refine z_iload C 4 dX10_copies_14 rfl ?_
        refine z_iadd C dX10_copies_16 ?_
        refine z_aload_n C 0 dX10_copies_17 rfl ?_
        refine z_get (v := .ref (ad (i + 1))) C (lt_A0 hN rfl) hay3 ((f3 _ (by omega)).trans hg) rfl inA_X10 0 (by decide) q_1459 rfl rfl dX10_copies_18 ?_
        refine z_iload_n C 1 dX10_copies_21 rfl ?_
        refine z_iload C 4 dX10_copies_22 rfl ?_
        refine z_iadd C dX10_copies_24 ?_
        refine z_iald C (lt_A (c := 1) hN rfl) hay4 f2 (na) (by omega) (by omega) (by decide) dX10_copies_25 ?_
        refine z_iast C (lt_A (c := 1) hN rfl) hay4 f2 (nb) (by omega) (by omega) (by decide) dX10_copies_26 (fun gy6 egy7 => ?_)
        have hgy8 := up_s egy7
        obtain ⟨ry9, hvy10⟩ : ∃ rZ9 : Nat → Int, rZ9 = uZ r9 (nb) (r9 (na)) := ⟨_, rfl⟩
        rw [← hvy10] at hgy8
        refine z_iinc (z := kk + 1) (lv' := [(4, .int (zI (kk + 1))), (0, .ref (ad i)), (1, .int (zI ((a : Int)))), (2, .int (zI ((b : Int)))), (3, .int (zI ((mm : Int))))]) (j := 4) C dX10_copies_27 rfl rfl (by decide) rfl ?_
        refine z_goto (tgt := 3) C dX10_copies_30 (by decide) ?_
        refine z_lv (lv' := [(0, .ref (ad i)), (1, .int (zI ((a : Int)))), (2, .int (zI ((b : Int)))), (3, .int (zI ((mm : Int)))), (4, .int (zI (kk + 1)))]) [1, 2, 3, 4, 0] rfl ?_
        have hfry11 : ∀ j, j ≠ nb → ry9 j = r9 j := fun j n0 => (congrFun hvy10 _).trans ((uZ_n _ _ n0).trans (rfl))
        have hwy12 : ry9 (nb) = r9 (na) := (congrFun hvy10 _).trans (uZ_s _ _ _)
        exact ih _ (by omega) (kk + 1) ry9 gy6 rfl hgy8 (fun j j1 => by rw [egy7, va_up_ne _ _ (by omega)]; exact f3 j j1) (fun k a1 => by
            by_cases e : k = nk
            · subst e; rw [show b + k = nb by omega, show a + k = na by omega, ← f5 (na) (by omega)]; omega
            · rw [hfry11 (b + k) (by omega)]; exact f4 k (by omega)) (fun j a1 => (hfry11 j (by omega)).trans (f5 j (by omega))) (by omega)
  refine z_iconst (z := 0) C dX10_copies_0 rfl ?_
  refine z_istore (lv' := [(4, .int (zI (0))), (0, .ref (ad i)), (1, .int (zI ((a : Int)))), (2, .int (zI ((b : Int)))), (3, .int (zI ((mm : Int))))]) C dX10_copies_1 (by decide) rfl ?_
  refine z_lv (lv' := [(0, .ref (ad i)), (1, .int (zI ((a : Int)))), (2, .int (zI ((b : Int)))), (3, .int (zI ((mm : Int)))), (4, .int (zI (0)))]) [1, 2, 3, 4, 0] rfl ?_
  exact lp _ 0 r g rfl ha1 (fun j _ => rfl) (fun k a1 => absurd a1 (by omega)) (fun j _ => rfl) (by omega)

set_option maxRecDepth 100000 in
set_option maxHeartbeats 4000000 in
theorem c_X10_keeps (l : Launch) (D : va_G) (A : Nat → Prop) (cs : Nat → ClassId) (tt : Nat) (N : Nat) (ad : Nat → Nat) (g : Nat → va_E) (i : Nat) (hN : i + 30 ≤ N) (F : Nat → Int) (hg : g i = mC ad i F) (r : Nat → Int) (ha1 : g (i + 1) = iA cs 29200 r) (x : Int) (hA : okA r x) (h15 : 0 ≤ F 15 ∧ F 15 ≤ 40) (h16 : 0 ≤ F 16 ∧ F 16 ≤ 39) : zM l yX10_keeps cX10_keeps 1 none ({ frames := 2, cells := 0, slots := 0, locals := 120 } : Room) D A cs tt N ad g [.ref (ad i)] (rV0 N ad fun g' => (∃ F' : Nat → Int, g' i = mC ad i F' ∧ ((0 ≤ F' 15 ∧ F' 15 ≤ 40) ∧ (0 ≤ F' 16 ∧ F' 16 ≤ 39)) ∧ (∀ f, f ≠ 15 → f ≠ 16 → F' f = F f)) ∧ (∃ r' : Nat → Int, g' (i + 1) = iA cs 29200 r' ∧ okA r' x ∧ ∀ j, j < 700 → r' j = r j) ∧ ∀ j, j ≠ i → j ≠ i + 1 → g' j = g j) := by
  have hay1 : zAt ad (i) (ad i) := rfl
  have hay2 : zAt ad (i + 1) (ad (i + 1)) := rfl
  refine z_of (by decide) (Nat.le_of_ble_eq_true rfl) ?_
  intro pZ eZ sZ mZ below meth cZ C hr hlk hnm
  refine z_lv (lv' := [(0, .ref (ad i))]) [0] rfl ?_
  refine z_aload_n C 0 dX10_keeps_0 rfl ?_
  refine z_get (v := .int (zI (F 15))) C (lt_A0 hN rfl) hay1 hg rfl inA_X10 15 (by decide) q_1474 rfl (fv (F := F) (f := 15) rfl) dX10_keeps_1 ?_
  refine z_bipush (z := 40) C dX10_keeps_4 (by decide) ?_
  refine z_icmp_ne (tgt := 32) C dX10_keeps_6 (by decide) (by omega) (by omega) (fun hby3 => ?_) (fun hby3 => ?_)
  · refine z_aload_n C 0 dX10_keeps_32 rfl ?_
    refine z_iconst (z := 0) C dX10_keeps_33 rfl ?_
    refine z_aload_n C 0 dX10_keeps_34 rfl ?_
    refine z_get (v := .int (zI (F 16))) C (lt_A0 hN rfl) hay1 hg rfl inA_X10 16 (by decide) q_1475 rfl (fv (F := F) (f := 16) rfl) dX10_keeps_35 ?_
    refine z_aload_n C 0 dX10_keeps_38 rfl ?_
    refine z_get (v := .int (zI (F 15))) C (lt_A0 hN rfl) hay1 hg rfl inA_X10 15 (by decide) q_1474 rfl (fv (F := F) (f := 15) rfl) dX10_keeps_39 ?_
    refine z_cS (As := [.int (zI (F 16)), .int (zI (F 15))]) (rest := [.int (zI (0)), .ref (ad i)]) C (c_X10_keptAt l D A cs tt N ad _ (F 16) (by omega) (F 15) (by omega)) ms_yX10_keptAt q_1878 hd_yX10_keptAt (by decide) (Nat.le_of_ble_eq_true rfl) (by decide) dX10_keeps_42 rfl (kI0 fun vy4 gvy4 hvy4 => ?_)
    obtain ⟨⟨wvy4, hwvy4, rfl⟩, rfl⟩ := hvy4
    obtain ⟨bvy4, hbvy4⟩ : ∃ b9 : Nat, 350 * wvy4 = b9 := ⟨_, rfl⟩
    rw [hbvy4]
    refine z_sipush (z := 350) C dX10_keeps_45 (by decide) ?_
    refine z_cV (As := [.int (zI (0)), .int (zI ((bvy4 : Int))), .int (zI (350))]) (rest := []) (ci := 12) C (c_X10_copies l D A cs tt N ad _ i hN _ hg _ ha1 0 bvy4 350 (by omega) (by omega) (by omega)) (lt_A0 hN rfl) hay1 hg rfl rfl mv_yX10_copies q_1881 hd_yX10_copies (by decide) (Nat.le_of_ble_eq_true rfl) (by decide) dX10_keeps_48 rfl (kV0 fun gvy5 hvy5 => ?_)
    obtain ⟨⟨rvy5, hcvy5, hevy5, hovy5⟩, hfvy5⟩ := hvy5
    refine z_aload_n C 0 dX10_keeps_51 rfl ?_
    refine z_dup C dX10_keeps_52 rfl ?_
    have hgy6 := (hfvy5 (i) (ne_o (i := i) (c := 0) (d := 1) rfl)).trans hg
    refine z_get (v := .int (zI (F 15))) C (lt_A0 hN rfl) hay1 hgy6 rfl inA_X10 15 (by decide) q_1474 rfl (fv (F := F) (f := 15) rfl) dX10_keeps_53 ?_
    refine z_iconst (z := 1) C dX10_keeps_56 rfl ?_
    refine z_iadd C dX10_keeps_57 ?_
    refine z_put (fs' := mF ad (i) (uZ F 15 ((F 15) + 1))) C (lt_A0 hN rfl) hay1 hgy6 tyX10 tyX10_ok nmX10 rfl inA_X10 15 (by decide) q_1474 rfl rfl rfl rfl (Nat.le_of_ble_eq_true rfl) rfl dX10_keeps_58 (fun gy7 egy8 => ?_)
    have hgy9 := up_s egy8
    have hFy10 : ∀ f, f ≠ 15 → f ≠ 16 → (uZ F 15 ((F 15) + 1)) f = F f := fun f n15 n16 => ((uZ_n _ _ n15).trans rfl)
    have hey11 : (uZ F 15 ((F 15) + 1)) 15 = (F 15) + 1 := (uZ_s _ _ _)
    have hey12 : (uZ F 15 ((F 15) + 1)) 16 = F 16 := (fn rfl (by decide))
    have hA9 : okA rvy5 x := okA.copy (a := 0) (b := wvy4) (m := 1) hA (by omega) (by omega) (by omega) (fun k hk => by rw [show 350 * wvy4 = bvy4 by omega]; exact hevy5 k (by omega)) (fun j hj => hovy5 j (by omega))
    have hgy13 := up_n egy8 hcvy5 (ne_o (i := i) (c := 1) (d := 0) rfl)
    exact z_vret C hr hlk dX10_keeps_61 (by decide) (by decide) ⟨rfl, rfl, rfl, ⟨_, hgy9, by omega, hFy10⟩, ⟨_, hgy13, hA9, fun j a1 => hovy5 j (by omega)⟩, fun j j1 j2 => by rw [egy8, va_up_ne _ _ (by omega)]; rw [hfvy5 _ (by omega)]⟩
  · refine z_aload_n C 0 dX10_keeps_9 rfl ?_
    refine z_aload_n C 0 dX10_keeps_10 rfl ?_
    refine z_get (v := .int (zI (F 16))) C (lt_A0 hN rfl) hay1 hg rfl inA_X10 16 (by decide) q_1475 rfl (fv (F := F) (f := 16) rfl) dX10_keeps_11 ?_
    refine z_iconst (z := 1) C dX10_keeps_14 rfl ?_
    refine z_iadd C dX10_keeps_15 ?_
    refine z_bipush (z := 40) C dX10_keeps_16 (by decide) ?_
    refine z_irem C dX10_keeps_18 (by omega) (by omega) (by omega) ?_
    obtain ⟨xy14, exy14, hxy14⟩ := tmd (a := (F 16) + 1) (k := 40) (by omega) (by omega)
    rw [exy14]
    refine z_put (fs' := mF ad (i) (uZ F 16 (xy14))) C (lt_A0 hN rfl) hay1 hg tyX10 tyX10_ok nmX10 rfl inA_X10 16 (by decide) q_1475 rfl rfl rfl rfl (Nat.le_of_ble_eq_true rfl) rfl dX10_keeps_19 (fun gy15 egy16 => ?_)
    have hgy17 := up_s egy16
    refine z_aload_n C 0 dX10_keeps_22 rfl ?_
    refine z_dup C dX10_keeps_23 rfl ?_
    refine z_get (v := .int (zI (F 15))) C (lt_A0 hN rfl) hay1 hgy17 rfl inA_X10 15 (by decide) q_1474 rfl (fv (F := (uZ F 16 (xy14))) (f := 15) (fn rfl (by decide))) dX10_keeps_24 ?_
    refine z_iconst (z := 1) C dX10_keeps_27 rfl ?_
    refine z_isub C dX10_keeps_28 ?_
    refine z_put (fs' := mF ad (i) (uZ (uZ F 16 (xy14)) 15 ((F 15) - 1))) C (lt_A0 hN rfl) hay1 hgy17 tyX10 tyX10_ok nmX10 rfl inA_X10 15 (by decide) q_1474 rfl rfl rfl rfl (Nat.le_of_ble_eq_true rfl) rfl dX10_keeps_29 (fun gy18 egy19 => ?_)
    have hgy20 := up_s egy19
    refine z_aload_n C 0 dX10_keeps_32 rfl ?_
    refine z_iconst (z := 0) C dX10_keeps_33 rfl ?_
    refine z_aload_n C 0 dX10_keeps_34 rfl ?_
    refine z_get (v := .int (zI (xy14))) C (lt_A0 hN rfl) hay1 hgy20 rfl inA_X10 16 (by decide) q_1475 rfl (fv (F := (uZ (uZ F 16 (xy14)) 15 ((F 15) - 1))) (f := 16) (fn (uZ_s _ _ _) (by decide))) dX10_keeps_35 ?_
    refine z_aload_n C 0 dX10_keeps_38 rfl ?_
    refine z_get (v := .int (zI ((F 15) - 1))) C (lt_A0 hN rfl) hay1 hgy20 rfl inA_X10 15 (by decide) q_1474 rfl (fv (F := (uZ (uZ F 16 (xy14)) 15 ((F 15) - 1))) (f := 15) (uZ_s _ _ _)) dX10_keeps_39 ?_
    refine z_cS (As := [.int (zI (xy14)), .int (zI ((F 15) - 1))]) (rest := [.int (zI (0)), .ref (ad i)]) C (c_X10_keptAt l D A cs tt N ad _ (xy14) (by omega) ((F 15) - 1) (by omega)) ms_yX10_keptAt q_1878 hd_yX10_keptAt (by decide) (Nat.le_of_ble_eq_true rfl) (by decide) dX10_keeps_42 rfl (kI0 fun vy21 gvy21 hvy21 => ?_)
    obtain ⟨⟨wvy21, hwvy21, rfl⟩, rfl⟩ := hvy21
    obtain ⟨bvy21, hbvy21⟩ : ∃ b9 : Nat, 350 * wvy21 = b9 := ⟨_, rfl⟩
    rw [hbvy21]
    refine z_sipush (z := 350) C dX10_keeps_45 (by decide) ?_
    have hgy22 := up_n egy16 ha1 (ne_o (i := i) (c := 1) (d := 0) rfl)
    have hgy23 := up_n egy19 hgy22 (ne_o (i := i) (c := 1) (d := 0) rfl)
    refine z_cV (As := [.int (zI (0)), .int (zI ((bvy21 : Int))), .int (zI (350))]) (rest := []) (ci := 12) C (c_X10_copies l D A cs tt N ad _ i hN _ hgy20 _ hgy23 0 bvy21 350 (by omega) (by omega) (by omega)) (lt_A0 hN rfl) hay1 hgy20 rfl rfl mv_yX10_copies q_1881 hd_yX10_copies (by decide) (Nat.le_of_ble_eq_true rfl) (by decide) dX10_keeps_48 rfl (kV0 fun gvy24 hvy24 => ?_)
    obtain ⟨⟨rvy24, hcvy24, hevy24, hovy24⟩, hfvy24⟩ := hvy24
    refine z_aload_n C 0 dX10_keeps_51 rfl ?_
    refine z_dup C dX10_keeps_52 rfl ?_
    have hgy25 := (hfvy24 (i) (ne_o (i := i) (c := 0) (d := 1) rfl)).trans hgy20
    refine z_get (v := .int (zI ((F 15) - 1))) C (lt_A0 hN rfl) hay1 hgy25 rfl inA_X10 15 (by decide) q_1474 rfl (fv (F := (uZ (uZ F 16 (xy14)) 15 ((F 15) - 1))) (f := 15) (uZ_s _ _ _)) dX10_keeps_53 ?_
    refine z_iconst (z := 1) C dX10_keeps_56 rfl ?_
    refine z_iadd C dX10_keeps_57 ?_
    refine z_put (fs' := mF ad (i) (uZ (uZ (uZ F 16 (xy14)) 15 ((F 15) - 1)) 15 (((F 15) - 1) + 1))) C (lt_A0 hN rfl) hay1 hgy25 tyX10 tyX10_ok nmX10 rfl inA_X10 15 (by decide) q_1474 rfl rfl rfl rfl (Nat.le_of_ble_eq_true rfl) rfl dX10_keeps_58 (fun gy26 egy27 => ?_)
    have hgy28 := up_s egy27
    have hFy29 : ∀ f, f ≠ 15 → f ≠ 16 → (uZ (uZ (uZ F 16 (xy14)) 15 ((F 15) - 1)) 15 (((F 15) - 1) + 1)) f = F f := fun f n15 n16 => ((uZ_n _ _ n15).trans ((uZ_n _ _ n15).trans ((uZ_n _ _ n16).trans rfl)))
    have hey30 : (uZ (uZ (uZ F 16 (xy14)) 15 ((F 15) - 1)) 15 (((F 15) - 1) + 1)) 15 = ((F 15) - 1) + 1 := (uZ_s _ _ _)
    have hey31 : (uZ (uZ (uZ F 16 (xy14)) 15 ((F 15) - 1)) 15 (((F 15) - 1) + 1)) 16 = xy14 := (fn (fn (uZ_s _ _ _) (by decide)) (by decide))
    have hA9 : okA rvy24 x := okA.copy (a := 0) (b := wvy21) (m := 1) hA (by omega) (by omega) (by omega) (fun k hk => by rw [show 350 * wvy21 = bvy21 by omega]; exact hevy24 k (by omega)) (fun j hj => hovy24 j (by omega))
    have hgy32 := up_n egy27 hcvy24 (ne_o (i := i) (c := 1) (d := 0) rfl)
    exact z_vret C hr hlk dX10_keeps_61 (by decide) (by decide) ⟨rfl, rfl, rfl, ⟨_, hgy28, by omega, hFy29⟩, ⟨_, hgy32, hA9, fun j a1 => hovy24 j (by omega)⟩, fun j j1 j2 => by rw [egy27, va_up_ne _ _ (by omega)]; rw [hfvy24 _ (by omega)]; rw [egy19, va_up_ne _ _ (by omega)]; rw [egy16, va_up_ne _ _ (by omega)]⟩

set_option maxRecDepth 100000 in
set_option maxHeartbeats 4000000 in
theorem c_X10_tries (l : Launch) (D : va_G) (A : Nat → Prop) (cs : Nat → ClassId) (tt : Nat) (N : Nat) (ad : Nat → Nat) (g : Nat → va_E) (i : Nat) (hN : i + 30 ≤ N) (F : Nat → Int) (hg : g i = mC ad i F) (r : Nat → Int) (ha1 : g (i + 1) = iA cs 29200 r) (x : Int) (hA : okA r x) : zM l yX10_tries cX10_tries 1 none ({ frames := 2, cells := 0, slots := 0, locals := 120 } : Room) D A cs tt N ad g [.ref (ad i)] (rV0 N ad fun g' => (∃ r' : Nat → Int, g' (i + 1) = iA cs 29200 r' ∧ okA r' x ∧ okW r' 350 x ∧ r' 350 = r 0 ∧ ∀ j, j < 350 ∨ 700 ≤ j → r' j = r j) ∧ ∀ j, j ≠ i + 1 → g' j = g j) := by
  have hay1 : zAt ad (i) (ad i) := rfl
  have hay2 : zAt ad (i + 1) (ad (i + 1)) := rfl
  refine z_of (by decide) (Nat.le_of_ble_eq_true rfl) ?_
  intro pZ eZ sZ mZ below meth cZ C hr hlk hnm
  refine z_lv (lv' := [(0, .ref (ad i))]) [0] rfl ?_
  refine z_aload_n C 0 dX10_tries_0 rfl ?_
  refine z_iconst (z := 0) C dX10_tries_1 rfl ?_
  refine z_sipush (z := 350) C dX10_tries_2 (by decide) ?_
  refine z_sipush (z := 350) C dX10_tries_5 (by decide) ?_
  refine z_cV (As := [.int (zI (0)), .int (zI (350)), .int (zI (350))]) (rest := []) (ci := 12) C (c_X10_copies l D A cs tt N ad _ i hN _ hg _ ha1 0 350 350 (by omega) (by omega) (by omega)) (lt_A0 hN rfl) hay1 hg rfl rfl mv_yX10_copies q_1881 hd_yX10_copies (by decide) (Nat.le_of_ble_eq_true rfl) (by decide) dX10_tries_8 rfl (kV0 fun gvy3 hvy3 => ?_)
  obtain ⟨⟨rvy3, hcvy3, hevy3, hovy3⟩, hfvy3⟩ := hvy3
  have hA9 : okA rvy3 x := okA.tried hA (fun j hj => hovy3 j (by omega))
  have hW9 : okW rvy3 350 x := okW.ext (b := 0) (fun k hk => hevy3 k hk) (okA.at0 hA).1
  have h09 : rvy3 350 = r 0 := hevy3 0 (by omega)
  exact z_vret C hr hlk dX10_tries_11 (by decide) (by decide) ⟨rfl, rfl, rfl, ⟨_, hcvy3, hA9, hW9, h09, fun j a1 => hovy3 j (by omega)⟩, fun j j1 => by rw [hfvy3 _ (by omega)]⟩

set_option maxRecDepth 100000 in
set_option maxHeartbeats 4000000 in
theorem c_X10_refuses (l : Launch) (D : va_G) (A : Nat → Prop) (cs : Nat → ClassId) (tt : Nat) (N : Nat) (ad : Nat → Nat) (g : Nat → va_E) (i : Nat) (hN : i + 30 ≤ N) (F : Nat → Int) (hg : g i = mC ad i F) (rf : Nat → Int) (ha11 : g (i + 11) = iA cs 6 rf) (z : Int) (hz : 0 ≤ z ∧ z ≤ 2) : zM l yX10_refuses cX10_refuses 2 (some .int) ({ frames := 1, cells := 0, slots := 0, locals := 60 } : Room) D A cs tt N ad g [.ref (ad i), .int (zI (z))] (rI0 N ad fun r g' => r = -1 ∧ (∃ t' : Nat → Int, g' (i + 11) = iA cs 6 t') ∧ ∀ j, j ≠ i + 11 → g' j = g j) := by
  have hay1 : zAt ad (i) (ad i) := rfl
  have hay2 : zAt ad (i + 11) (ad (i + 11)) := rfl
  refine z_of (by decide) (Nat.le_of_ble_eq_true rfl) ?_
  intro pZ eZ sZ mZ below meth cZ C hr hlk hnm
  refine z_lv (lv' := [(0, .ref (ad i)), (1, .int (zI (z)))]) [0, 1] rfl ?_
  refine z_aload_n C 0 dX10_refuses_0 rfl ?_
  refine z_get (v := .ref (ad (i + 11))) C (lt_A0 hN rfl) hay1 hg rfl inA_X10 10 (by decide) q_1469 rfl rfl dX10_refuses_1 ?_
  refine z_iload_n C 1 dX10_refuses_4 rfl ?_
  refine z_dup2 C dX10_refuses_5 rfl rfl ?_
  refine z_iald C (lt_A (c := 11) hN rfl) hay2 ha11 ((z).toNat) (by omega) (by omega) (by decide) dX10_refuses_6 ?_
  refine z_iconst (z := 1) C dX10_refuses_7 rfl ?_
  refine z_iadd C dX10_refuses_8 ?_
  refine z_iast C (lt_A (c := 11) hN rfl) hay2 ha11 ((z).toNat) (by omega) (by omega) (by decide) dX10_refuses_9 (fun gy3 egy4 => ?_)
  have hgy5 := up_s egy4
  refine z_iconst (z := -1) C dX10_refuses_10 rfl ?_
  exact z_iret C hr hlk dX10_refuses_11 (by decide) (by decide) ⟨-1, rfl, rfl, rfl, by omega, ⟨_, hgy5⟩, fun j j1 => by rw [egy4, va_up_ne _ _ (by omega)]⟩

set_option maxRecDepth 100000 in
set_option maxHeartbeats 4000000 in
theorem c_X10_digs (l : Launch) (D : va_G) (A : Nat → Prop) (cs : Nat → ClassId) (tt : Nat) (N : Nat) (ad : Nat → Nat) (g : Nat → va_E) (i : Nat) (hN : i + 30 ≤ N) (F : Nat → Int) (hg : g i = mC ad i F) (r : Nat → Int) (ha1 : g (i + 1) = iA cs 29200 r) (b s p : Nat) (hp : b + 6 + 86 * s = p) (hb : b + 350 ≤ 29200) (hs : s < 4) (M E : Int) (hM : M ≤ 138500) (hE : E ≤ 400000000) (ho : okS r p M E) (h1 : 1 ≤ r p) : zM l yX10_digs cX10_digs 4 none ({ frames := 4, cells := 0, slots := 0, locals := 240 } : Room) D A cs tt N ad g [.ref (ad i), .int (zI ((b : Int))), .int (zI ((s : Int)))] (rV0 N ad fun g' => (∃ r' : Nat → Int, g' (i + 1) = iA cs 29200 r' ∧ okS r' p (M) (E) ∧ (∀ j, j < p ∨ p + 86 ≤ j → j ≠ b + 2 → j ≠ b + 3 → j ≠ b + 4 → r' j = r j)) ∧ ∀ j, j ≠ i + 1 → g' j = g j) := by
  have hay1 : zAt ad (i) (ad i) := rfl
  have hay2 : zAt ad (i + 1) (ad (i + 1)) := rfl
  have hmky3 := ho.1
  refine z_of (by decide) (Nat.le_of_ble_eq_true rfl) ?_
  intro pZ eZ sZ mZ below meth cZ C hr hlk hnm
  refine z_lv (lv' := [(0, .ref (ad i)), (1, .int (zI ((b : Int)))), (2, .int (zI ((s : Int))))]) [0, 1, 2] rfl ?_
  refine z_aload_n C 0 dX10_digs_0 rfl ?_
  refine z_iload_n C 1 dX10_digs_1 rfl ?_
  refine z_iload_n C 2 dX10_digs_2 rfl ?_
  refine z_cV (As := [.int (zI ((b : Int))), .int (zI ((s : Int)))]) (rest := []) (ci := 12) C (c_X10_many l D A cs tt N ad _ i hN _ hg _ ha1 b s p hp (by omega) (by omega)) (lt_A0 hN rfl) hay1 hg rfl rfl mv_yX10_many q_1737 hd_yX10_many (by decide) (Nat.le_of_ble_eq_true rfl) (by decide) dX10_digs_3 rfl (kI0 fun vy4 gvy4 hvy4 => ?_)
  obtain ⟨rfl, rfl⟩ := hvy4
  refine z_iconst (z := 1) C dX10_digs_6 rfl ?_
  refine z_isub C dX10_digs_7 ?_
  refine z_istore_n (lv' := [(3, .int (zI ((r (p)) - 1))), (0, .ref (ad i)), (1, .int (zI ((b : Int)))), (2, .int (zI ((s : Int))))]) C dX10_digs_8 rfl (by decide) rfl ?_
  refine z_aload_n C 1 dX10_digs_9 rfl ?_
  refine z_get (v := .ref (ad (i + 1))) C (lt_A0 hN rfl) hay1 hg rfl inA_X10 0 (by decide) q_1459 rfl rfl dX10_digs_10 ?_
  refine z_iload_n C 2 dX10_digs_13 rfl ?_
  refine z_iconst (z := 2) C dX10_digs_14 rfl ?_
  refine z_iadd C dX10_digs_15 ?_
  refine z_dup2 C dX10_digs_16 rfl rfl ?_
  refine z_iald C (lt_A (c := 1) hN rfl) hay2 ha1 (b + 2) (by omega) (by omega) (by decide) dX10_digs_17 ?_
  refine z_aload_n C 1 dX10_digs_18 rfl ?_
  refine z_iload_n C 2 dX10_digs_19 rfl ?_
  refine z_iload_n C 3 dX10_digs_20 rfl ?_
  refine z_iload_n C 0 dX10_digs_21 rfl ?_
  refine z_cV (As := [.int (zI ((b : Int))), .int (zI ((s : Int))), .int (zI ((r (p)) - 1))]) (rest := [.int (zI (r (b + 2))), .int (zI (((b : Int)) + 2)), .ref (ad (i + 1))]) (ci := 12) C (c_X10_weightA l D A cs tt N ad _ i hN _ hg _ ha1 b s p hp (by omega) (by omega)  ((r (p)) - 1) (by omega)) (lt_A0 hN rfl) hay1 hg rfl rfl mv_yX10_weight q_1788 hd_yX10_weight (by decide) (Nat.le_of_ble_eq_true rfl) (by decide) dX10_digs_22 rfl (kI0 fun vy5 gvy5 hvy5 => ?_)
  obtain ⟨hvy5, rfl⟩ := hvy5
  refine z_iadd C dX10_digs_25 ?_
  refine z_iast C (lt_A (c := 1) hN rfl) hay2 ha1 (b + 2) (by omega) (by omega) (by decide) dX10_digs_26 (fun gy6 egy7 => ?_)
  have hgy8 := up_s egy7
  obtain ⟨ry9, hvy10⟩ : ∃ rZ9 : Nat → Int, rZ9 = uZ r (b + 2) ((r (b + 2)) + vy5) := ⟨_, rfl⟩
  rw [← hvy10] at hgy8
  refine z_aload_n C 1 dX10_digs_27 rfl ?_
  refine z_iload_n C 2 dX10_digs_28 rfl ?_
  refine z_iload_n C 3 dX10_digs_29 rfl ?_
  refine z_iload_n C 0 dX10_digs_30 rfl ?_
  have hgy11 := up_n egy7 hg (ne_o (i := i) (c := 0) (d := 1) rfl)
  refine z_cV (As := [.int (zI ((b : Int))), .int (zI ((s : Int))), .int (zI ((r (p)) - 1))]) (rest := []) (ci := 12) C (c_X10_setsMany l D A cs tt N ad _ i hN _ hgy11 _ hgy8 b s p hp (by omega) (by omega) ((r (p)) - 1)) (lt_A0 hN rfl) hay1 hgy11 rfl rfl mv_yX10_setsMany q_1721 hd_yX10_setsMany (by decide) (Nat.le_of_ble_eq_true rfl) (by decide) dX10_digs_31 rfl (kV0 fun gvy12 hvy12 => ?_)
  obtain ⟨hcvy12, hfvy12⟩ := hvy12
  obtain ⟨ry13, hvy14⟩ : ∃ rZ9 : Nat → Int, rZ9 = uZ ry9 (p) ((r (p)) - 1) := ⟨_, rfl⟩
  rw [← hvy14] at hcvy12
  have hfry15 : ∀ j, j ≠ p → j ≠ b + 2 → ry13 j = r j := fun j n0 n1 => (congrFun hvy14 _).trans ((uZ_n _ _ n0).trans ((congrFun hvy10 _).trans ((uZ_n _ _ n1).trans (rfl))))
  have hwy16 : ry13 (p) = (r (p)) - 1 := (congrFun hvy14 _).trans (uZ_s _ _ _)
  have hok9 : okS ry13 p M E := okS.cut ho (fun j a1 a2 => hfry15 j (by omega) (by omega)) (by omega)
  exact z_vret C hr hlk dX10_digs_34 (by decide) (by decide) ⟨rfl, rfl, rfl, ⟨_, hcvy12, hok9, fun j a1 a2 a3 a4 => hfry15 j (by omega) (by omega)⟩, fun j j1 => by rw [hfvy12 _ (by omega)]; rw [egy7, va_up_ne _ _ (by omega)]⟩

set_option maxRecDepth 100000 in
set_option maxHeartbeats 4000000 in
theorem c_X10_slides (l : Launch) (D : va_G) (A : Nat → Prop) (cs : Nat → ClassId) (tt : Nat) (N : Nat) (ad : Nat → Nat) (g : Nat → va_E) (i : Nat) (hN : i + 30 ≤ N) (F : Nat → Int) (hg : g i = mC ad i F) (r : Nat → Int) (ha1 : g (i + 1) = iA cs 29200 r) (st : Nat → Int) (ha2 : g (i + 2) = iA cs 4 st) (tb : Nat → Int) (ha7 : g (i + 7) = iA cs 15 tb) (b s p : Nat) (hp : b + 6 + 86 * s = p) (hb : b + 350 ≤ 29200) (hs : s < 4) (M E : Int) (hM : M ≤ 138500) (hE : E ≤ 400000000) (ho : okS r p M E) : zM l yX10_slides cX10_slides 5 (some .int) ({ frames := 9, cells := 0, slots := 0, locals := 540 } : Room) D A cs tt N ad g [.ref (ad i), .int (zI ((b : Int))), .int (zI ((s : Int)))] (rI0 N ad fun q g' => (-2147483648 ≤ q ∧ q ≤ 2147483647) ∧ (∃ r' : Nat → Int, g' (i + 1) = iA cs 29200 r' ∧ okS r' p M E ∧ (∀ j, j < p ∨ p + 86 ≤ j → j ≠ b + 2 → j ≠ b + 3 → j ≠ b + 4 → r' j = r j)) ∧ ∀ j, j ≠ i + 1 → g' j = g j) := by
  have hay1 : zAt ad (i) (ad i) := rfl
  have hay2 : zAt ad (i + 1) (ad (i + 1)) := rfl
  have hay3 : zAt ad (i + 2) (ad (i + 2)) := rfl
  have hay4 : zAt ad (i + 7) (ad (i + 7)) := rfl
  have hmky5 := ho.1
  have hq := ho.q hE
  refine z_of (by decide) (Nat.le_of_ble_eq_true rfl) ?_
  intro pZ eZ sZ mZ below meth cZ C hr hlk hnm
  refine z_lv (lv' := [(0, .ref (ad i)), (1, .int (zI ((b : Int)))), (2, .int (zI ((s : Int))))]) [0, 1, 2] rfl ?_
  refine z_aload_n C 0 dX10_slides_0 rfl ?_
  refine z_iload_n C 1 dX10_slides_1 rfl ?_
  refine z_iload_n C 2 dX10_slides_2 rfl ?_
  refine z_cV (As := [.int (zI ((b : Int))), .int (zI ((s : Int)))]) (rest := []) (ci := 12) C (c_X10_weakest l D A cs tt N ad _ i hN _ hg _ ha1 _ ha2 _ ha7 b s p hp (by omega) (by omega) hq) (lt_A0 hN rfl) hay1 hg rfl rfl mv_yX10_weakest q_1811 hd_yX10_weakest (by decide) (Nat.le_of_ble_eq_true rfl) (by decide) dX10_slides_3 rfl (kI0 fun vy6 gvy6 hvy6 => ?_)
  obtain ⟨hvy6, rfl⟩ := hvy6
  refine z_istore_n (lv' := [(3, .int (zI (vy6))), (0, .ref (ad i)), (1, .int (zI ((b : Int)))), (2, .int (zI ((s : Int))))]) C dX10_slides_6 rfl (by decide) rfl ?_
  refine z_aload_n C 1 dX10_slides_7 rfl ?_
  refine z_iload_n C 2 dX10_slides_8 rfl ?_
  refine z_iload_n C 3 dX10_slides_9 rfl ?_
  refine z_cV (As := [.int (zI ((b : Int))), .int (zI ((s : Int)))]) (rest := []) (ci := 12) C (c_X10_many l D A cs tt N ad _ i hN _ hg _ ha1 b s p hp (by omega) (by omega)) (lt_A0 hN rfl) hay1 hg rfl rfl mv_yX10_many q_1737 hd_yX10_many (by decide) (Nat.le_of_ble_eq_true rfl) (by decide) dX10_slides_10 rfl (kI0 fun vy7 gvy7 hvy7 => ?_)
  obtain ⟨rfl, rfl⟩ := hvy7
  refine z_iconst (z := 1) C dX10_slides_13 rfl ?_
  refine z_isub C dX10_slides_14 ?_
  refine z_iload_n C 0 dX10_slides_15 rfl ?_
  refine z_isub C dX10_slides_16 ?_
  refine z_istore (lv' := [(4, .int (zI (((r (p)) - 1) - vy6))), (3, .int (zI (vy6))), (0, .ref (ad i)), (1, .int (zI ((b : Int)))), (2, .int (zI ((s : Int))))]) C dX10_slides_17 (by decide) rfl ?_
  refine z_aload_n C 2 dX10_slides_19 rfl ?_
  refine z_get (v := .ref (ad (i + 1))) C (lt_A0 hN rfl) hay1 hg rfl inA_X10 0 (by decide) q_1459 rfl rfl dX10_slides_20 ?_
  refine z_iload_n C 3 dX10_slides_23 rfl ?_
  refine z_iconst (z := 3) C dX10_slides_24 rfl ?_
  refine z_iadd C dX10_slides_25 ?_
  refine z_dup2 C dX10_slides_26 rfl rfl ?_
  refine z_iald C (lt_A (c := 1) hN rfl) hay2 ha1 (b + 3) (by omega) (by omega) (by decide) dX10_slides_27 ?_
  refine z_aload_n C 2 dX10_slides_28 rfl ?_
  refine z_iload_n C 3 dX10_slides_29 rfl ?_
  refine z_iload_n C 4 dX10_slides_30 rfl ?_
  refine z_iload_n C 1 dX10_slides_31 rfl ?_
  refine z_cV (As := [.int (zI ((b : Int))), .int (zI ((s : Int))), .int (zI (vy6))]) (rest := [.int (zI (r (b + 3))), .int (zI (((b : Int)) + 3)), .ref (ad (i + 1))]) (ci := 12) C (c_X10_aboveA l D A cs tt N ad _ i hN _ hg _ ha1 b s p hp (by omega) (by omega) hq (vy6) (by omega)) (lt_A0 hN rfl) hay1 hg rfl rfl mv_yX10_above q_1784 hd_yX10_above (by decide) (Nat.le_of_ble_eq_true rfl) (by decide) dX10_slides_32 rfl (kI0 fun vy8 gvy8 hvy8 => ?_)
  obtain ⟨hvy8, rfl⟩ := hvy8
  refine z_iadd C dX10_slides_35 ?_
  refine z_iast C (lt_A (c := 1) hN rfl) hay2 ha1 (b + 3) (by omega) (by omega) (by decide) dX10_slides_36 (fun gy9 egy10 => ?_)
  have hgy11 := up_s egy10
  obtain ⟨ry12, hvy13⟩ : ∃ rZ9 : Nat → Int, rZ9 = uZ r (b + 3) ((r (b + 3)) + vy8) := ⟨_, rfl⟩
  rw [← hvy13] at hgy11
  refine z_aload_n C 2 dX10_slides_37 rfl ?_
  have hgy14 := up_n egy10 hg (ne_o (i := i) (c := 0) (d := 1) rfl)
  refine z_get (v := .ref (ad (i + 1))) C (lt_A0 hN rfl) hay1 hgy14 rfl inA_X10 0 (by decide) q_1459 rfl rfl dX10_slides_38 ?_
  refine z_iload_n C 3 dX10_slides_41 rfl ?_
  refine z_iconst (z := 4) C dX10_slides_42 rfl ?_
  refine z_iadd C dX10_slides_43 ?_
  refine z_dup2 C dX10_slides_44 rfl rfl ?_
  refine z_iald C (lt_A (c := 1) hN rfl) hay2 hgy11 (b + 4) (by omega) (by omega) (by decide) dX10_slides_45 ?_
  rw [show ry12 (b + 4) = r (b + 4) from (congrFun hvy13 _).trans ((uZ_n _ _ (by omega)).trans (rfl))]
  refine z_iconst (z := 1) C dX10_slides_46 rfl ?_
  refine z_iadd C dX10_slides_47 ?_
  refine z_iast C (lt_A (c := 1) hN rfl) hay2 hgy11 (b + 4) (by omega) (by omega) (by decide) dX10_slides_48 (fun gy15 egy16 => ?_)
  have hgy17 := up_s egy16
  obtain ⟨ry18, hvy19⟩ : ∃ rZ9 : Nat → Int, rZ9 = uZ ry12 (b + 4) ((r (b + 4)) + 1) := ⟨_, rfl⟩
  rw [← hvy19] at hgy17
  refine z_aload_n C 2 dX10_slides_49 rfl ?_
  refine z_iload_n C 3 dX10_slides_50 rfl ?_
  refine z_iload_n C 4 dX10_slides_51 rfl ?_
  refine z_iload_n C 1 dX10_slides_52 rfl ?_
  refine z_iconst (z := 1) C dX10_slides_53 rfl ?_
  refine z_iadd C dX10_slides_54 ?_
  have hgy20 := up_n egy16 hgy14 (ne_o (i := i) (c := 0) (d := 1) rfl)
  refine z_cV (As := [.int (zI ((b : Int))), .int (zI ((s : Int))), .int (zI (vy6 + 1))]) (rest := []) (ci := 12) C (c_X10_setsMany l D A cs tt N ad _ i hN _ hgy20 _ hgy17 b s p hp (by omega) (by omega) (vy6 + 1)) (lt_A0 hN rfl) hay1 hgy20 rfl rfl mv_yX10_setsMany q_1721 hd_yX10_setsMany (by decide) (Nat.le_of_ble_eq_true rfl) (by decide) dX10_slides_55 rfl (kV0 fun gvy21 hvy21 => ?_)
  obtain ⟨hcvy21, hfvy21⟩ := hvy21
  obtain ⟨ry22, hvy23⟩ : ∃ rZ9 : Nat → Int, rZ9 = uZ ry18 (p) (vy6 + 1) := ⟨_, rfl⟩
  rw [← hvy23] at hcvy21
  refine z_iload C 0 dX10_slides_58 rfl ?_
  have hfry24 : ∀ j, j ≠ p → j ≠ b + 4 → j ≠ b + 3 → ry22 j = r j := fun j n0 n1 n2 => (congrFun hvy23 _).trans ((uZ_n _ _ n0).trans ((congrFun hvy19 _).trans ((uZ_n _ _ n1).trans ((congrFun hvy13 _).trans ((uZ_n _ _ n2).trans (rfl))))))
  have hwy25 : ry22 (p) = vy6 + 1 := (congrFun hvy23 _).trans (uZ_s _ _ _)
  have hok9 : okS ry22 p M E := okS.cut ho (fun j a1 a2 => hfry24 j (by omega) (by omega) (by omega)) (by omega)
  exact z_iret C hr hlk dX10_slides_60 (by decide) (by decide) ⟨((r (p)) - 1) - vy6, rfl, rfl, rfl, by omega, ⟨_, hcvy21, hok9, fun j a1 a2 a3 a4 => hfry24 j (by omega) (by omega) (by omega)⟩, fun j j1 => by rw [hfvy21 _ (by omega)]; rw [egy16, va_up_ne _ _ (by omega)]; rw [egy10, va_up_ne _ _ (by omega)]⟩

