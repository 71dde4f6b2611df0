section
-- 9lz.qb.lean.txt
theorem isLr_ex {tb K : Nat → Int} {n : Nat} {more steep : Int} (ht : okTb tb) (h : okP K n) (hx : okX K n) (hm : 0 ≤ more ∧ more ≤ 40000) (hs : 0 ≤ steep ∧ steep ≤ 90) : ∃ v, isLr tb K n more steep v := by
  by_cases e : n = 0
  · exact ⟨9999, Or.inl ⟨e, rfl⟩⟩
  · obtain ⟨w, hw⟩ := isWk_ex ht h hx hm hs (by omega)
    rcases hw.lr with ⟨a, b⟩ | ⟨k, a, b, c⟩
    · exact ⟨_, b⟩
    · exact ⟨_, c⟩
/-- a FALL by hand, of the class -/
def falC (ho ua : Int) (ai : Nat → Int) (nsl : Nat) (z z1 z2 : Int) (W : WL9) (na : Nat) (H : Nat → WL9) : Int × WL9 × Nat × (Nat → WL9) := if (0 ≤ z ∧ z < (nsl : Int)) ∧ (1 ≤ z1 ∧ z1 ≤ 3) ∧ (z1 < 3 → 1 ≤ z2 ∧ z2 ≤ 50) ∧ (z1 = 3 → fcZ ho ua ai (W.1 0) < 0) then ((((foW z1 z2 (fcZ ho ua ai (W.1 0)) z.toNat W).2 z.toNat).1 : Int), foW z1 z2 (fcZ ho ua ai (W.1 0)) z.toNat W, kpN na, kpH na H W) else (-1, W, na, H)

set_option maxRecDepth 100000 in
set_option maxHeartbeats 4000000 in
theorem c_qDig_a (l : Launch) (D : va_G) (A : Nat → Prop) (cs : Nat → ClassId) (tt : Nat) (N : Nat) (ad : Nat → Nat) (g : Nat → va_E) (hN : 952 ≤ N) (t fp im nz kz sl ho ua : Int) (st op ai fa mu tb tp : Nat → Int) (hR : okRec cs ad g N t fp im nz kz sl ho ua st op ai fa mu tb tp) (na : Nat) (H : Nat → WL9) (W : WL9) (P : Nat → PT9) (nu nv nw rf : Nat → Int) (hS : okState cs ad g 11 (na : Int) nz) (hXK : xKt cs ad g 11 na H W P nz nu nv nw rf) (nsl : Nat) (hnsl : sl = (nsl : Int)) (hfc : okFc sl ho ua op ai fa mu tb) (x : Int) (hx : 0 ≤ x ∧ x ≤ 512) (hwx : okWx x W) (n : Nat) (hn4 : n < 4) : zM l yX9_dig cX9_dig 2 (some .int) ({ frames := 8, cells := 0, slots := 0, locals := 480 } : Room) D A cs tt N ad g [.ref (ad 0), .int (zI ((n : Int)))] (rI0 N ad fun q g' => q = (digA nsl ((n : Int)) W na H).1 ∧ okRec cs ad g' N t fp im nz kz sl ho ua st op ai fa mu tb tp ∧ (okState cs ad g' 11 (((digA nsl ((n : Int)) W na H).2.2.1 : Nat) : Int) nz ∧ ∃ rf', ((q = -1 ∧ rf' = uZ rf 1 (rf 1 + 1)) ∨ (q ≠ -1 ∧ rf' = rf)) ∧ xKt cs ad g' 11 (digA nsl ((n : Int)) W na H).2.2.1 (digA nsl ((n : Int)) W na H).2.2.2 (digA nsl ((n : Int)) W na H).2.1 P nz nu nv nw rf') ∧ ∀ j, j < 11 ∨ 447 ≤ j → g' j = g j) := by
  obtain ⟨ra1, ra2, ra3, -, -, ra6, ra7, ra8, -⟩ := id hR
  have hna := hS.2.1
  have hay1 : zAt ad (0) (ad 0) := rfl
  have hay2 : zAt ad (1) (ad 1) := rfl
  have hay3 : zAt ad (2) (ad 2) := rfl
  have hay4 : zAt ad (4) (ad 4) := rfl
  have hay5 : zAt ad (11) (ad 11) := rfl
  have hay6 : zAt ad (447) (ad 447) := rfl
  have hay7 : zAt ad (883) (ad 883) := rfl
  have hay8 : zAt ad (890) (ad 890) := rfl
  have hay9 : zAt ad (900) (ad 900) := rfl
  have hay10 : zAt ad (910) (ad 910) := rfl
  have hay11 : zAt ad (917) (ad 917) := rfl
  have hay12 : zAt ad (919) (ad 919) := rfl
  have hay13 : zAt ad (4 + 1) (ad (4 + 1)) := rfl
  have hay14 : zAt ad (4 + 2) (ad (4 + 2)) := rfl
  have hay15 : zAt ad (4 + 3) (ad (4 + 3)) := rfl
  have hay16 : zAt ad (4 + 4) (ad (4 + 4)) := rfl
  have hay17 : zAt ad (4 + 5) (ad (4 + 5)) := rfl
  have hay18 : zAt ad (4 + 6) (ad (4 + 6)) := rfl
  have hay19 : zAt ad (11 + 1) (ad (11 + 1)) := rfl
  have hay20 : zAt ad (11 + 11) (ad (11 + 11)) := rfl
  have hay21 : zAt ad (11 + 12) (ad (11 + 12)) := rfl
  have hay22 : zAt ad (11 + 13) (ad (11 + 13)) := rfl
  have hay23 : zAt ad (11 + 17) (ad (11 + 17)) := rfl
  obtain ⟨u1, ⟨uu, u2, u3⟩, u4⟩ := id hXK.2.1
  have hay24 : zAt ad (11 + 1) (ad (11 + 1)) := rfl
  have hay25 : zAt ad (11 + 1 + 1) (ad (11 + 1 + 1)) := rfl
  have hok9 := hwx.1
  have ht9 := hwx.2
  have ht8 := hok9.2.1
  have hns4 : nsl ≤ 4 := by omega
  have hOn := (hok9.1 n hn4).1.1
  have hn12 := hok9.n12 n hn4
  refine z_of (by decide) (Nat.le_of_ble_eq_true rfl) ?_
  intro pY eY sY mY below meth cY C hr hlk hnm
  refine z_lv (lv' := [(0, .ref (ad 0)), (1, .int (zI ((n : Int))))]) [0, 1] rfl ?_
  refine z_aload_n C 0 dX9_dig_0 rfl ?_
  refine z_iload_n C 1 dX9_dig_1 rfl ?_
  refine z_cV (As := [.int (zI ((n : Int)))]) (rest := []) (ci := 11) C (c_X9_isSlope l D A cs tt N ad _ hN _ _ _ _ _ _ _ _ _ _ _ _ _ _ _ hR ((n : Int)) (by omega)) (lt_K hN (rfl : Nat.blt (0) 952 = true)) hay1 ra1 rfl rfl mv_yX9_isSlope q_537 hd_yX9_isSlope (by decide) (Nat.le_of_ble_eq_true rfl) (by decide) dX9_dig_2 rfl (kI0 fun vy26 gvy26 hvy26 => ?_)
  obtain ⟨hvy26, rfl⟩ := hvy26
  have hbvy26 : (vy26 = 1 ∧ 0 ≤ (n : Int) ∧ (n : Int) < sl) ∨ (vy26 = 0 ∧ ¬ (0 ≤ (n : Int) ∧ (n : Int) < sl)) := by rw [hvy26]; by_cases e9 : 0 ≤ (n : Int) ∧ (n : Int) < sl; (rw [if_pos e9]; exact Or.inl ⟨rfl, e9⟩); (rw [if_neg e9]; exact Or.inr ⟨rfl, e9⟩)
  refine z_if_eq (tgt := 26) C dX9_dig_5 (by decide) (by omega) (fun hby27 => ?_) (fun hby27 => ?_)
  · refine z_aload_n C 0 dX9_dig_26 rfl ?_
    refine z_iconst (z := 1) C dX9_dig_27 rfl ?_
    refine z_cV (As := [.int (zI (1))]) (rest := []) (ci := 11) C (c_qRefuse l D A cs tt N ad _ hN _ _ _ _ _ _ _ _ _ _ _ _ _ _ _ hR na H W P nu nv nw rf hS hXK 1 (by omega)) (lt_K hN (rfl : Nat.blt (0) 952 = true)) hay1 ra1 rfl rfl mv_yX9_refuse q_408 hd_yX9_refuse (by decide) (Nat.le_of_ble_eq_true rfl) (by decide) dX9_dig_28 rfl (kI0 fun vy28 gvy28 hvy28 => ?_)
    obtain ⟨rfl, ⟨hSvy28, hXvy28⟩, hfvy28⟩ := hvy28
    rw [show digA nsl ((n : Int)) W na H = (-1, W, na, H) from if_neg (by rw [Int.toNat_natCast]; omega)]
    exact z_iret C hr hlk dX9_dig_31 (by decide) (by decide) ⟨-1, rfl, rfl, rfl, by omega, okRec.st hR (fun j j1 => by rw [hfvy28 _ (by omega)]) hSvy28, ⟨hSvy28, _, Or.inl ⟨by omega, rfl⟩, hXvy28⟩, fun j j1 => by rw [hfvy28 _ (by omega)]⟩
  · refine z_aload_n C 0 dX9_dig_8 rfl ?_
    refine z_get (v := .ref (ad 11)) C (lt_K hN (rfl : Nat.blt (0) 952 = true)) hay1 ra1 rfl inA_X9 5 (by decide) q_354 rfl rfl dX9_dig_9 ?_
    refine z_get (v := .ref (ad (11 + 1))) C (lt_K hN (rfl : Nat.blt (11) 952 = true)) hay5 hXK.1 rfl inA_X6 0 (by decide) q_258 rfl rfl dX9_dig_12 ?_
    refine z_get (v := .ref (ad (11 + 1 + 1))) C (lt_K hN (rfl : Nat.blt (11 + 1) 952 = true)) hay24 u1 rfl inA_X8 6 (by decide) q_191 rfl rfl dX9_dig_15 ?_
    refine z_iload_n C 1 dX9_dig_18 rfl ?_
    refine z_aald C (lt_K hN (rfl : Nat.blt (11 + 1 + 1) 952 = true)) hay25 u2 3 rfl (n) (by omega) (by omega) (by decide) (u3 n (by omega)) dX9_dig_19 ?_
    have hay29 : zAt ad (11 + 1 + 2 + 2 * n) (ad (11 + 1 + 2 + 2 * n)) := rfl
    have hay30 : zAt ad (11 + 1 + 2 + 2 * n + 1) (ad (11 + 1 + 2 + 2 * n + 1)) := rfl
    obtain ⟨⟨ny31, Ky32, roy33⟩, hSy34⟩ : ∃ S9 : SL9, S9 = W.2 n := ⟨_, rfl⟩
    obtain ⟨ry35, hpy36, hCy37⟩ := (show isPk cs ad g (11 + 1 + 2 + 2 * n) (ny31, Ky32, roy33) by rw [hSy34]; exact (u4 n (by omega)))
    have hpy36 : isPack cs ad g (11 + 1 + 2 + 2 * n) (ny31 : Int) roy33 ry35 := hpy36
    have hCy37 : ∀ j f, j < ny31 → f < 7 → ry35 (12 * f + j) = Ky32 (7 * j + f) := hCy37
    have hay38 : zAt ad (11 + 1 + 2 + 2 * n) (ad (11 + 1 + 2 + 2 * n)) := rfl
    have hay39 : zAt ad (11 + 1 + 2 + 2 * n + 1) (ad (11 + 1 + 2 + 2 * n + 1)) := rfl
    have hOy409 := (hok9.1 n hn4).1
    rw [← hSy34] at hOy409
    obtain ⟨hOy40, hry41, hmy42, hdy43, hagy44⟩ := id hOy409
    have hry41 : 0 ≤ roy33 := hry41
    have hmy42 : roy33 + sZ Ky32 ny31 ≤ _ := hmy42
    have hdy43 : dZ Ky32 ny31 ≤ _ := hdy43
    have hOy40 : okP Ky32 ny31 := hOy40
    have hsy45 := sZ_n hOy40 (k := ny31) (Nat.le_refl _)
    have hsy45n : ny31 ≤ 12 := hOy40.1
    have hagy44 : ∀ l, l < ny31 → Ky32 (7 * l + 5) ≤ _ := hagy44
    refine z_get (v := .int (zI ((ny31 : Int)))) C (by omega) hay38 hpy36.1 rfl inA_X3 0 (by decide) q_158 rfl rfl dX9_dig_20 ?_
    refine z_if_ne (tgt := 32) C dX9_dig_23 (by decide) (by omega) (fun hby46 => ?_) (fun hby46 => ?_)
    · refine z_aload_n C 0 dX9_dig_32 rfl ?_
      refine z_get (v := .ref (ad 11)) C (lt_K hN (rfl : Nat.blt (0) 952 = true)) hay1 ra1 rfl inA_X9 5 (by decide) q_354 rfl rfl dX9_dig_33 ?_
      have hn9 : (W.2 n).1 = ny31 := by rw [← hSy34]
      refine z_cV (As := []) (rest := []) (ci := 8) C (c_qKeep l D A cs tt N ad _ 11 (by omega) na _ H W P nu nv nw rf hS hXK) (lt_K hN (rfl : Nat.blt (11) 952 = true)) hay5 hXK.1 rfl rfl mv_yX6_keepAct q_412 hd_yX6_keepAct (by decide) (Nat.le_of_ble_eq_true rfl) (by decide) dX9_dig_36 rfl (kV0 fun gvy47 hvy47 => ?_)
      obtain ⟨hSvy47, hXvy47, hfvy47⟩ := hvy47
      obtain ⟨uy481, ⟨uy48u, uy482, uy483⟩, uy484⟩ := id hXvy47.2.1
      have hay49 : zAt ad (11 + 1) (ad (11 + 1)) := rfl
      have hay50 : zAt ad (11 + 1 + 1) (ad (11 + 1 + 1)) := rfl
      have hkn9 : kpN na ≤ 40 := by unfold kpN; split <;> omega
      refine z_aload_n C 0 dX9_dig_39 rfl ?_
      have hgy51 := (hfvy47 (0) (by omega)).trans ra1
      refine z_get (v := .ref (ad 11)) C (lt_K hN (rfl : Nat.blt (0) 952 = true)) hay1 hgy51 rfl inA_X9 5 (by decide) q_354 rfl rfl dX9_dig_40 ?_
      refine z_get (v := .ref (ad (11 + 1))) C (lt_K hN (rfl : Nat.blt (11) 952 = true)) hay5 hXvy47.1 rfl inA_X6 0 (by decide) q_258 rfl rfl dX9_dig_43 ?_
      refine z_iload_n C 1 dX9_dig_46 rfl ?_
      have h1n : 0 < (W.2 n).1 := by omega
      refine z_cV (As := [.int (zI ((n : Int)))]) (rest := []) (ci := 10) C (c_wDig l D A cs tt N ad _ (11 + 1) (by omega) W hXvy47.2.1 n hn4 hOn) (lt_K hN (rfl : Nat.blt (11 + 1) 952 = true)) hay49 uy481 rfl rfl mv_yX8_digOn q_551 hd_yX8_digOn (by decide) (Nat.le_of_ble_eq_true rfl) (by decide) dX9_dig_47 rfl (kI0 fun vy52 gvy52 hvy52 => ?_)
      obtain ⟨hdvy52, hfvy52⟩ := hvy52
      obtain ⟨-, rfl, hwvy52⟩ := hdvy52.resolve_left (fun q9 => absurd q9.1 (by omega))
      have hly := (hOn.ly (l := (W.2 n).1 - 1) (by omega)).1.2.2.2.2.2.2
      have hok2 : okWl (x + 1) (50 * (x + 1)) (dgW W n) := (hok9.dg hn4).mono (by omega) (by omega)
      have hE9 : digA nsl ((n : Int)) W na H = ((W.2 n).2.1 (7 * ((W.2 n).1 - 1) + 6), dgW W n, kpN na, kpH na H W) := by unfold digA; rw [Int.toNat_natCast]; exact if_pos (by omega)
      rw [hE9]
      have hfr9 : ∀ j, j < 11 + 1 ∨ 11 + 11 ≤ j → gvy52 j = gvy47 j := hfvy52
      have hwl9 : isWl cs ad gvy52 (11 + 1) (dgW W n) := hwvy52
      have hwn9 : ∀ s, s < 4 → ((dgW W n).2 s).1 ≤ 12 := hok2.n12
      have hS9 : okState cs ad gvy52 11 ((kpN na : Nat) : Int) nz := okState.now (i := 11) hSvy47 hfr9 (isWl.ok hwl9 hwn9 hok2.2.2.2)
      have hX9 := xKt.now (i := 11) hXvy47 hkn9 hfr9 hwl9
      have hfo9 : ∀ j, j < 11 ∨ 447 ≤ j → gvy52 j = g j := fun j j1 => (hfr9 j (by omega)).trans (hfvy47 j (by omega))
      exact z_iret C hr hlk dX9_dig_50 (by decide) (by decide) ⟨((W.2 n).2.1 (7 * ((W.2 n).1 - 1) + 6)), rfl, rfl, rfl, by omega, okRec.st hR hfo9 hS9, ⟨hS9, _, Or.inr ⟨by omega, rfl⟩, hX9⟩, hfo9⟩
    · refine z_aload_n C 0 dX9_dig_26 rfl ?_
      refine z_iconst (z := 1) C dX9_dig_27 rfl ?_
      refine z_cV (As := [.int (zI (1))]) (rest := []) (ci := 11) C (c_qRefuse l D A cs tt N ad _ hN _ _ _ _ _ _ _ _ _ _ _ _ _ _ _ hR na H W P nu nv nw rf hS hXK 1 (by omega)) (lt_K hN (rfl : Nat.blt (0) 952 = true)) hay1 ra1 rfl rfl mv_yX9_refuse q_408 hd_yX9_refuse (by decide) (Nat.le_of_ble_eq_true rfl) (by decide) dX9_dig_28 rfl (kI0 fun vy53 gvy53 hvy53 => ?_)
      obtain ⟨rfl, ⟨hSvy53, hXvy53⟩, hfvy53⟩ := hvy53
      have hn9 : (W.2 n).1 = ny31 := by rw [← hSy34]
      rw [show digA nsl ((n : Int)) W na H = (-1, W, na, H) from if_neg (by rw [Int.toNat_natCast]; omega)]
      exact z_iret C hr hlk dX9_dig_31 (by decide) (by decide) ⟨-1, rfl, rfl, rfl, by omega, okRec.st hR (fun j j1 => by rw [hfvy53 _ (by omega)]) hSvy53, ⟨hSvy53, _, Or.inl ⟨by omega, rfl⟩, hXvy53⟩, fun j j1 => by rw [hfvy53 _ (by omega)]⟩

set_option maxRecDepth 100000 in
set_option maxHeartbeats 4000000 in
theorem c_qDig_b (l : Launch) (D : va_G) (A : Nat → Prop) (cs : Nat → ClassId) (tt : Nat) (N : Nat) (ad : Nat → Nat) (g : Nat → va_E) (hN : 952 ≤ N) (t fp im nz kz sl ho ua : Int) (st op ai fa mu tb tp : Nat → Int) (hR : okRec cs ad g N t fp im nz kz sl ho ua st op ai fa mu tb tp) (na : Nat) (H : Nat → WL9) (W : WL9) (P : Nat → PT9) (nu nv nw rf : Nat → Int) (hS : okState cs ad g 11 (na : Int) nz) (hXK : xKt cs ad g 11 na H W P nz nu nv nw rf) (nsl : Nat) (hnsl : sl = (nsl : Int)) (hfc : okFc sl ho ua op ai fa mu tb) (x : Int) (hx : 0 ≤ x ∧ x ≤ 512) (hwx : okWx x W) (z : Int) (hz : -2147483648 ≤ z ∧ z ≤ 2147483647) (hzo : z < 0 ∨ 3 < z) : zM l yX9_dig cX9_dig 2 (some .int) ({ frames := 8, cells := 0, slots := 0, locals := 480 } : Room) D A cs tt N ad g [.ref (ad 0), .int (zI (z))] (rI0 N ad fun q g' => q = (digA nsl (z) W na H).1 ∧ okRec cs ad g' N t fp im nz kz sl ho ua st op ai fa mu tb tp ∧ (okState cs ad g' 11 (((digA nsl (z) W na H).2.2.1 : Nat) : Int) nz ∧ ∃ rf', ((q = -1 ∧ rf' = uZ rf 1 (rf 1 + 1)) ∨ (q ≠ -1 ∧ rf' = rf)) ∧ xKt cs ad g' 11 (digA nsl (z) W na H).2.2.1 (digA nsl (z) W na H).2.2.2 (digA nsl (z) W na H).2.1 P nz nu nv nw rf') ∧ ∀ j, j < 11 ∨ 447 ≤ j → g' j = g j) := by
  obtain ⟨ra1, ra2, ra3, -, -, ra6, ra7, ra8, -⟩ := id hR
  have hna := hS.2.1
  have hay1 : zAt ad (0) (ad 0) := rfl
  have hay2 : zAt ad (1) (ad 1) := rfl
  have hay3 : zAt ad (2) (ad 2) := rfl
  have hay4 : zAt ad (4) (ad 4) := rfl
  have hay5 : zAt ad (11) (ad 11) := rfl
  have hay6 : zAt ad (447) (ad 447) := rfl
  have hay7 : zAt ad (883) (ad 883) := rfl
  have hay8 : zAt ad (890) (ad 890) := rfl
  have hay9 : zAt ad (900) (ad 900) := rfl
  have hay10 : zAt ad (910) (ad 910) := rfl
  have hay11 : zAt ad (917) (ad 917) := rfl
  have hay12 : zAt ad (919) (ad 919) := rfl
  have hay13 : zAt ad (4 + 1) (ad (4 + 1)) := rfl
  have hay14 : zAt ad (4 + 2) (ad (4 + 2)) := rfl
  have hay15 : zAt ad (4 + 3) (ad (4 + 3)) := rfl
  have hay16 : zAt ad (4 + 4) (ad (4 + 4)) := rfl
  have hay17 : zAt ad (4 + 5) (ad (4 + 5)) := rfl
  have hay18 : zAt ad (4 + 6) (ad (4 + 6)) := rfl
  have hay19 : zAt ad (11 + 1) (ad (11 + 1)) := rfl
  have hay20 : zAt ad (11 + 11) (ad (11 + 11)) := rfl
  have hay21 : zAt ad (11 + 12) (ad (11 + 12)) := rfl
  have hay22 : zAt ad (11 + 13) (ad (11 + 13)) := rfl
  have hay23 : zAt ad (11 + 17) (ad (11 + 17)) := rfl
  obtain ⟨u1, ⟨uu, u2, u3⟩, u4⟩ := id hXK.2.1
  have hay24 : zAt ad (11 + 1) (ad (11 + 1)) := rfl
  have hay25 : zAt ad (11 + 1 + 1) (ad (11 + 1 + 1)) := rfl
  have hok9 := hwx.1
  have ht9 := hwx.2
  have ht8 := hok9.2.1
  have hns4 : nsl ≤ 4 := by omega
  refine z_of (by decide) (Nat.le_of_ble_eq_true rfl) ?_
  intro pY eY sY mY below meth cY C hr hlk hnm
  refine z_lv (lv' := [(0, .ref (ad 0)), (1, .int (zI (z)))]) [0, 1] rfl ?_
  refine z_aload_n C 0 dX9_dig_0 rfl ?_
  refine z_iload_n C 1 dX9_dig_1 rfl ?_
  refine z_cV (As := [.int (zI (z))]) (rest := []) (ci := 11) C (c_X9_isSlope l D A cs tt N ad _ hN _ _ _ _ _ _ _ _ _ _ _ _ _ _ _ hR (z) (by omega)) (lt_K hN (rfl : Nat.blt (0) 952 = true)) hay1 ra1 rfl rfl mv_yX9_isSlope q_537 hd_yX9_isSlope (by decide) (Nat.le_of_ble_eq_true rfl) (by decide) dX9_dig_2 rfl (kI0 fun vy26 gvy26 hvy26 => ?_)
  obtain ⟨hvy26, rfl⟩ := hvy26
  have hbvy26 : (vy26 = 1 ∧ 0 ≤ z ∧ z < sl) ∨ (vy26 = 0 ∧ ¬ (0 ≤ z ∧ z < sl)) := by rw [hvy26]; by_cases e9 : 0 ≤ z ∧ z < sl; (rw [if_pos e9]; exact Or.inl ⟨rfl, e9⟩); (rw [if_neg e9]; exact Or.inr ⟨rfl, e9⟩)
  obtain rfl : vy26 = 0 := by omega
  refine z_if_eq (tgt := 26) C dX9_dig_5 (by decide) (by omega) (fun _ => ?_) (fun h => absurd h (by omega))
  refine z_aload_n C 0 dX9_dig_26 rfl ?_
  refine z_iconst (z := 1) C dX9_dig_27 rfl ?_
  refine z_cV (As := [.int (zI (1))]) (rest := []) (ci := 11) C (c_qRefuse l D A cs tt N ad _ hN _ _ _ _ _ _ _ _ _ _ _ _ _ _ _ hR na H W P nu nv nw rf hS hXK 1 (by omega)) (lt_K hN (rfl : Nat.blt (0) 952 = true)) hay1 ra1 rfl rfl mv_yX9_refuse q_408 hd_yX9_refuse (by decide) (Nat.le_of_ble_eq_true rfl) (by decide) dX9_dig_28 rfl (kI0 fun vy27 gvy27 hvy27 => ?_)
  obtain ⟨rfl, ⟨hSvy27, hXvy27⟩, hfvy27⟩ := hvy27
  rw [show digA nsl (z) W na H = (-1, W, na, H) from if_neg (by omega)]
  exact z_iret C hr hlk dX9_dig_31 (by decide) (by decide) ⟨-1, rfl, rfl, rfl, by omega, okRec.st hR (fun j j1 => by rw [hfvy27 _ (by omega)]) hSvy27, ⟨hSvy27, _, Or.inl ⟨by omega, rfl⟩, hXvy27⟩, fun j j1 => by rw [hfvy27 _ (by omega)]⟩

set_option maxRecDepth 100000 in
set_option maxHeartbeats 4000000 in
theorem c_qDig (l : Launch) (D : va_G) (A : Nat → Prop) (cs : Nat → ClassId) (tt : Nat) (N : Nat) (ad : Nat → Nat) (g : Nat → va_E) (hN : 952 ≤ N) (t fp im nz kz sl ho ua : Int) (st op ai fa mu tb tp : Nat → Int) (hR : okRec cs ad g N t fp im nz kz sl ho ua st op ai fa mu tb tp) (na : Nat) (H : Nat → WL9) (W : WL9) (P : Nat → PT9) (nu nv nw rf : Nat → Int) (hS : okState cs ad g 11 (na : Int) nz) (hXK : xKt cs ad g 11 na H W P nz nu nv nw rf) (nsl : Nat) (hnsl : sl = (nsl : Int)) (hfc : okFc sl ho ua op ai fa mu tb) (x : Int) (hx : 0 ≤ x ∧ x ≤ 512) (hwx : okWx x W) (z : Int) (hz : -2147483648 ≤ z ∧ z ≤ 2147483647) : zM l yX9_dig cX9_dig 2 (some .int) ({ frames := 8, cells := 0, slots := 0, locals := 480 } : Room) D A cs tt N ad g [.ref (ad 0), .int (zI (z))] (rI0 N ad fun q g' => q = (digA nsl (z) W na H).1 ∧ okRec cs ad g' N t fp im nz kz sl ho ua st op ai fa mu tb tp ∧ (okState cs ad g' 11 (((digA nsl (z) W na H).2.2.1 : Nat) : Int) nz ∧ ∃ rf', ((q = -1 ∧ rf' = uZ rf 1 (rf 1 + 1)) ∨ (q ≠ -1 ∧ rf' = rf)) ∧ xKt cs ad g' 11 (digA nsl (z) W na H).2.2.1 (digA nsl (z) W na H).2.2.2 (digA nsl (z) W na H).2.1 P nz nu nv nw rf') ∧ ∀ j, j < 11 ∨ 447 ≤ j → g' j = g j) := by
  by_cases h9 : 0 ≤ z ∧ z ≤ 3
  · obtain ⟨n, rfl⟩ : ∃ n : Nat, z = (n : Int) := ⟨z.toNat, by omega⟩
    exact c_qDig_a l D A cs tt N ad g hN t fp im nz kz sl ho ua st op ai fa mu tb tp hR na H W P nu nv nw rf hS hXK nsl hnsl hfc x hx hwx  n (by omega) 
  · exact c_qDig_b l D A cs tt N ad g hN t fp im nz kz sl ho ua st op ai fa mu tb tp hR na H W P nu nv nw rf hS hXK nsl hnsl hfc x hx hwx  z hz (by omega) 

set_option maxRecDepth 100000 in
set_option maxHeartbeats 4000000 in
theorem c_qUns (l : Launch) (D : va_G) (A : Nat → Prop) (cs : Nat → ClassId) (tt : Nat) (N : Nat) (ad : Nat → Nat) (g : Nat → va_E) (hN : 952 ≤ N) (t fp im nz kz sl ho ua : Int) (st op ai fa mu tb tp : Nat → Int) (hR : okRec cs ad g N t fp im nz kz sl ho ua st op ai fa mu tb tp) (na : Nat) (H : Nat → WL9) (W : WL9) (P : Nat → PT9) (nu nv nw rf : Nat → Int) (hS : okState cs ad g 11 (na : Int) nz) (hXK : xKt cs ad g 11 na H W P nz nu nv nw rf) (nsl : Nat) (hnsl : sl = (nsl : Int)) (hfc : okFc sl ho ua op ai fa mu tb) (x : Int) (hx : 0 ≤ x ∧ x ≤ 512) (hwx : okWx x W) (hst9 : ∀ k : Nat, (k : Int) < sl → 0 ≤ st k ∧ st k ≤ 90) (n : Nat) (hn4 : n < 4) (hn : (n : Int) < sl) : zM l yX9_isUnstable cX9_isUnstable 3 (some .boolean) ({ frames := 7, cells := 0, slots := 0, locals := 420 } : Room) D A cs tt N ad g [.ref (ad 0), .ref (ad (11 + 1)), .int (zI ((n : Int)))] (rI0 N ad fun q g' => (∃ v, isLr tb (W.2 n).2.1 (W.2 n).1 0 (st n) v ∧ ((q = 1 ∧ v < 100) ∨ (q = 0 ∧ 100 ≤ v))) ∧ g = g') := by
  obtain ⟨ra1, ra2, ra3, -, -, ra6, ra7, ra8, -⟩ := id hR
  have hna := hS.2.1
  have hay1 : zAt ad (0) (ad 0) := rfl
  have hay2 : zAt ad (1) (ad 1) := rfl
  have hay3 : zAt ad (2) (ad 2) := rfl
  have hay4 : zAt ad (4) (ad 4) := rfl
  have hay5 : zAt ad (11) (ad 11) := rfl
  have hay6 : zAt ad (447) (ad 447) := rfl
  have hay7 : zAt ad (883) (ad 883) := rfl
  have hay8 : zAt ad (890) (ad 890) := rfl
  have hay9 : zAt ad (900) (ad 900) := rfl
  have hay10 : zAt ad (910) (ad 910) := rfl
  have hay11 : zAt ad (917) (ad 917) := rfl
  have hay12 : zAt ad (919) (ad 919) := rfl
  have hay13 : zAt ad (4 + 1) (ad (4 + 1)) := rfl
  have hay14 : zAt ad (4 + 2) (ad (4 + 2)) := rfl
  have hay15 : zAt ad (4 + 3) (ad (4 + 3)) := rfl
  have hay16 : zAt ad (4 + 4) (ad (4 + 4)) := rfl
  have hay17 : zAt ad (4 + 5) (ad (4 + 5)) := rfl
  have hay18 : zAt ad (4 + 6) (ad (4 + 6)) := rfl
  have hay19 : zAt ad (11 + 1) (ad (11 + 1)) := rfl
  have hay20 : zAt ad (11 + 11) (ad (11 + 11)) := rfl
  have hay21 : zAt ad (11 + 12) (ad (11 + 12)) := rfl
  have hay22 : zAt ad (11 + 13) (ad (11 + 13)) := rfl
  have hay23 : zAt ad (11 + 17) (ad (11 + 17)) := rfl
  obtain ⟨u1, ⟨uu, u2, u3⟩, u4⟩ := id hXK.2.1
  have hay24 : zAt ad (11 + 1) (ad (11 + 1)) := rfl
  have hay25 : zAt ad (11 + 1 + 1) (ad (11 + 1 + 1)) := rfl
  have hok9 := hwx.1
  have ht : okTb tb := hfc.2.2.2.2.2
  have hst := hst9 n hn
  have hXn : okX (W.2 n).2.1 (W.2 n).1 := (hok9.1 n hn4).2.x (by omega)
  refine z_of (by decide) (Nat.le_of_ble_eq_true rfl) ?_
  intro pY eY sY mY below meth cY C hr hlk hnm
  refine z_lv (lv' := [(0, .ref (ad 0)), (1, .ref (ad (11 + 1))), (2, .int (zI ((n : Int))))]) [0, 1, 2] rfl ?_
  refine z_aload_n C 1 dX9_isUnstable_0 rfl ?_
  refine z_get (v := .ref (ad (11 + 1 + 1))) C (lt_K hN (rfl : Nat.blt (11 + 1) 952 = true)) hay24 u1 rfl inA_X8 6 (by decide) q_191 rfl rfl dX9_isUnstable_1 ?_
  refine z_iload_n C 2 dX9_isUnstable_4 rfl ?_
  refine z_aald C (lt_K hN (rfl : Nat.blt (11 + 1 + 1) 952 = true)) hay25 u2 3 rfl (n) (by omega) (by omega) (by decide) (u3 n (by omega)) dX9_isUnstable_5 ?_
  have hay26 : zAt ad (11 + 1 + 2 + 2 * n) (ad (11 + 1 + 2 + 2 * n)) := rfl
  have hay27 : zAt ad (11 + 1 + 2 + 2 * n + 1) (ad (11 + 1 + 2 + 2 * n + 1)) := rfl
  obtain ⟨⟨ny28, Ky29, roy30⟩, hSy31⟩ : ∃ S9 : SL9, S9 = W.2 n := ⟨_, rfl⟩
  obtain ⟨ry32, hpy33, hCy34⟩ := (show isPk cs ad g (11 + 1 + 2 + 2 * n) (ny28, Ky29, roy30) by rw [hSy31]; exact (u4 n (by omega)))
  have hpy33 : isPack cs ad g (11 + 1 + 2 + 2 * n) (ny28 : Int) roy30 ry32 := hpy33
  have hCy34 : ∀ j f, j < ny28 → f < 7 → ry32 (12 * f + j) = Ky29 (7 * j + f) := hCy34
  have hay35 : zAt ad (11 + 1 + 2 + 2 * n) (ad (11 + 1 + 2 + 2 * n)) := rfl
  have hay36 : zAt ad (11 + 1 + 2 + 2 * n + 1) (ad (11 + 1 + 2 + 2 * n + 1)) := rfl
  have hOy379 := (hok9.1 n hn4).1
  rw [← hSy31] at hOy379
  obtain ⟨hOy37, hry38, hmy39, hdy40, hagy41⟩ := id hOy379
  have hry38 : 0 ≤ roy30 := hry38
  have hmy39 : roy30 + sZ Ky29 ny28 ≤ _ := hmy39
  have hdy40 : dZ Ky29 ny28 ≤ _ := hdy40
  have hOy37 : okP Ky29 ny28 := hOy37
  have hsy42 := sZ_n hOy37 (k := ny28) (Nat.le_refl _)
  have hsy42n : ny28 ≤ 12 := hOy37.1
  have hagy41 : ∀ l, l < ny28 → Ky29 (7 * l + 5) ≤ _ := hagy41
  refine z_aload_n C 0 dX9_isUnstable_6 rfl ?_
  refine z_get (v := .ref (ad 4)) C (lt_K hN (rfl : Nat.blt (0) 952 = true)) hay1 ra1 rfl inA_X9 4 (by decide) q_353 rfl rfl dX9_isUnstable_7 ?_
  refine z_get (v := .ref (ad (4 + 1))) C (lt_K hN (rfl : Nat.blt (4) 952 = true)) hay4 ra6.1 rfl inA_X5 3 (by decide) q_98 rfl rfl dX9_isUnstable_10 ?_
  refine z_iload_n C 2 dX9_isUnstable_13 rfl ?_
  refine z_iald C (lt_K hN (rfl : Nat.blt (4 + 1) 952 = true)) hay13 ra6.2.1 (n) (by omega) (by omega) (by decide) dX9_isUnstable_14 ?_
  refine z_iconst (z := 0) C dX9_isUnstable_15 rfl ?_
  refine z_aload_n C 0 dX9_isUnstable_16 rfl ?_
  refine z_get (v := .ref (ad 4)) C (lt_K hN (rfl : Nat.blt (0) 952 = true)) hay1 ra1 rfl inA_X9 4 (by decide) q_353 rfl rfl dX9_isUnstable_17 ?_
  have hXd : okX Ky29 ny28 := by have h9 := hXn; rw [← hSy31] at h9; exact h9
  refine z_cV (As := [.int (zI (st (n))), .int (zI (0)), .ref (ad 4)]) (rest := []) (ci := 5) C (c_pLu l D A cs tt N ad _ (11 + 1 + 2 + 2 * n) (by omega) _ _ _ (by omega) ⟨hpy33.1, hpy33.2⟩ ny28 Ky29 rfl hCy34 hOy37 (4) (by omega) _ _ _ _ _ _ _ _ _ ⟨ra6.1, ra6.2.1, ra6.2.2.1, ra6.2.2.2.1, ra6.2.2.2.2.1, ra6.2.2.2.2.2.1, ra6.2.2.2.2.2.2⟩ ht hXd (st (n)) (by omega) (0) (by omega)) (by omega) hay35 hpy33.1 rfl rfl mv_yX3_lowestUnstable q_564 hd_yX3_lowestUnstable (by decide) (Nat.le_of_ble_eq_true rfl) (by decide) dX9_isUnstable_20 rfl (kI0 fun vy43 gvy43 hvy43 => ?_)
  obtain ⟨hkvy43, rfl⟩ := hvy43
  obtain ⟨v9, hv9⟩ := isLr_ex (more := 0) (steep := st n) ht hOy37 hXd (by decide) hst
  have hun := hkvy43.unst hv9
  have hbn : -1 ≤ vy43 ∧ vy43 ≤ 11 := by rcases hkvy43 with ⟨a9, b9⟩ | ⟨k9, a9, b9, c9, -⟩ <;> omega
  have hv8 : isLr tb (W.2 n).2.1 (W.2 n).1 0 (st n) v9 := by rw [← hSy31]; exact hv9
  clear hkvy43
  rcases (show (vy43 = -1 ∧ 100 ≤ v9) ∨ (vy43 ≠ -1 ∧ v9 < 100) by by_cases e9 : v9 < 100; (exact Or.inr ⟨hun.2 e9, e9⟩); exact Or.inl ⟨by by_cases e8 : vy43 = -1; (exact e8); exact absurd (hun.1 e8) e9, by omega⟩) with ⟨he9, hv7⟩ | ⟨he9, hv7⟩
  · refine z_iconst (z := -1) C dX9_isUnstable_23 rfl ?_
    refine z_icmp_eq (tgt := 31) C dX9_isUnstable_24 (by decide) (by omega) (by omega) (fun hby44 => ?_) (fun hby44 => ?_)
    · refine z_iconst (z := 0) C dX9_isUnstable_31 rfl ?_
      exact z_zret C hr hlk dX9_isUnstable_32 (by decide) (by decide) (by decide) ⟨0, rfl, rfl, rfl, ⟨v9, hv8, by omega⟩, rfl⟩
    · refine z_iconst (z := 1) C dX9_isUnstable_27 rfl ?_
      refine z_goto (tgt := 32) C dX9_isUnstable_28 (by decide) ?_
      exact z_zret C hr hlk dX9_isUnstable_32 (by decide) (by decide) (by decide) ⟨1, rfl, rfl, rfl, ⟨v9, hv8, by omega⟩, rfl⟩
  · refine z_iconst (z := -1) C dX9_isUnstable_23 rfl ?_
    refine z_icmp_eq (tgt := 31) C dX9_isUnstable_24 (by decide) (by omega) (by omega) (fun hby45 => ?_) (fun hby45 => ?_)
    · refine z_iconst (z := 0) C dX9_isUnstable_31 rfl ?_
      exact z_zret C hr hlk dX9_isUnstable_32 (by decide) (by decide) (by decide) ⟨0, rfl, rfl, rfl, ⟨v9, hv8, by omega⟩, rfl⟩
    · refine z_iconst (z := 1) C dX9_isUnstable_27 rfl ?_
      refine z_goto (tgt := 32) C dX9_isUnstable_28 (by decide) ?_
      exact z_zret C hr hlk dX9_isUnstable_32 (by decide) (by decide) (by decide) ⟨1, rfl, rfl, rfl, ⟨v9, hv8, by omega⟩, rfl⟩

set_option maxRecDepth 100000 in
set_option maxHeartbeats 4000000 in
theorem c_qComes (l : Launch) (D : va_G) (A : Nat → Prop) (cs : Nat → ClassId) (tt : Nat) (N : Nat) (ad : Nat → Nat) (g : Nat → va_E) (hN : 952 ≤ N) (t fp im nz kz sl ho ua : Int) (st op ai fa mu tb tp : Nat → Int) (hR : okRec cs ad g N t fp im nz kz sl ho ua st op ai fa mu tb tp) (na : Nat) (H : Nat → WL9) (W : WL9) (P : Nat → PT9) (nu nv nw rf : Nat → Int) (hS : okState cs ad g 11 (na : Int) nz) (hXK : xKt cs ad g 11 na H W P nz nu nv nw rf) (nsl : Nat) (hnsl : sl = (nsl : Int)) (hfc : okFc sl ho ua op ai fa mu tb) (x : Int) (hx : 0 ≤ x ∧ x ≤ 512) (hwx : okWx x W) (z : Int) (hz : -2147483648 ≤ z ∧ z ≤ 2147483647) (z1 : Int) (hz1 : -2147483648 ≤ z1 ∧ z1 ≤ 2147483647) : zM l yX9_comesByHand cX9_comesByHand 3 (some .boolean) ({ frames := 3, cells := 0, slots := 0, locals := 180 } : Room) D A cs tt N ad g [.ref (ad 0), .int (zI (z)), .int (zI (z1))] (rI0 N ad fun q g' => q = (if (z = 3 ∧ fcZ ho ua ai (W.1 0) < 0) ∨ ((z = 1 ∨ z = 2) ∧ 1 ≤ z1 ∧ z1 ≤ 50) then (1 : Int) else 0) ∧ g = g') := by
  obtain ⟨ra1, ra2, ra3, -, -, ra6, ra7, ra8, -⟩ := id hR
  have hna := hS.2.1
  have hay1 : zAt ad (0) (ad 0) := rfl
  have hay2 : zAt ad (1) (ad 1) := rfl
  have hay3 : zAt ad (2) (ad 2) := rfl
  have hay4 : zAt ad (4) (ad 4) := rfl
  have hay5 : zAt ad (11) (ad 11) := rfl
  have hay6 : zAt ad (447) (ad 447) := rfl
  have hay7 : zAt ad (883) (ad 883) := rfl
  have hay8 : zAt ad (890) (ad 890) := rfl
  have hay9 : zAt ad (900) (ad 900) := rfl
  have hay10 : zAt ad (910) (ad 910) := rfl
  have hay11 : zAt ad (917) (ad 917) := rfl
  have hay12 : zAt ad (919) (ad 919) := rfl
  have hay13 : zAt ad (4 + 1) (ad (4 + 1)) := rfl
  have hay14 : zAt ad (4 + 2) (ad (4 + 2)) := rfl
  have hay15 : zAt ad (4 + 3) (ad (4 + 3)) := rfl
  have hay16 : zAt ad (4 + 4) (ad (4 + 4)) := rfl
  have hay17 : zAt ad (4 + 5) (ad (4 + 5)) := rfl
  have hay18 : zAt ad (4 + 6) (ad (4 + 6)) := rfl
  have hay19 : zAt ad (11 + 1) (ad (11 + 1)) := rfl
  have hay20 : zAt ad (11 + 11) (ad (11 + 11)) := rfl
  have hay21 : zAt ad (11 + 12) (ad (11 + 12)) := rfl
  have hay22 : zAt ad (11 + 13) (ad (11 + 13)) := rfl
  have hay23 : zAt ad (11 + 17) (ad (11 + 17)) := rfl
  obtain ⟨u1, ⟨uu, u2, u3⟩, u4⟩ := id hXK.2.1
  have hay24 : zAt ad (11 + 1) (ad (11 + 1)) := rfl
  have hay25 : zAt ad (11 + 1 + 1) (ad (11 + 1 + 1)) := rfl
  have ht8 := hwx.1.2.1
  refine z_of (by decide) (Nat.le_of_ble_eq_true rfl) ?_
  intro pY eY sY mY below meth cY C hr hlk hnm
  refine z_lv (lv' := [(0, .ref (ad 0)), (1, .int (zI (z))), (2, .int (zI (z1)))]) [0, 1, 2] rfl ?_
  refine z_iload_n C 1 dX9_comesByHand_0 rfl ?_
  refine z_iconst (z := 3) C dX9_comesByHand_1 rfl ?_
  refine z_icmp_ne (tgt := 31) C dX9_comesByHand_2 (by decide) (by omega) (by omega) (fun hby26 => ?_) (fun hby26 => ?_)
  · refine z_iload_n C 1 dX9_comesByHand_31 rfl ?_
    refine z_iconst (z := 1) C dX9_comesByHand_32 rfl ?_
    refine z_icmp_eq (tgt := 41) C dX9_comesByHand_33 (by decide) (by omega) (by omega) (fun hby27 => ?_) (fun hby27 => ?_)
    · refine z_iload_n C 2 dX9_comesByHand_41 rfl ?_
      refine z_iconst (z := 1) C dX9_comesByHand_42 rfl ?_
      refine z_icmp_lt (tgt := 56) C dX9_comesByHand_43 (by decide) (by omega) (by omega) (fun hby28 => ?_) (fun hby28 => ?_)
      · refine z_iconst (z := 0) C dX9_comesByHand_56 rfl ?_
        exact z_zret C hr hlk dX9_comesByHand_57 (by decide) (by decide) (by decide) ⟨0, rfl, rfl, rfl, by rw [if_neg (by omega)], rfl⟩
      · refine z_iload_n C 2 dX9_comesByHand_46 rfl ?_
        refine z_bipush (z := 50) C dX9_comesByHand_47 (by decide) ?_
        refine z_icmp_gt (tgt := 56) C dX9_comesByHand_49 (by decide) (by omega) (by omega) (fun hby29 => ?_) (fun hby29 => ?_)
        · refine z_iconst (z := 0) C dX9_comesByHand_56 rfl ?_
          exact z_zret C hr hlk dX9_comesByHand_57 (by decide) (by decide) (by decide) ⟨0, rfl, rfl, rfl, by rw [if_neg (by omega)], rfl⟩
        · refine z_iconst (z := 1) C dX9_comesByHand_52 rfl ?_
          refine z_goto (tgt := 57) C dX9_comesByHand_53 (by decide) ?_
          exact z_zret C hr hlk dX9_comesByHand_57 (by decide) (by decide) (by decide) ⟨1, rfl, rfl, rfl, by rw [if_pos (by omega)], rfl⟩
    · refine z_iload_n C 1 dX9_comesByHand_36 rfl ?_
      refine z_iconst (z := 2) C dX9_comesByHand_37 rfl ?_
      refine z_icmp_ne (tgt := 56) C dX9_comesByHand_38 (by decide) (by omega) (by omega) (fun hby30 => ?_) (fun hby30 => ?_)
      · refine z_iconst (z := 0) C dX9_comesByHand_56 rfl ?_
        exact z_zret C hr hlk dX9_comesByHand_57 (by decide) (by decide) (by decide) ⟨0, rfl, rfl, rfl, by rw [if_neg (by omega)], rfl⟩
      · refine z_iload_n C 2 dX9_comesByHand_41 rfl ?_
        refine z_iconst (z := 1) C dX9_comesByHand_42 rfl ?_
        refine z_icmp_lt (tgt := 56) C dX9_comesByHand_43 (by decide) (by omega) (by omega) (fun hby31 => ?_) (fun hby31 => ?_)
        · refine z_iconst (z := 0) C dX9_comesByHand_56 rfl ?_
          exact z_zret C hr hlk dX9_comesByHand_57 (by decide) (by decide) (by decide) ⟨0, rfl, rfl, rfl, by rw [if_neg (by omega)], rfl⟩
        · refine z_iload_n C 2 dX9_comesByHand_46 rfl ?_
          refine z_bipush (z := 50) C dX9_comesByHand_47 (by decide) ?_
          refine z_icmp_gt (tgt := 56) C dX9_comesByHand_49 (by decide) (by omega) (by omega) (fun hby32 => ?_) (fun hby32 => ?_)
          · refine z_iconst (z := 0) C dX9_comesByHand_56 rfl ?_
            exact z_zret C hr hlk dX9_comesByHand_57 (by decide) (by decide) (by decide) ⟨0, rfl, rfl, rfl, by rw [if_neg (by omega)], rfl⟩
          · refine z_iconst (z := 1) C dX9_comesByHand_52 rfl ?_
            refine z_goto (tgt := 57) C dX9_comesByHand_53 (by decide) ?_
            exact z_zret C hr hlk dX9_comesByHand_57 (by decide) (by decide) (by decide) ⟨1, rfl, rfl, rfl, by rw [if_pos (by omega)], rfl⟩
  · refine z_aload_n C 0 dX9_comesByHand_5 rfl ?_
    refine z_get (v := .ref (ad 4)) C (lt_K hN (rfl : Nat.blt (0) 952 = true)) hay1 ra1 rfl inA_X9 4 (by decide) q_353 rfl rfl dX9_comesByHand_6 ?_
    refine z_aload_n C 0 dX9_comesByHand_9 rfl ?_
    refine z_get (v := .ref (ad 11)) C (lt_K hN (rfl : Nat.blt (0) 952 = true)) hay1 ra1 rfl inA_X9 5 (by decide) q_354 rfl rfl dX9_comesByHand_10 ?_
    refine z_get (v := .ref (ad (11 + 1))) C (lt_K hN (rfl : Nat.blt (11) 952 = true)) hay5 hXK.1 rfl inA_X6 0 (by decide) q_258 rfl rfl dX9_comesByHand_13 ?_
    refine z_get (v := .int (zI (W.1 0))) C (lt_K hN (rfl : Nat.blt (11 + 1) 952 = true)) hay24 u1 rfl inA_X8 0 (by decide) q_174 rfl rfl dX9_comesByHand_16 ?_
    refine z_cV (As := [.int (zI (W.1 0))]) (rest := []) (ci := 7) C (c_pairAt l D A cs tt N ad _ (4) (by omega) _ _ _ _ _ _ _ _ _ ⟨ra6.1, ra6.2.1, ra6.2.2.1, ra6.2.2.2.1, ra6.2.2.2.2.1, ra6.2.2.2.2.2.1, ra6.2.2.2.2.2.2⟩ (by omega) (W.1 0) (by omega)) (lt_K hN (rfl : Nat.blt (4) 952 = true)) hay4 ra6.1 rfl rfl mv_yX5_airAt q_545 hd_yX5_airAt (by decide) (Nat.le_of_ble_eq_true rfl) (by decide) dX9_comesByHand_19 rfl (kI0 fun vy33 gvy33 hvy33 => ?_)
    obtain ⟨rfl, rfl⟩ := hvy33
    have hab9 := fc_air (tm := W.1 0) hfc
    refine z_if_ge (tgt := 29) C dX9_comesByHand_22 (by decide) (by omega) (fun hby34 => ?_) (fun hby34 => ?_)
    · refine z_iconst (z := 0) C dX9_comesByHand_29 rfl ?_
      exact z_zret C hr hlk dX9_comesByHand_30 (by decide) (by decide) (by decide) ⟨0, rfl, rfl, rfl, by rw [if_neg (by omega)], rfl⟩
    · refine z_iconst (z := 1) C dX9_comesByHand_25 rfl ?_
      refine z_goto (tgt := 30) C dX9_comesByHand_26 (by decide) ?_
      exact z_zret C hr hlk dX9_comesByHand_30 (by decide) (by decide) (by decide) ⟨1, rfl, rfl, rfl, by rw [if_pos (by omega)], rfl⟩

set_option maxRecDepth 100000 in
set_option maxHeartbeats 4000000 in
theorem c_qFall_a (l : Launch) (D : va_G) (A : Nat → Prop) (cs : Nat → ClassId) (tt : Nat) (N : Nat) (ad : Nat → Nat) (g : Nat → va_E) (hN : 952 ≤ N) (t fp im nz kz sl ho ua : Int) (st op ai fa mu tb tp : Nat → Int) (hR : okRec cs ad g N t fp im nz kz sl ho ua st op ai fa mu tb tp) (na : Nat) (H : Nat → WL9) (W : WL9) (P : Nat → PT9) (nu nv nw rf : Nat → Int) (hS : okState cs ad g 11 (na : Int) nz) (hXK : xKt cs ad g 11 na H W P nz nu nv nw rf) (nsl : Nat) (hnsl : sl = (nsl : Int)) (hfc : okFc sl ho ua op ai fa mu tb) (x : Int) (hx : 0 ≤ x ∧ x ≤ 512) (hwx : okWx x W) (n : Nat) (hn4 : n < 4) (z1 : Int) (hz1 : -2147483648 ≤ z1 ∧ z1 ≤ 2147483647) (z2 : Int) (hz2 : -2147483648 ≤ z2 ∧ z2 ≤ 2147483647) : zM l yX9_fall cX9_fall 4 (some .int) ({ frames := 8, cells := 0, slots := 0, locals := 480 } : Room) D A cs tt N ad g [.ref (ad 0), .int (zI ((n : Int))), .int (zI (z1)), .int (zI (z2))] (rI0 N ad fun q g' => q = (falC ho ua ai nsl ((n : Int)) z1 z2 W na H).1 ∧ okRec cs ad g' N t fp im nz kz sl ho ua st op ai fa mu tb tp ∧ (okState cs ad g' 11 (((falC ho ua ai nsl ((n : Int)) z1 z2 W na H).2.2.1 : Nat) : Int) nz ∧ ∃ rf', ((q = -1 ∧ rf' = uZ rf 1 (rf 1 + 1)) ∨ (q ≠ -1 ∧ rf' = rf)) ∧ xKt cs ad g' 11 (falC ho ua ai nsl ((n : Int)) z1 z2 W na H).2.2.1 (falC ho ua ai nsl ((n : Int)) z1 z2 W na H).2.2.2 (falC ho ua ai nsl ((n : Int)) z1 z2 W na H).2.1 P nz nu nv nw rf') ∧ ∀ j, j < 11 ∨ 447 ≤ j → g' j = g j) := by
  obtain ⟨ra1, ra2, ra3, -, -, ra6, ra7, ra8, -⟩ := id hR
  have hna := hS.2.1
  have hay1 : zAt ad (0) (ad 0) := rfl
  have hay2 : zAt ad (1) (ad 1) := rfl
  have hay3 : zAt ad (2) (ad 2) := rfl
  have hay4 : zAt ad (4) (ad 4) := rfl
  have hay5 : zAt ad (11) (ad 11) := rfl
  have hay6 : zAt ad (447) (ad 447) := rfl
  have hay7 : zAt ad (883) (ad 883) := rfl
  have hay8 : zAt ad (890) (ad 890) := rfl
  have hay9 : zAt ad (900) (ad 900) := rfl
  have hay10 : zAt ad (910) (ad 910) := rfl
  have hay11 : zAt ad (917) (ad 917) := rfl
  have hay12 : zAt ad (919) (ad 919) := rfl
  have hay13 : zAt ad (4 + 1) (ad (4 + 1)) := rfl
  have hay14 : zAt ad (4 + 2) (ad (4 + 2)) := rfl
  have hay15 : zAt ad (4 + 3) (ad (4 + 3)) := rfl
  have hay16 : zAt ad (4 + 4) (ad (4 + 4)) := rfl
  have hay17 : zAt ad (4 + 5) (ad (4 + 5)) := rfl
  have hay18 : zAt ad (4 + 6) (ad (4 + 6)) := rfl
  have hay19 : zAt ad (11 + 1) (ad (11 + 1)) := rfl
  have hay20 : zAt ad (11 + 11) (ad (11 + 11)) := rfl
  have hay21 : zAt ad (11 + 12) (ad (11 + 12)) := rfl
  have hay22 : zAt ad (11 + 13) (ad (11 + 13)) := rfl
  have hay23 : zAt ad (11 + 17) (ad (11 + 17)) := rfl
  obtain ⟨u1, ⟨uu, u2, u3⟩, u4⟩ := id hXK.2.1
  have hay24 : zAt ad (11 + 1) (ad (11 + 1)) := rfl
  have hay25 : zAt ad (11 + 1 + 1) (ad (11 + 1 + 1)) := rfl
  have hok9 := hwx.1
  have ht9 := hwx.2
  have ht8 := hok9.2.1
  have hns4 : nsl ≤ 4 := by omega
  have hOn := (hok9.1 n hn4).1.1
  have hn12 := hok9.n12 n hn4
  obtain ⟨air, hair⟩ : ∃ x9 : Int, x9 = fcZ ho ua ai (W.1 0) := ⟨_, rfl⟩
  have hab9 : -300 ≤ air ∧ air ≤ 100 := by rw [hair]; exact fc_air hfc
  refine z_of (by decide) (Nat.le_of_ble_eq_true rfl) ?_
  intro pY eY sY mY below meth cY C hr hlk hnm
  refine z_lv (lv' := [(0, .ref (ad 0)), (1, .int (zI ((n : Int)))), (2, .int (zI (z1))), (3, .int (zI (z2)))]) [0, 1, 2, 3] rfl ?_
  refine z_aload_n C 0 dX9_fall_0 rfl ?_
  refine z_iload_n C 1 dX9_fall_1 rfl ?_
  refine z_cV (As := [.int (zI ((n : Int)))]) (rest := []) (ci := 11) C (c_X9_isSlope l D A cs tt N ad _ hN _ _ _ _ _ _ _ _ _ _ _ _ _ _ _ hR ((n : Int)) (by omega)) (lt_K hN (rfl : Nat.blt (0) 952 = true)) hay1 ra1 rfl rfl mv_yX9_isSlope q_537 hd_yX9_isSlope (by decide) (Nat.le_of_ble_eq_true rfl) (by decide) dX9_fall_2 rfl (kI0 fun vy26 gvy26 hvy26 => ?_)
  obtain ⟨hvy26, rfl⟩ := hvy26
  have hbvy26 : (vy26 = 1 ∧ 0 ≤ (n : Int) ∧ (n : Int) < sl) ∨ (vy26 = 0 ∧ ¬ (0 ≤ (n : Int) ∧ (n : Int) < sl)) := by rw [hvy26]; by_cases e9 : 0 ≤ (n : Int) ∧ (n : Int) < sl; (rw [if_pos e9]; exact Or.inl ⟨rfl, e9⟩); (rw [if_neg e9]; exact Or.inr ⟨rfl, e9⟩)
  refine z_if_eq (tgt := 17) C dX9_fall_5 (by decide) (by omega) (fun hby27 => ?_) (fun hby27 => ?_)
  · refine z_aload_n C 0 dX9_fall_17 rfl ?_
    refine z_iconst (z := 1) C dX9_fall_18 rfl ?_
    refine z_cV (As := [.int (zI (1))]) (rest := []) (ci := 11) C (c_qRefuse l D A cs tt N ad _ hN _ _ _ _ _ _ _ _ _ _ _ _ _ _ _ hR na H W P nu nv nw rf hS hXK 1 (by omega)) (lt_K hN (rfl : Nat.blt (0) 952 = true)) hay1 ra1 rfl rfl mv_yX9_refuse q_408 hd_yX9_refuse (by decide) (Nat.le_of_ble_eq_true rfl) (by decide) dX9_fall_19 rfl (kI0 fun vy28 gvy28 hvy28 => ?_)
    obtain ⟨rfl, ⟨hSvy28, hXvy28⟩, hfvy28⟩ := hvy28
    rw [show falC ho ua ai nsl ((n : Int)) z1 z2 W na H = (-1, W, na, H) from by unfold falC; rw [← hair]; exact if_neg (by omega)]
    exact z_iret C hr hlk dX9_fall_22 (by decide) (by decide) ⟨-1, rfl, rfl, rfl, by omega, okRec.st hR (fun j j1 => by rw [hfvy28 _ (by omega)]) hSvy28, ⟨hSvy28, _, Or.inl ⟨by omega, rfl⟩, hXvy28⟩, fun j j1 => by rw [hfvy28 _ (by omega)]⟩
  · refine z_aload_n C 0 dX9_fall_8 rfl ?_
    refine z_iload_n C 2 dX9_fall_9 rfl ?_
    refine z_iload_n C 3 dX9_fall_10 rfl ?_
    refine z_cV (As := [.int (zI (z1)), .int (zI (z2))]) (rest := []) (ci := 11) C (c_qComes l D A cs tt N ad _ hN _ _ _ _ _ _ _ _ _ _ _ _ _ _ _ hR na H W P nu nv nw rf hS hXK nsl hnsl hfc x hx hwx (z1) (by omega) (z2) (by omega)) (lt_K hN (rfl : Nat.blt (0) 952 = true)) hay1 ra1 rfl rfl mv_yX9_comesByHand q_541 hd_yX9_comesByHand (by decide) (Nat.le_of_ble_eq_true rfl) (by decide) dX9_fall_11 rfl (kI0 fun vy29 gvy29 hvy29 => ?_)
    obtain ⟨hvy29, rfl⟩ := hvy29
    rw [← hair] at hvy29
    have hbvy29 : (vy29 = 1 ∧ (((z1) = 3 ∧ air < 0) ∨ (((z1) = 1 ∨ (z1) = 2) ∧ 1 ≤ (z2) ∧ (z2) ≤ 50))) ∨ (vy29 = 0 ∧ ¬ (((z1) = 3 ∧ air < 0) ∨ (((z1) = 1 ∨ (z1) = 2) ∧ 1 ≤ (z2) ∧ (z2) ≤ 50))) := by rw [hvy29]; by_cases e9 : ((z1) = 3 ∧ air < 0) ∨ (((z1) = 1 ∨ (z1) = 2) ∧ 1 ≤ (z2) ∧ (z2) ≤ 50); (rw [if_pos e9]; exact Or.inl ⟨rfl, e9⟩); (rw [if_neg e9]; exact Or.inr ⟨rfl, e9⟩)
    clear hvy29
    refine z_if_ne (tgt := 23) C dX9_fall_14 (by decide) (by omega) (fun hby30 => ?_) (fun hby30 => ?_)
    · refine z_aload_n C 0 dX9_fall_23 rfl ?_
      refine z_get (v := .ref (ad 11)) C (lt_K hN (rfl : Nat.blt (0) 952 = true)) hay1 ra1 rfl inA_X9 5 (by decide) q_354 rfl rfl dX9_fall_24 ?_
      refine z_cV (As := []) (rest := []) (ci := 8) C (c_qKeep l D A cs tt N ad _ 11 (by omega) na _ H W P nu nv nw rf hS hXK) (lt_K hN (rfl : Nat.blt (11) 952 = true)) hay5 hXK.1 rfl rfl mv_yX6_keepAct q_412 hd_yX6_keepAct (by decide) (Nat.le_of_ble_eq_true rfl) (by decide) dX9_fall_27 rfl (kV0 fun gvy31 hvy31 => ?_)
      obtain ⟨hSvy31, hXvy31, hfvy31⟩ := hvy31
      obtain ⟨uy321, ⟨uy32u, uy322, uy323⟩, uy324⟩ := id hXvy31.2.1
      have hay33 : zAt ad (11 + 1) (ad (11 + 1)) := rfl
      have hay34 : zAt ad (11 + 1 + 1) (ad (11 + 1 + 1)) := rfl
      have hkn9 : kpN na ≤ 40 := by unfold kpN; split <;> omega
      refine z_aload_n C 0 dX9_fall_30 rfl ?_
      have hgy35 := (hfvy31 (0) (by omega)).trans ra1
      refine z_get (v := .ref (ad 11)) C (lt_K hN (rfl : Nat.blt (0) 952 = true)) hay1 hgy35 rfl inA_X9 5 (by decide) q_354 rfl rfl dX9_fall_31 ?_
      refine z_get (v := .ref (ad (11 + 1))) C (lt_K hN (rfl : Nat.blt (11) 952 = true)) hay5 hXvy31.1 rfl inA_X6 0 (by decide) q_258 rfl rfl dX9_fall_34 ?_
      refine z_iload_n C 1 dX9_fall_37 rfl ?_
      refine z_iload_n C 2 dX9_fall_38 rfl ?_
      refine z_iload_n C 3 dX9_fall_39 rfl ?_
      refine z_aload_n C 0 dX9_fall_40 rfl ?_
      refine z_get (v := .ref (ad 4)) C (lt_K hN (rfl : Nat.blt (0) 952 = true)) hay1 hgy35 rfl inA_X9 4 (by decide) q_353 rfl rfl dX9_fall_41 ?_
      refine z_aload_n C 0 dX9_fall_44 rfl ?_
      refine z_get (v := .ref (ad 11)) C (lt_K hN (rfl : Nat.blt (0) 952 = true)) hay1 hgy35 rfl inA_X9 5 (by decide) q_354 rfl rfl dX9_fall_45 ?_
      refine z_get (v := .ref (ad (11 + 1))) C (lt_K hN (rfl : Nat.blt (11) 952 = true)) hay5 hXvy31.1 rfl inA_X6 0 (by decide) q_258 rfl rfl dX9_fall_48 ?_
      refine z_get (v := .int (zI (W.1 0))) C (lt_K hN (rfl : Nat.blt (11 + 1) 952 = true)) hay33 uy321 rfl inA_X8 0 (by decide) q_174 rfl rfl dX9_fall_51 ?_
      have hgy37 := (hfvy31 (4) (by omega)).trans ra6.1
      have hgy38 := (hfvy31 (4 + 1) (by omega)).trans ra6.2.1
      have hgy39 := (hfvy31 (4 + 2) (by omega)).trans ra6.2.2.1
      have hgy40 := (hfvy31 (4 + 3) (by omega)).trans ra6.2.2.2.1
      have hgy41 := (hfvy31 (4 + 4) (by omega)).trans ra6.2.2.2.2.1
      have hgy42 := (hfvy31 (4 + 5) (by omega)).trans ra6.2.2.2.2.2.1
      have hgy43 := (hfvy31 (4 + 6) (by omega)).trans ra6.2.2.2.2.2.2
      refine z_cV (As := [.int (zI (W.1 0))]) (rest := [.int (zI (z2)), .int (zI (z1)), .int (zI ((n : Int))), .ref (ad (11 + 1))]) (ci := 7) C (c_pairAt l D A cs tt N ad _ (4) (by omega) _ _ _ _ _ _ _ _ _ ⟨hgy37, hgy38, hgy39, hgy40, hgy41, hgy42, hgy43⟩ (by omega) (W.1 0) (by omega)) (lt_K hN (rfl : Nat.blt (4) 952 = true)) hay4 hgy37 rfl rfl mv_yX5_airAt q_545 hd_yX5_airAt (by decide) (Nat.le_of_ble_eq_true rfl) (by decide) dX9_fall_54 rfl (kI0 fun vy36 gvy36 hvy36 => ?_)
      obtain ⟨rfl, rfl⟩ := hvy36
      rw [← hair]
      have hz13 : 1 ≤ z1 ∧ z1 ≤ 3 := by omega
      have hzw9 : z1 = 1 ∨ z1 = 2 → 1 ≤ z2 ∧ z2 ≤ 50 := fun _ => by omega
      have mB1 : mB (W.1 0 + x) = 2400 + 50 * (W.1 0 + x) := rfl
      have eB1 : eB (W.1 0 + x) = 12000 + 139000 * (W.1 0 + x) := rfl
      have hnm9 := hok9.2.2.1
      refine z_cV (As := [.int (zI ((n : Int))), .int (zI (z1)), .int (zI (z2)), .int (zI (air))]) (rest := []) (ci := 10) C (c_wFall l D A cs tt N ad _ (11 + 1) (by omega) W hXvy31.2.1 n hn4 _ _ _ (hok9.1 n hn4).1 (by omega) (by omega) (by omega) z1 z2 air (by omega) hzw9 (by omega) (by omega)) (lt_K hN (rfl : Nat.blt (11 + 1) 952 = true)) hay33 uy321 rfl rfl mv_yX8_fallOn q_546 hd_yX8_fallOn (by decide) (Nat.le_of_ble_eq_true rfl) (by decide) dX9_fall_57 rfl (kV0 fun gvy44 hvy44 => ?_)
      obtain ⟨hwvy44, hfvy44⟩ := hvy44
      have hwvy44 : isWl cs ad gvy44 (11 + 1) (foW z1 z2 air n W) := hwvy44
      have hok2 : okWl (x + 1) (50 * (x + 1)) (foW z1 z2 air n W) := (hok9.fo hn4 (by omega) (by omega) hzw9 hab9).mono (Int.le_refl _) (by omega)
      obtain ⟨uy451, ⟨uy45u, uy452, uy453⟩, uy454⟩ := id hwvy44
      have hay46 : zAt ad (11 + 1) (ad (11 + 1)) := rfl
      have hay47 : zAt ad (11 + 1 + 1) (ad (11 + 1 + 1)) := rfl
      refine z_aload_n C 0 dX9_fall_60 rfl ?_
      have hgy48 := (hfvy44 (0) (by omega)).trans hgy35
      refine z_get (v := .ref (ad 11)) C (lt_K hN (rfl : Nat.blt (0) 952 = true)) hay1 hgy48 rfl inA_X9 5 (by decide) q_354 rfl rfl dX9_fall_61 ?_
      have hgy49 := (hfvy44 (11) (by omega)).trans hXvy31.1
      refine z_get (v := .ref (ad (11 + 1))) C (lt_K hN (rfl : Nat.blt (11) 952 = true)) hay5 hgy49 rfl inA_X6 0 (by decide) q_258 rfl rfl dX9_fall_64 ?_
      refine z_get (v := .ref (ad (11 + 1 + 1))) C (lt_K hN (rfl : Nat.blt (11 + 1) 952 = true)) hay46 uy451 rfl inA_X8 6 (by decide) q_191 rfl rfl dX9_fall_67 ?_
      refine z_iload_n C 1 dX9_fall_70 rfl ?_
      refine z_aald C (lt_K hN (rfl : Nat.blt (11 + 1 + 1) 952 = true)) hay47 uy452 3 rfl (n) (by omega) (by omega) (by decide) (uy453 n (by omega)) dX9_fall_71 ?_
      have hay50 : zAt ad (11 + 1 + 2 + 2 * n) (ad (11 + 1 + 2 + 2 * n)) := rfl
      have hay51 : zAt ad (11 + 1 + 2 + 2 * n + 1) (ad (11 + 1 + 2 + 2 * n + 1)) := rfl
      obtain ⟨⟨ny52, Ky53, roy54⟩, hSy55⟩ : ∃ S9 : SL9, S9 = (foW z1 z2 air n W).2 n := ⟨_, rfl⟩
      obtain ⟨ry56, hpy57, hCy58⟩ := (show isPk cs ad gvy44 (11 + 1 + 2 + 2 * n) (ny52, Ky53, roy54) by rw [hSy55]; exact (uy454 n (by omega)))
      have hpy57 : isPack cs ad gvy44 (11 + 1 + 2 + 2 * n) (ny52 : Int) roy54 ry56 := hpy57
      have hCy58 : ∀ j f, j < ny52 → f < 7 → ry56 (12 * f + j) = Ky53 (7 * j + f) := hCy58
      have hay59 : zAt ad (11 + 1 + 2 + 2 * n) (ad (11 + 1 + 2 + 2 * n)) := rfl
      have hay60 : zAt ad (11 + 1 + 2 + 2 * n + 1) (ad (11 + 1 + 2 + 2 * n + 1)) := rfl
      have hOy619 := (hok2.1 n hn4).1
      rw [← hSy55] at hOy619
      obtain ⟨hOy61, hry62, hmy63, hdy64, hagy65⟩ := id hOy619
      have hry62 : 0 ≤ roy54 := hry62
      have hmy63 : roy54 + sZ Ky53 ny52 ≤ _ := hmy63
      have hdy64 : dZ Ky53 ny52 ≤ _ := hdy64
      have hOy61 : okP Ky53 ny52 := hOy61
      have hsy66 := sZ_n hOy61 (k := ny52) (Nat.le_refl _)
      have hsy66n : ny52 ≤ 12 := hOy61.1
      have hagy65 : ∀ l, l < ny52 → Ky53 (7 * l + 5) ≤ _ := hagy65
      refine z_get (v := .int (zI ((ny52 : Int)))) C (by omega) hay59 hpy57.1 rfl inA_X3 0 (by decide) q_158 rfl rfl dX9_fall_72 ?_
      have hans9 : (ny52 : Int) = ((((foW z1 z2 air n W).2 n).1 : Nat) : Int) := by rw [← hSy55]
      have hE9 : falC ho ua ai nsl ((n : Int)) z1 z2 W na H = (((((foW z1 z2 air n W).2 n).1 : Nat) : Int), foW z1 z2 air n W, kpN na, kpH na H W) := by unfold falC; rw [← hair, Int.toNat_natCast]; exact if_pos (by omega)
      rw [hE9]
      have hfr9 : ∀ j, j < 11 + 1 ∨ 11 + 11 ≤ j → gvy44 j = gvy31 j := hfvy44
      have hwl9 : isWl cs ad gvy44 (11 + 1) (foW z1 z2 air n W) := hwvy44
      have hwn9 : ∀ s, s < 4 → ((foW z1 z2 air n W).2 s).1 ≤ 12 := hok2.n12
      have hS9 : okState cs ad gvy44 11 ((kpN na : Nat) : Int) nz := okState.now (i := 11) hSvy31 hfr9 (isWl.ok hwl9 hwn9 hok2.2.2.2)
      have hX9 := xKt.now (i := 11) hXvy31 hkn9 hfr9 hwl9
      have hfo9 : ∀ j, j < 11 ∨ 447 ≤ j → gvy44 j = g j := fun j j1 => (hfr9 j (by omega)).trans (hfvy31 j (by omega))
      exact z_iret C hr hlk dX9_fall_75 (by decide) (by decide) ⟨(ny52 : Int), rfl, rfl, rfl, by omega, okRec.st hR hfo9 hS9, ⟨hS9, _, Or.inr ⟨by omega, rfl⟩, hX9⟩, hfo9⟩
    · refine z_aload_n C 0 dX9_fall_17 rfl ?_
      refine z_iconst (z := 1) C dX9_fall_18 rfl ?_
      refine z_cV (As := [.int (zI (1))]) (rest := []) (ci := 11) C (c_qRefuse l D A cs tt N ad _ hN _ _ _ _ _ _ _ _ _ _ _ _ _ _ _ hR na H W P nu nv nw rf hS hXK 1 (by omega)) (lt_K hN (rfl : Nat.blt (0) 952 = true)) hay1 ra1 rfl rfl mv_yX9_refuse q_408 hd_yX9_refuse (by decide) (Nat.le_of_ble_eq_true rfl) (by decide) dX9_fall_19 rfl (kI0 fun vy67 gvy67 hvy67 => ?_)
      obtain ⟨rfl, ⟨hSvy67, hXvy67⟩, hfvy67⟩ := hvy67
      rw [show falC ho ua ai nsl ((n : Int)) z1 z2 W na H = (-1, W, na, H) from by unfold falC; rw [← hair]; exact if_neg (by omega)]
      exact z_iret C hr hlk dX9_fall_22 (by decide) (by decide) ⟨-1, rfl, rfl, rfl, by omega, okRec.st hR (fun j j1 => by rw [hfvy67 _ (by omega)]) hSvy67, ⟨hSvy67, _, Or.inl ⟨by omega, rfl⟩, hXvy67⟩, fun j j1 => by rw [hfvy67 _ (by omega)]⟩

set_option maxRecDepth 100000 in
set_option maxHeartbeats 4000000 in
theorem c_qFall_b (l : Launch) (D : va_G) (A : Nat → Prop) (cs : Nat → ClassId) (tt : Nat) (N : Nat) (ad : Nat → Nat) (g : Nat → va_E) (hN : 952 ≤ N) (t fp im nz kz sl ho ua : Int) (st op ai fa mu tb tp : Nat → Int) (hR : okRec cs ad g N t fp im nz kz sl ho ua st op ai fa mu tb tp) (na : Nat) (H : Nat → WL9) (W : WL9) (P : Nat → PT9) (nu nv nw rf : Nat → Int) (hS : okState cs ad g 11 (na : Int) nz) (hXK : xKt cs ad g 11 na H W P nz nu nv nw rf) (nsl : Nat) (hnsl : sl = (nsl : Int)) (hfc : okFc sl ho ua op ai fa mu tb) (x : Int) (hx : 0 ≤ x ∧ x ≤ 512) (hwx : okWx x W) (z : Int) (hz : -2147483648 ≤ z ∧ z ≤ 2147483647) (hzo : z < 0 ∨ 3 < z) (z1 : Int) (hz1 : -2147483648 ≤ z1 ∧ z1 ≤ 2147483647) (z2 : Int) (hz2 : -2147483648 ≤ z2 ∧ z2 ≤ 2147483647) : zM l yX9_fall cX9_fall 4 (some .int) ({ frames := 8, cells := 0, slots := 0, locals := 480 } : Room) D A cs tt N ad g [.ref (ad 0), .int (zI (z)), .int (zI (z1)), .int (zI (z2))] (rI0 N ad fun q g' => q = (falC ho ua ai nsl (z) z1 z2 W na H).1 ∧ okRec cs ad g' N t fp im nz kz sl ho ua st op ai fa mu tb tp ∧ (okState cs ad g' 11 (((falC ho ua ai nsl (z) z1 z2 W na H).2.2.1 : Nat) : Int) nz ∧ ∃ rf', ((q = -1 ∧ rf' = uZ rf 1 (rf 1 + 1)) ∨ (q ≠ -1 ∧ rf' = rf)) ∧ xKt cs ad g' 11 (falC ho ua ai nsl (z) z1 z2 W na H).2.2.1 (falC ho ua ai nsl (z) z1 z2 W na H).2.2.2 (falC ho ua ai nsl (z) z1 z2 W na H).2.1 P nz nu nv nw rf') ∧ ∀ j, j < 11 ∨ 447 ≤ j → g' j = g j) := by
  obtain ⟨ra1, ra2, ra3, -, -, ra6, ra7, ra8, -⟩ := id hR
  have hna := hS.2.1
  have hay1 : zAt ad (0) (ad 0) := rfl
  have hay2 : zAt ad (1) (ad 1) := rfl
  have hay3 : zAt ad (2) (ad 2) := rfl
  have hay4 : zAt ad (4) (ad 4) := rfl
  have hay5 : zAt ad (11) (ad 11) := rfl
  have hay6 : zAt ad (447) (ad 447) := rfl
  have hay7 : zAt ad (883) (ad 883) := rfl
  have hay8 : zAt ad (890) (ad 890) := rfl
  have hay9 : zAt ad (900) (ad 900) := rfl
  have hay10 : zAt ad (910) (ad 910) := rfl
  have hay11 : zAt ad (917) (ad 917) := rfl
  have hay12 : zAt ad (919) (ad 919) := rfl
  have hay13 : zAt ad (4 + 1) (ad (4 + 1)) := rfl
  have hay14 : zAt ad (4 + 2) (ad (4 + 2)) := rfl
  have hay15 : zAt ad (4 + 3) (ad (4 + 3)) := rfl
  have hay16 : zAt ad (4 + 4) (ad (4 + 4)) := rfl
  have hay17 : zAt ad (4 + 5) (ad (4 + 5)) := rfl
  have hay18 : zAt ad (4 + 6) (ad (4 + 6)) := rfl
  have hay19 : zAt ad (11 + 1) (ad (11 + 1)) := rfl
  have hay20 : zAt ad (11 + 11) (ad (11 + 11)) := rfl
  have hay21 : zAt ad (11 + 12) (ad (11 + 12)) := rfl
  have hay22 : zAt ad (11 + 13) (ad (11 + 13)) := rfl
  have hay23 : zAt ad (11 + 17) (ad (11 + 17)) := rfl
  obtain ⟨u1, ⟨uu, u2, u3⟩, u4⟩ := id hXK.2.1
  have hay24 : zAt ad (11 + 1) (ad (11 + 1)) := rfl
  have hay25 : zAt ad (11 + 1 + 1) (ad (11 + 1 + 1)) := rfl
  have hok9 := hwx.1
  have ht9 := hwx.2
  have ht8 := hok9.2.1
  have hns4 : nsl ≤ 4 := by omega
  refine z_of (by decide) (Nat.le_of_ble_eq_true rfl) ?_
  intro pY eY sY mY below meth cY C hr hlk hnm
  refine z_lv (lv' := [(0, .ref (ad 0)), (1, .int (zI (z))), (2, .int (zI (z1))), (3, .int (zI (z2)))]) [0, 1, 2, 3] rfl ?_
  refine z_aload_n C 0 dX9_fall_0 rfl ?_
  refine z_iload_n C 1 dX9_fall_1 rfl ?_
  refine z_cV (As := [.int (zI (z))]) (rest := []) (ci := 11) C (c_X9_isSlope l D A cs tt N ad _ hN _ _ _ _ _ _ _ _ _ _ _ _ _ _ _ hR (z) (by omega)) (lt_K hN (rfl : Nat.blt (0) 952 = true)) hay1 ra1 rfl rfl mv_yX9_isSlope q_537 hd_yX9_isSlope (by decide) (Nat.le_of_ble_eq_true rfl) (by decide) dX9_fall_2 rfl (kI0 fun vy26 gvy26 hvy26 => ?_)
  obtain ⟨hvy26, rfl⟩ := hvy26
  have hbvy26 : (vy26 = 1 ∧ 0 ≤ z ∧ z < sl) ∨ (vy26 = 0 ∧ ¬ (0 ≤ z ∧ z < sl)) := by rw [hvy26]; by_cases e9 : 0 ≤ z ∧ z < sl; (rw [if_pos e9]; exact Or.inl ⟨rfl, e9⟩); (rw [if_neg e9]; exact Or.inr ⟨rfl, e9⟩)
  obtain rfl : vy26 = 0 := by omega
  refine z_if_eq (tgt := 17) C dX9_fall_5 (by decide) (by omega) (fun _ => ?_) (fun h => absurd h (by omega))
  refine z_aload_n C 0 dX9_fall_17 rfl ?_
  refine z_iconst (z := 1) C dX9_fall_18 rfl ?_
  refine z_cV (As := [.int (zI (1))]) (rest := []) (ci := 11) C (c_qRefuse l D A cs tt N ad _ hN _ _ _ _ _ _ _ _ _ _ _ _ _ _ _ hR na H W P nu nv nw rf hS hXK 1 (by omega)) (lt_K hN (rfl : Nat.blt (0) 952 = true)) hay1 ra1 rfl rfl mv_yX9_refuse q_408 hd_yX9_refuse (by decide) (Nat.le_of_ble_eq_true rfl) (by decide) dX9_fall_19 rfl (kI0 fun vy27 gvy27 hvy27 => ?_)
  obtain ⟨rfl, ⟨hSvy27, hXvy27⟩, hfvy27⟩ := hvy27
  rw [show falC ho ua ai nsl (z) z1 z2 W na H = (-1, W, na, H) from if_neg (by omega)]
  exact z_iret C hr hlk dX9_fall_22 (by decide) (by decide) ⟨-1, rfl, rfl, rfl, by omega, okRec.st hR (fun j j1 => by rw [hfvy27 _ (by omega)]) hSvy27, ⟨hSvy27, _, Or.inl ⟨by omega, rfl⟩, hXvy27⟩, fun j j1 => by rw [hfvy27 _ (by omega)]⟩

set_option maxRecDepth 100000 in
set_option maxHeartbeats 4000000 in
theorem c_qFall (l : Launch) (D : va_G) (A : Nat → Prop) (cs : Nat → ClassId) (tt : Nat) (N : Nat) (ad : Nat → Nat) (g : Nat → va_E) (hN : 952 ≤ N) (t fp im nz kz sl ho ua : Int) (st op ai fa mu tb tp : Nat → Int) (hR : okRec cs ad g N t fp im nz kz sl ho ua st op ai fa mu tb tp) (na : Nat) (H : Nat → WL9) (W : WL9) (P : Nat → PT9) (nu nv nw rf : Nat → Int) (hS : okState cs ad g 11 (na : Int) nz) (hXK : xKt cs ad g 11 na H W P nz nu nv nw rf) (nsl : Nat) (hnsl : sl = (nsl : Int)) (hfc : okFc sl ho ua op ai fa mu tb) (x : Int) (hx : 0 ≤ x ∧ x ≤ 512) (hwx : okWx x W) (z : Int) (hz : -2147483648 ≤ z ∧ z ≤ 2147483647) (z1 : Int) (hz1 : -2147483648 ≤ z1 ∧ z1 ≤ 2147483647) (z2 : Int) (hz2 : -2147483648 ≤ z2 ∧ z2 ≤ 2147483647) : zM l yX9_fall cX9_fall 4 (some .int) ({ frames := 8, cells := 0, slots := 0, locals := 480 } : Room) D A cs tt N ad g [.ref (ad 0), .int (zI (z)), .int (zI (z1)), .int (zI (z2))] (rI0 N ad fun q g' => q = (falC ho ua ai nsl (z) z1 z2 W na H).1 ∧ okRec cs ad g' N t fp im nz kz sl ho ua st op ai fa mu tb tp ∧ (okState cs ad g' 11 (((falC ho ua ai nsl (z) z1 z2 W na H).2.2.1 : Nat) : Int) nz ∧ ∃ rf', ((q = -1 ∧ rf' = uZ rf 1 (rf 1 + 1)) ∨ (q ≠ -1 ∧ rf' = rf)) ∧ xKt cs ad g' 11 (falC ho ua ai nsl (z) z1 z2 W na H).2.2.1 (falC ho ua ai nsl (z) z1 z2 W na H).2.2.2 (falC ho ua ai nsl (z) z1 z2 W na H).2.1 P nz nu nv nw rf') ∧ ∀ j, j < 11 ∨ 447 ≤ j → g' j = g j) := by
  by_cases h9 : 0 ≤ z ∧ z ≤ 3
  · obtain ⟨n, rfl⟩ : ∃ n : Nat, z = (n : Int) := ⟨z.toNat, by omega⟩
    exact c_qFall_a l D A cs tt N ad g hN t fp im nz kz sl ho ua st op ai fa mu tb tp hR na H W P nu nv nw rf hS hXK nsl hnsl hfc x hx hwx  n (by omega) z1 hz1 z2 hz2
  · exact c_qFall_b l D A cs tt N ad g hN t fp im nz kz sl ho ua st op ai fa mu tb tp hR na H W P nu nv nw rf hS hXK nsl hnsl hfc x hx hwx  z hz (by omega) z1 hz1 z2 hz2

set_option maxRecDepth 100000 in
set_option maxHeartbeats 4000000 in
theorem c_qSlide_a (l : Launch) (D : va_G) (A : Nat → Prop) (cs : Nat → ClassId) (tt : Nat) (N : Nat) (ad : Nat → Nat) (g : Nat → va_E) (hN : 952 ≤ N) (t fp im nz kz sl ho ua : Int) (st op ai fa mu tb tp : Nat → Int) (hR : okRec cs ad g N t fp im nz kz sl ho ua st op ai fa mu tb tp) (na : Nat) (H : Nat → WL9) (W : WL9) (P : Nat → PT9) (nu nv nw rf : Nat → Int) (hS : okState cs ad g 11 (na : Int) nz) (hXK : xKt cs ad g 11 na H W P nz nu nv nw rf) (nsl : Nat) (hnsl : sl = (nsl : Int)) (hfc : okFc sl ho ua op ai fa mu tb) (x : Int) (hx : 0 ≤ x ∧ x ≤ 512) (hwx : okWx x W) (hst9 : ∀ k : Nat, (k : Int) < sl → 0 ≤ st k ∧ st k ≤ 90) (n : Nat) (hn4 : n < 4) : zM l yX9_slide cX9_slide 2 (some .int) ({ frames := 8, cells := 0, slots := 0, locals := 480 } : Room) D A cs tt N ad g [.ref (ad 0), .int (zI ((n : Int)))] (rI0 N ad fun q g' => ∃ (W' : WL9) (na' : Nat) (H' : Nat → WL9), sldA st tb nsl ((n : Int)) W na H q W' na' H' ∧ okRec cs ad g' N t fp im nz kz sl ho ua st op ai fa mu tb tp ∧ (okState cs ad g' 11 ((na' : Nat) : Int) nz ∧ ∃ rf', ((q = -1 ∧ rf' = uZ rf 1 (rf 1 + 1)) ∨ (q ≠ -1 ∧ rf' = rf)) ∧ xKt cs ad g' 11 na' H' W' P nz nu nv nw rf') ∧ ∀ j, j < 11 ∨ 447 ≤ j → g' j = g j) := by
  obtain ⟨ra1, ra2, ra3, -, -, ra6, ra7, ra8, -⟩ := id hR
  have hna := hS.2.1
  have hay1 : zAt ad (0) (ad 0) := rfl
  have hay2 : zAt ad (1) (ad 1) := rfl
  have hay3 : zAt ad (2) (ad 2) := rfl
  have hay4 : zAt ad (4) (ad 4) := rfl
  have hay5 : zAt ad (11) (ad 11) := rfl
  have hay6 : zAt ad (447) (ad 447) := rfl
  have hay7 : zAt ad (883) (ad 883) := rfl
  have hay8 : zAt ad (890) (ad 890) := rfl
  have hay9 : zAt ad (900) (ad 900) := rfl
  have hay10 : zAt ad (910) (ad 910) := rfl
  have hay11 : zAt ad (917) (ad 917) := rfl
  have hay12 : zAt ad (919) (ad 919) := rfl
  have hay13 : zAt ad (4 + 1) (ad (4 + 1)) := rfl
  have hay14 : zAt ad (4 + 2) (ad (4 + 2)) := rfl
  have hay15 : zAt ad (4 + 3) (ad (4 + 3)) := rfl
  have hay16 : zAt ad (4 + 4) (ad (4 + 4)) := rfl
  have hay17 : zAt ad (4 + 5) (ad (4 + 5)) := rfl
  have hay18 : zAt ad (4 + 6) (ad (4 + 6)) := rfl
  have hay19 : zAt ad (11 + 1) (ad (11 + 1)) := rfl
  have hay20 : zAt ad (11 + 11) (ad (11 + 11)) := rfl
  have hay21 : zAt ad (11 + 12) (ad (11 + 12)) := rfl
  have hay22 : zAt ad (11 + 13) (ad (11 + 13)) := rfl
  have hay23 : zAt ad (11 + 17) (ad (11 + 17)) := rfl
  obtain ⟨u1, ⟨uu, u2, u3⟩, u4⟩ := id hXK.2.1
  have hay24 : zAt ad (11 + 1) (ad (11 + 1)) := rfl
  have hay25 : zAt ad (11 + 1 + 1) (ad (11 + 1 + 1)) := rfl
  have hok9 := hwx.1
  have ht9 := hwx.2
  have ht8 := hok9.2.1
  have hns4 : nsl ≤ 4 := by omega
  have hOn := (hok9.1 n hn4).1.1
  have hn12 := hok9.n12 n hn4
  refine z_of (by decide) (Nat.le_of_ble_eq_true rfl) ?_
  intro pY eY sY mY below meth cY C hr hlk hnm
  refine z_lv (lv' := [(0, .ref (ad 0)), (1, .int (zI ((n : Int))))]) [0, 1] rfl ?_
  refine z_aload_n C 0 dX9_slide_0 rfl ?_
  refine z_iload_n C 1 dX9_slide_1 rfl ?_
  refine z_cV (As := [.int (zI ((n : Int)))]) (rest := []) (ci := 11) C (c_X9_isSlope l D A cs tt N ad _ hN _ _ _ _ _ _ _ _ _ _ _ _ _ _ _ hR ((n : Int)) (by omega)) (lt_K hN (rfl : Nat.blt (0) 952 = true)) hay1 ra1 rfl rfl mv_yX9_isSlope q_537 hd_yX9_isSlope (by decide) (Nat.le_of_ble_eq_true rfl) (by decide) dX9_slide_2 rfl (kI0 fun vy26 gvy26 hvy26 => ?_)
  obtain ⟨hvy26, rfl⟩ := hvy26
  have hbvy26 : (vy26 = 1 ∧ 0 ≤ (n : Int) ∧ (n : Int) < sl) ∨ (vy26 = 0 ∧ ¬ (0 ≤ (n : Int) ∧ (n : Int) < sl)) := by rw [hvy26]; by_cases e9 : 0 ≤ (n : Int) ∧ (n : Int) < sl; (rw [if_pos e9]; exact Or.inl ⟨rfl, e9⟩); (rw [if_neg e9]; exact Or.inr ⟨rfl, e9⟩)
  refine z_if_eq (tgt := 23) C dX9_slide_5 (by decide) (by omega) (fun hby27 => ?_) (fun hby27 => ?_)
  · refine z_aload_n C 0 dX9_slide_23 rfl ?_
    refine z_iconst (z := 1) C dX9_slide_24 rfl ?_
    refine z_cV (As := [.int (zI (1))]) (rest := []) (ci := 11) C (c_qRefuse l D A cs tt N ad _ hN _ _ _ _ _ _ _ _ _ _ _ _ _ _ _ hR na H W P nu nv nw rf hS hXK 1 (by omega)) (lt_K hN (rfl : Nat.blt (0) 952 = true)) hay1 ra1 rfl rfl mv_yX9_refuse q_408 hd_yX9_refuse (by decide) (Nat.le_of_ble_eq_true rfl) (by decide) dX9_slide_25 rfl (kI0 fun vy28 gvy28 hvy28 => ?_)
    obtain ⟨rfl, ⟨hSvy28, hXvy28⟩, hfvy28⟩ := hvy28
    exact z_iret C hr hlk dX9_slide_28 (by decide) (by decide) ⟨-1, rfl, rfl, rfl, W, na, H, Or.inl ⟨Or.inl (by omega), by omega, rfl, rfl, rfl⟩, okRec.st hR (fun j j1 => by rw [hfvy28 _ (by omega)]) hSvy28, ⟨hSvy28, _, Or.inl ⟨by omega, rfl⟩, hXvy28⟩, fun j j1 => by rw [hfvy28 _ (by omega)]⟩
  · refine z_aload_n C 0 dX9_slide_8 rfl ?_
    refine z_aload_n C 0 dX9_slide_9 rfl ?_
    refine z_get (v := .ref (ad 11)) C (lt_K hN (rfl : Nat.blt (0) 952 = true)) hay1 ra1 rfl inA_X9 5 (by decide) q_354 rfl rfl dX9_slide_10 ?_
    refine z_get (v := .ref (ad (11 + 1))) C (lt_K hN (rfl : Nat.blt (11) 952 = true)) hay5 hXK.1 rfl inA_X6 0 (by decide) q_258 rfl rfl dX9_slide_13 ?_
    refine z_iload_n C 1 dX9_slide_16 rfl ?_
    refine z_cV (As := [.ref (ad (11 + 1)), .int (zI ((n : Int)))]) (rest := []) (ci := 11) C (c_qUns l D A cs tt N ad _ hN _ _ _ _ _ _ _ _ _ _ _ _ _ _ _ hR na H W P nu nv nw rf hS hXK nsl hnsl hfc x hx hwx hst9 n hn4 (by omega)) (lt_K hN (rfl : Nat.blt (0) 952 = true)) hay1 ra1 rfl rfl mv_yX9_isUnstable q_560 hd_yX9_isUnstable (by decide) (Nat.le_of_ble_eq_true rfl) (by decide) dX9_slide_17 rfl (kI0 fun vy29 gvy29 hvy29 => ?_)
    obtain ⟨⟨lr9, hl9, hu9⟩, rfl⟩ := hvy29
    refine z_if_ne (tgt := 29) C dX9_slide_20 (by decide) (by omega) (fun hby30 => ?_) (fun hby30 => ?_)
    · refine z_aload_n C 0 dX9_slide_29 rfl ?_
      refine z_get (v := .ref (ad 11)) C (lt_K hN (rfl : Nat.blt (0) 952 = true)) hay1 ra1 rfl inA_X9 5 (by decide) q_354 rfl rfl dX9_slide_30 ?_
      refine z_cV (As := []) (rest := []) (ci := 8) C (c_qKeep l D A cs tt N ad _ 11 (by omega) na _ H W P nu nv nw rf hS hXK) (lt_K hN (rfl : Nat.blt (11) 952 = true)) hay5 hXK.1 rfl rfl mv_yX6_keepAct q_412 hd_yX6_keepAct (by decide) (Nat.le_of_ble_eq_true rfl) (by decide) dX9_slide_33 rfl (kV0 fun gvy31 hvy31 => ?_)
      obtain ⟨hSvy31, hXvy31, hfvy31⟩ := hvy31
      obtain ⟨uy321, ⟨uy32u, uy322, uy323⟩, uy324⟩ := id hXvy31.2.1
      have hay33 : zAt ad (11 + 1) (ad (11 + 1)) := rfl
      have hay34 : zAt ad (11 + 1 + 1) (ad (11 + 1 + 1)) := rfl
      have hkn9 : kpN na ≤ 40 := by unfold kpN; split <;> omega
      refine z_aload_n C 0 dX9_slide_36 rfl ?_
      have hgy35 := (hfvy31 (0) (by omega)).trans ra1
      refine z_get (v := .ref (ad 11)) C (lt_K hN (rfl : Nat.blt (0) 952 = true)) hay1 hgy35 rfl inA_X9 5 (by decide) q_354 rfl rfl dX9_slide_37 ?_
      refine z_get (v := .ref (ad (11 + 1))) C (lt_K hN (rfl : Nat.blt (11) 952 = true)) hay5 hXvy31.1 rfl inA_X6 0 (by decide) q_258 rfl rfl dX9_slide_40 ?_
      refine z_iload_n C 1 dX9_slide_43 rfl ?_
      refine z_aload_n C 0 dX9_slide_44 rfl ?_
      refine z_get (v := .ref (ad 4)) C (lt_K hN (rfl : Nat.blt (0) 952 = true)) hay1 hgy35 rfl inA_X9 4 (by decide) q_353 rfl rfl dX9_slide_45 ?_
      have ht : okTb tb := hfc.2.2.2.2.2
      have hst := hst9 n (by omega)
      have hXn : okX (W.2 n).2.1 (W.2 n).1 := (hok9.1 n hn4).2.x (by omega)
      have hl90 : lr9 < 100 := by omega
      have hn0 : 0 < (W.2 n).1 := by rcases hl9 with ⟨a9, b9⟩ | ⟨k9, a9, -⟩ <;> omega
      obtain ⟨wk, hwk⟩ := isWk_ex (more := 0) (steep := st n) ht hOn hXn (by decide) hst hn0
      have hwn : wk < (W.2 n).1 := by rcases hwk with ⟨a9, b9⟩ | ⟨k9, a9, b9, -⟩ <;> omega
      have hgy37 := (hfvy31 (4) (by omega)).trans ra6.1
      have hgy38 := (hfvy31 (4 + 1) (by omega)).trans ra6.2.1
      have hgy39 := (hfvy31 (4 + 2) (by omega)).trans ra6.2.2.1
      have hgy40 := (hfvy31 (4 + 3) (by omega)).trans ra6.2.2.2.1
      have hgy41 := (hfvy31 (4 + 4) (by omega)).trans ra6.2.2.2.2.1
      have hgy42 := (hfvy31 (4 + 5) (by omega)).trans ra6.2.2.2.2.2.1
      have hgy43 := (hfvy31 (4 + 6) (by omega)).trans ra6.2.2.2.2.2.2
      refine z_cV (As := [.int (zI ((n : Int))), .ref (ad 4)]) (rest := []) (ci := 10) C (c_wSlide l D A cs tt N ad _ (11 + 1) (by omega) W hXvy31.2.1 4 (by omega) _ _ _ _ _ _ _ _ _ ⟨hgy37, hgy38, hgy39, hgy40, hgy41, hgy42, hgy43⟩ (by omega) ht n hn4 hst hOn hXn wk hwk) (lt_K hN (rfl : Nat.blt (11 + 1) 952 = true)) hay33 uy321 rfl rfl mv_yX8_slideOn q_586 hd_yX8_slideOn (by decide) (Nat.le_of_ble_eq_true rfl) (by decide) dX9_slide_48 rfl (kI0 fun vy36 gvy36 hvy36 => ?_)
      obtain ⟨⟨rfl, hwvy36⟩, hfvy36⟩ := hvy36
      have hok2 : okWl (x + 1) (50 * (x + 1)) (slW W n wk) := (hok9.sd hn4 hwn).mono (by omega) (by omega)
      have hfr9 : ∀ j, j < 11 + 1 ∨ 11 + 11 ≤ j → gvy36 j = gvy31 j := hfvy36
      have hwn9 : ∀ s, s < 4 → ((slW W n wk).2 s).1 ≤ 12 := hok2.n12
      have hS9 : okState cs ad gvy36 11 ((kpN na : Nat) : Int) nz := okState.now (i := 11) hSvy31 hfr9 (isWl.ok hwvy36 hwn9 hok2.2.2.2)
      have hX9 := xKt.now (i := 11) hXvy31 hkn9 hfr9 hwvy36
      have hfo9 : ∀ j, j < 11 ∨ 447 ≤ j → gvy36 j = g j := fun j j1 => (hfr9 j (by omega)).trans (hfvy31 j (by omega))
      exact z_iret C hr hlk dX9_slide_51 (by decide) (by decide) ⟨(((W.2 n).1 : Int) - 1 - (wk : Int)), rfl, rfl, rfl, slW W n wk, kpN na, kpH na H W, Or.inr ⟨by omega, ⟨lr9, by rw [Int.toNat_natCast]; exact hl9, hl90⟩, wk, by rw [Int.toNat_natCast]; exact hwk, by rw [Int.toNat_natCast], by rw [Int.toNat_natCast], rfl, rfl⟩, okRec.st hR hfo9 hS9, ⟨hS9, _, Or.inr ⟨by omega, rfl⟩, hX9⟩, hfo9⟩
    · refine z_aload_n C 0 dX9_slide_23 rfl ?_
      refine z_iconst (z := 1) C dX9_slide_24 rfl ?_
      refine z_cV (As := [.int (zI (1))]) (rest := []) (ci := 11) C (c_qRefuse l D A cs tt N ad _ hN _ _ _ _ _ _ _ _ _ _ _ _ _ _ _ hR na H W P nu nv nw rf hS hXK 1 (by omega)) (lt_K hN (rfl : Nat.blt (0) 952 = true)) hay1 ra1 rfl rfl mv_yX9_refuse q_408 hd_yX9_refuse (by decide) (Nat.le_of_ble_eq_true rfl) (by decide) dX9_slide_25 rfl (kI0 fun vy44 gvy44 hvy44 => ?_)
      obtain ⟨rfl, ⟨hSvy44, hXvy44⟩, hfvy44⟩ := hvy44
      exact z_iret C hr hlk dX9_slide_28 (by decide) (by decide) ⟨-1, rfl, rfl, rfl, W, na, H, Or.inl ⟨Or.inr ⟨lr9, by rw [Int.toNat_natCast]; exact hl9, by omega⟩, by omega, rfl, rfl, rfl⟩, okRec.st hR (fun j j1 => by rw [hfvy44 _ (by omega)]) hSvy44, ⟨hSvy44, _, Or.inl ⟨by omega, rfl⟩, hXvy44⟩, fun j j1 => by rw [hfvy44 _ (by omega)]⟩

set_option maxRecDepth 100000 in
set_option maxHeartbeats 4000000 in
theorem c_qSlide_b (l : Launch) (D : va_G) (A : Nat → Prop) (cs : Nat → ClassId) (tt : Nat) (N : Nat) (ad : Nat → Nat) (g : Nat → va_E) (hN : 952 ≤ N) (t fp im nz kz sl ho ua : Int) (st op ai fa mu tb tp : Nat → Int) (hR : okRec cs ad g N t fp im nz kz sl ho ua st op ai fa mu tb tp) (na : Nat) (H : Nat → WL9) (W : WL9) (P : Nat → PT9) (nu nv nw rf : Nat → Int) (hS : okState cs ad g 11 (na : Int) nz) (hXK : xKt cs ad g 11 na H W P nz nu nv nw rf) (nsl : Nat) (hnsl : sl = (nsl : Int)) (hfc : okFc sl ho ua op ai fa mu tb) (x : Int) (hx : 0 ≤ x ∧ x ≤ 512) (hwx : okWx x W) (hst9 : ∀ k : Nat, (k : Int) < sl → 0 ≤ st k ∧ st k ≤ 90) (z : Int) (hz : -2147483648 ≤ z ∧ z ≤ 2147483647) (hzo : z < 0 ∨ 3 < z) : zM l yX9_slide cX9_slide 2 (some .int) ({ frames := 8, cells := 0, slots := 0, locals := 480 } : Room) D A cs tt N ad g [.ref (ad 0), .int (zI (z))] (rI0 N ad fun q g' => ∃ (W' : WL9) (na' : Nat) (H' : Nat → WL9), sldA st tb nsl (z) W na H q W' na' H' ∧ okRec cs ad g' N t fp im nz kz sl ho ua st op ai fa mu tb tp ∧ (okState cs ad g' 11 ((na' : Nat) : Int) nz ∧ ∃ rf', ((q = -1 ∧ rf' = uZ rf 1 (rf 1 + 1)) ∨ (q ≠ -1 ∧ rf' = rf)) ∧ xKt cs ad g' 11 na' H' W' P nz nu nv nw rf') ∧ ∀ j, j < 11 ∨ 447 ≤ j → g' j = g j) := by
  obtain ⟨ra1, ra2, ra3, -, -, ra6, ra7, ra8, -⟩ := id hR
  have hna := hS.2.1
  have hay1 : zAt ad (0) (ad 0) := rfl
  have hay2 : zAt ad (1) (ad 1) := rfl
  have hay3 : zAt ad (2) (ad 2) := rfl
  have hay4 : zAt ad (4) (ad 4) := rfl
  have hay5 : zAt ad (11) (ad 11) := rfl
  have hay6 : zAt ad (447) (ad 447) := rfl
  have hay7 : zAt ad (883) (ad 883) := rfl
  have hay8 : zAt ad (890) (ad 890) := rfl
  have hay9 : zAt ad (900) (ad 900) := rfl
  have hay10 : zAt ad (910) (ad 910) := rfl
  have hay11 : zAt ad (917) (ad 917) := rfl
  have hay12 : zAt ad (919) (ad 919) := rfl
  have hay13 : zAt ad (4 + 1) (ad (4 + 1)) := rfl
  have hay14 : zAt ad (4 + 2) (ad (4 + 2)) := rfl
  have hay15 : zAt ad (4 + 3) (ad (4 + 3)) := rfl
  have hay16 : zAt ad (4 + 4) (ad (4 + 4)) := rfl
  have hay17 : zAt ad (4 + 5) (ad (4 + 5)) := rfl
  have hay18 : zAt ad (4 + 6) (ad (4 + 6)) := rfl
  have hay19 : zAt ad (11 + 1) (ad (11 + 1)) := rfl
  have hay20 : zAt ad (11 + 11) (ad (11 + 11)) := rfl
  have hay21 : zAt ad (11 + 12) (ad (11 + 12)) := rfl
  have hay22 : zAt ad (11 + 13) (ad (11 + 13)) := rfl
  have hay23 : zAt ad (11 + 17) (ad (11 + 17)) := rfl
  obtain ⟨u1, ⟨uu, u2, u3⟩, u4⟩ := id hXK.2.1
  have hay24 : zAt ad (11 + 1) (ad (11 + 1)) := rfl
  have hay25 : zAt ad (11 + 1 + 1) (ad (11 + 1 + 1)) := rfl
  have hok9 := hwx.1
  have ht9 := hwx.2
  have ht8 := hok9.2.1
  have hns4 : nsl ≤ 4 := by omega
  refine z_of (by decide) (Nat.le_of_ble_eq_true rfl) ?_
  intro pY eY sY mY below meth cY C hr hlk hnm
  refine z_lv (lv' := [(0, .ref (ad 0)), (1, .int (zI (z)))]) [0, 1] rfl ?_
  refine z_aload_n C 0 dX9_slide_0 rfl ?_
  refine z_iload_n C 1 dX9_slide_1 rfl ?_
  refine z_cV (As := [.int (zI (z))]) (rest := []) (ci := 11) C (c_X9_isSlope l D A cs tt N ad _ hN _ _ _ _ _ _ _ _ _ _ _ _ _ _ _ hR (z) (by omega)) (lt_K hN (rfl : Nat.blt (0) 952 = true)) hay1 ra1 rfl rfl mv_yX9_isSlope q_537 hd_yX9_isSlope (by decide) (Nat.le_of_ble_eq_true rfl) (by decide) dX9_slide_2 rfl (kI0 fun vy26 gvy26 hvy26 => ?_)
  obtain ⟨hvy26, rfl⟩ := hvy26
  have hbvy26 : (vy26 = 1 ∧ 0 ≤ z ∧ z < sl) ∨ (vy26 = 0 ∧ ¬ (0 ≤ z ∧ z < sl)) := by rw [hvy26]; by_cases e9 : 0 ≤ z ∧ z < sl; (rw [if_pos e9]; exact Or.inl ⟨rfl, e9⟩); (rw [if_neg e9]; exact Or.inr ⟨rfl, e9⟩)
  obtain rfl : vy26 = 0 := by omega
  refine z_if_eq (tgt := 23) C dX9_slide_5 (by decide) (by omega) (fun _ => ?_) (fun h => absurd h (by omega))
  refine z_aload_n C 0 dX9_slide_23 rfl ?_
  refine z_iconst (z := 1) C dX9_slide_24 rfl ?_
  refine z_cV (As := [.int (zI (1))]) (rest := []) (ci := 11) C (c_qRefuse l D A cs tt N ad _ hN _ _ _ _ _ _ _ _ _ _ _ _ _ _ _ hR na H W P nu nv nw rf hS hXK 1 (by omega)) (lt_K hN (rfl : Nat.blt (0) 952 = true)) hay1 ra1 rfl rfl mv_yX9_refuse q_408 hd_yX9_refuse (by decide) (Nat.le_of_ble_eq_true rfl) (by decide) dX9_slide_25 rfl (kI0 fun vy27 gvy27 hvy27 => ?_)
  obtain ⟨rfl, ⟨hSvy27, hXvy27⟩, hfvy27⟩ := hvy27
  exact z_iret C hr hlk dX9_slide_28 (by decide) (by decide) ⟨-1, rfl, rfl, rfl, W, na, H, Or.inl ⟨Or.inl (by omega), by omega, rfl, rfl, rfl⟩, okRec.st hR (fun j j1 => by rw [hfvy27 _ (by omega)]) hSvy27, ⟨hSvy27, _, Or.inl ⟨by omega, rfl⟩, hXvy27⟩, fun j j1 => by rw [hfvy27 _ (by omega)]⟩

set_option maxRecDepth 100000 in
set_option maxHeartbeats 4000000 in
theorem c_qSlide (l : Launch) (D : va_G) (A : Nat → Prop) (cs : Nat → ClassId) (tt : Nat) (N : Nat) (ad : Nat → Nat) (g : Nat → va_E) (hN : 952 ≤ N) (t fp im nz kz sl ho ua : Int) (st op ai fa mu tb tp : Nat → Int) (hR : okRec cs ad g N t fp im nz kz sl ho ua st op ai fa mu tb tp) (na : Nat) (H : Nat → WL9) (W : WL9) (P : Nat → PT9) (nu nv nw rf : Nat → Int) (hS : okState cs ad g 11 (na : Int) nz) (hXK : xKt cs ad g 11 na H W P nz nu nv nw rf) (nsl : Nat) (hnsl : sl = (nsl : Int)) (hfc : okFc sl ho ua op ai fa mu tb) (x : Int) (hx : 0 ≤ x ∧ x ≤ 512) (hwx : okWx x W) (hst9 : ∀ k : Nat, (k : Int) < sl → 0 ≤ st k ∧ st k ≤ 90) (z : Int) (hz : -2147483648 ≤ z ∧ z ≤ 2147483647) : zM l yX9_slide cX9_slide 2 (some .int) ({ frames := 8, cells := 0, slots := 0, locals := 480 } : Room) D A cs tt N ad g [.ref (ad 0), .int (zI (z))] (rI0 N ad fun q g' => ∃ (W' : WL9) (na' : Nat) (H' : Nat → WL9), sldA st tb nsl (z) W na H q W' na' H' ∧ okRec cs ad g' N t fp im nz kz sl ho ua st op ai fa mu tb tp ∧ (okState cs ad g' 11 ((na' : Nat) : Int) nz ∧ ∃ rf', ((q = -1 ∧ rf' = uZ rf 1 (rf 1 + 1)) ∨ (q ≠ -1 ∧ rf' = rf)) ∧ xKt cs ad g' 11 na' H' W' P nz nu nv nw rf') ∧ ∀ j, j < 11 ∨ 447 ≤ j → g' j = g j) := by
  by_cases h9 : 0 ≤ z ∧ z ≤ 3
  · obtain ⟨n, rfl⟩ : ∃ n : Nat, z = (n : Int) := ⟨z.toNat, by omega⟩
    exact c_qSlide_a l D A cs tt N ad g hN t fp im nz kz sl ho ua st op ai fa mu tb tp hR na H W P nu nv nw rf hS hXK nsl hnsl hfc x hx hwx hst9 n (by omega) 
  · exact c_qSlide_b l D A cs tt N ad g hN t fp im nz kz sl ho ua st op ai fa mu tb tp hR na H W P nu nv nw rf hS hXK nsl hnsl hfc x hx hwx hst9 z hz (by omega) 
end
section
-- 9m1.words.lean.txt
-- words of qp
theorem q_602 : (Jvm.Cond.methodLink "SnowRecorder" (294 : Nat) ({ cls := "SnowRecorder$State", name := "keepPit", desc := "(I)V" } : Jvm.MethodName)) ∈ AW := AW_m3 122 (by decide +kernel) (by decide +kernel)
theorem q_603 : (Jvm.Cond.instanceMethod ({ cls := "SnowRecorder$State", name := "keepPit", desc := "(I)V" } : Jvm.MethodName)) ∈ AW := AW_m3 123 (by decide +kernel) (by decide +kernel)
theorem q_604 : (Jvm.Cond.selects "SnowRecorder$State" ({ cls := "SnowRecorder$State", name := "keepPit", desc := "(I)V" } : Jvm.MethodName) ({ cls := "SnowRecorder$State", name := "keepPit", desc := "(I)V" } : Jvm.MethodName)) ∈ AW := AW_m3 124 (by decide +kernel) (by decide +kernel)
theorem q_605 : (Jvm.Cond.code ({ cls := "SnowRecorder$State", name := "keepPit", desc := "(I)V" } : Jvm.MethodName) prog_8_method_7_code (3 : Nat) (Option.none : Option Jvm.ClassFile.FieldType)) ∈ AW := AW_m3 125 (by decide +kernel) (by decide +kernel)
theorem hd_yX6_keepPit : yX6_keepPit.cls ≠ "java/lang/invoke/MethodHandle" ∧ yX6_keepPit.cls ≠ "java/lang/invoke/VarHandle" ∧ (parseMethodDescriptor yX6_keepPit.desc).map (fun d => d.parameters.length) = some 1 := by decide +kernel
theorem mv_yX6_keepPit : zWv yX6_keepPit cX6_keepPit 3 none := ⟨q_603, q_604, q_4, q_605⟩
end
section
-- 9m2.dec.lean.txt
-- decode rows of qp
theorem dX9_pit_0 : decode cX9_pit 0 = .ok (.aload_n 0, 1) := by decide +kernel
theorem dX9_pit_1 : decode cX9_pit 1 = .ok (.iload_n 1, 1) := by decide +kernel
theorem dX9_pit_2 : decode cX9_pit 2 = .ok (.invokevirtual 268, 3) := by decide +kernel
theorem dX9_pit_5 : decode cX9_pit 5 = .ok (.ifCond .eq 18, 3) := by decide +kernel
theorem dX9_pit_23 : decode cX9_pit 23 = .ok (.aload_n 0, 1) := by decide +kernel
theorem dX9_pit_24 : decode cX9_pit 24 = .ok (.iconst 1, 1) := by decide +kernel
theorem dX9_pit_25 : decode cX9_pit 25 = .ok (.invokevirtual 255, 3) := by decide +kernel
theorem dX9_pit_28 : decode cX9_pit 28 = .ok (.ireturn, 1) := by decide +kernel
theorem dX9_pit_8 : decode cX9_pit 8 = .ok (.aload_n 0, 1) := by decide +kernel
theorem dX9_pit_9 : decode cX9_pit 9 = .ok (.getfield 37, 3) := by decide +kernel
theorem dX9_pit_12 : decode cX9_pit 12 = .ok (.getfield 112, 3) := by decide +kernel
theorem dX9_pit_15 : decode cX9_pit 15 = .ok (.getfield 150, 3) := by decide +kernel
theorem dX9_pit_18 : decode cX9_pit 18 = .ok (.bipush 6, 2) := by decide +kernel
theorem dX9_pit_20 : decode cX9_pit 20 = .ok (.if_icmp .lt 9, 3) := by decide +kernel
theorem dX9_pit_29 : decode cX9_pit 29 = .ok (.aload_n 0, 1) := by decide +kernel
theorem dX9_pit_30 : decode cX9_pit 30 = .ok (.getfield 37, 3) := by decide +kernel
theorem dX9_pit_33 : decode cX9_pit 33 = .ok (.invokevirtual 258, 3) := by decide +kernel
theorem dX9_pit_36 : decode cX9_pit 36 = .ok (.aload_n 0, 1) := by decide +kernel
theorem dX9_pit_37 : decode cX9_pit 37 = .ok (.getfield 37, 3) := by decide +kernel
theorem dX9_pit_40 : decode cX9_pit 40 = .ok (.iload_n 1, 1) := by decide +kernel
theorem dX9_pit_41 : decode cX9_pit 41 = .ok (.invokevirtual 294, 3) := by decide +kernel
theorem dX9_pit_44 : decode cX9_pit 44 = .ok (.aload_n 0, 1) := by decide +kernel
theorem dX9_pit_45 : decode cX9_pit 45 = .ok (.getfield 37, 3) := by decide +kernel
theorem dX9_pit_48 : decode cX9_pit 48 = .ok (.getfield 112, 3) := by decide +kernel
theorem dX9_pit_51 : decode cX9_pit 51 = .ok (.getfield 150, 3) := by decide +kernel
theorem dX9_pit_54 : decode cX9_pit 54 = .ok (.ireturn, 1) := by decide +kernel
end
section
-- 9m3.qp.lean.txt
def ptP (P : Nat → PT9) (k : Nat) (v : PT9) : Nat → PT9 := fun j => if j = k then v else P j
section XPT
variable {cs : Nat → ClassId} {ad : Nat → Nat} {g g' : Nat → va_E} {i na k : Nat} {H : Nat → WL9} {W : WL9} {P : Nat → PT9} {nz : Int} {nu nv nw rf : Nat → Int} {v : PT9}
theorem xKt.pitN (h : xKt cs ad g i na H W P nz nu nv nw rf) (hn : na ≤ 40) (hk : k < 6) (hG : ∀ j, j < i + 418 + 3 * k ∨ i + 418 + 3 * k + 3 ≤ j → g' j = g j) (hp : isPt cs ad g' (i + 418 + 3 * k) v) : xKt cs ad g' i na H W (ptP P k v) nz nu nv nw rf := by
  obtain ⟨h1, h2, h3, h4, h5, h6⟩ := h
  refine ⟨(hG _ (by omega)).trans h1, h2.mv (fun j _ _ => hG j (by omega)), h3.mv (fun j _ _ _ => hG j (by omega)) hn, fun m hm => ?_, h5.mv (fun _ _ _ => rfl) (fun j _ _ => hG j (by omega)), (hG _ (by omega)).trans h6⟩
  show isPt cs ad g' (i + 418 + 3 * m) (if m = k then v else P m)
  by_cases e : m = k
  · subst e; rw [if_pos rfl]; exact hp
  · rw [if_neg e]; exact (h4 m hm).mv (fun j _ _ => hG j (by omega))
end XPT
/-- a PIT, as an answer, worlds and pits -/
def pitA (nsl : Nat) (z : Int) (W : WL9) (na : Nat) (H : Nat → WL9) (P : Nat → PT9) : Int × WL9 × Nat × (Nat → WL9) × (Nat → PT9) := if (0 ≤ z ∧ z < (nsl : Int)) ∧ W.1 5 < 6 then (W.1 5 + 1, (uZ W.1 5 (W.1 5 + 1), W.2), kpN na, kpH na H W, ptP P (W.1 5).toNat (z, W.1 0, (W.2 z.toNat).1, (W.2 z.toNat).2.1)) else (-1, W, na, H, P)
theorem okWl.pt {x X : Int} {W : WL9} (h : okWl x X W) (h5 : W.1 5 < 6) : okWl x X (uZ W.1 5 (W.1 5 + 1), W.2) := by
  obtain ⟨h1, h2, h3, h4⟩ := h
  have e0 : uZ W.1 5 (W.1 5 + 1) 0 = W.1 0 := uZ_n _ _ (by decide)
  have e1 : uZ W.1 5 (W.1 5 + 1) 1 = W.1 1 := uZ_n _ _ (by decide)
  have e5 : uZ W.1 5 (W.1 5 + 1) 5 = W.1 5 + 1 := uZ_s _ _ _
  refine ⟨fun s hs => ?_, ?_, ?_, ?_⟩
  · show okSl (mB (uZ W.1 5 (W.1 5 + 1) 0 + x)) (eB (uZ W.1 5 (W.1 5 + 1) 0 + x)) (uZ W.1 5 (W.1 5 + 1) 0) (W.2 s) ∧ okSx X (W.2 s)
    rw [e0]
    exact h1 s hs
  · show 0 ≤ uZ W.1 5 (W.1 5 + 1) 0 ∧ uZ W.1 5 (W.1 5 + 1) 0 ≤ 2180
    rw [e0]
    exact h2
  · show 0 ≤ uZ W.1 5 (W.1 5 + 1) 1 ∧ uZ W.1 5 (W.1 5 + 1) 1 ≤ 900 + 4 * (uZ W.1 5 (W.1 5 + 1) 0 + x)
    rw [e0, e1]
    exact h3
  · show 0 ≤ uZ W.1 5 (W.1 5 + 1) 5 ∧ uZ W.1 5 (W.1 5 + 1) 5 ≤ 6
    rw [e5]
    omega

set_option maxRecDepth 100000 in
set_option maxHeartbeats 4000000 in
theorem c_qPitK (l : Launch) (D : va_G) (A : Nat → Prop) (cs : Nat → ClassId) (tt : Nat) (N : Nat) (ad : Nat → Nat) (g : Nat → va_E) (i : Nat) (hN : i + 436 ≤ N) (na : Nat) (nz : Int) (H : Nat → WL9) (W : WL9) (P : Nat → PT9) (nu nv nw rf : Nat → Int) (hS : okState cs ad g i (na : Int) nz) (hX : xKt cs ad g i na H W P nz nu nv nw rf) (n : Nat) (hn4 : n < 4) (hn12 : ∀ s, s < 4 → (W.2 s).1 ≤ 12) (k5 : Nat) (hk5 : W.1 5 = (k5 : Int)) (hk6 : k5 < 6) : zM l yX6_keepPit cX6_keepPit 3 none ({ frames := 3, cells := 0, slots := 0, locals := 180 } : Room) D A cs tt N ad g [.ref (ad i), .int (zI ((n : Int)))] (rV0 N ad fun g' => okState cs ad g' i (na : Int) nz ∧ xKt cs ad g' i na H (uZ W.1 5 (W.1 5 + 1), W.2) (ptP P k5 ((n : Int), W.1 0, (W.2 n).1, (W.2 n).2.1)) nz nu nv nw rf ∧ ∀ j, j < i ∨ i + 436 ≤ j → g' j = g j) := by
  obtain ⟨q1, q2, q3, ⟨qb, qf, q4, q5⟩, q6, ⟨qc, q7, q8⟩, q9, q10, qr, q11⟩ := id hS
  have hay1 : zAt ad (i) (ad i) := rfl
  have hay2 : zAt ad (i + 11) (ad (i + 11)) := rfl
  have hay3 : zAt ad (i + 12) (ad (i + 12)) := rfl
  have hay4 : zAt ad (i + 17) (ad (i + 17)) := rfl
  have hay5 : zAt ad (i + 1) (ad (i + 1)) := rfl
  have hay6 : zAt ad (i + 13) (ad (i + 13)) := rfl
  have hna := hS.2.1
  obtain ⟨u1, ⟨uu, u2, u3⟩, u4⟩ := id hX.2.1
  have hay7 : zAt ad (i + 1) (ad (i + 1)) := rfl
  have hay8 : zAt ad (i + 1 + 1) (ad (i + 1 + 1)) := rfl
  refine z_of (by decide) (Nat.le_of_ble_eq_true rfl) ?_
  intro pY eY sY mY below meth cY C hr hlk hnm
  refine z_lv (lv' := [(0, .ref (ad i)), (1, .int (zI ((n : Int))))]) [0, 1] rfl ?_
  refine z_aload_n C 0 dX6_keepPit_0 rfl ?_
  refine z_get (v := .ref (ad (i + 1))) C (lt_A0 hN rfl) hay1 q1 rfl inA_X6 0 (by decide) q_257 rfl rfl dX6_keepPit_1 ?_
  refine z_get (v := .int (zI (W.1 5))) C (lt_A (c := 1) hN rfl) hay7 u1 rfl inA_X8 5 (by decide) q_187 rfl rfl dX6_keepPit_4 ?_
  refine z_bipush (z := 6) C dX6_keepPit_7 (by decide) ?_
  refine z_icmp_ge (tgt := 70) C dX6_keepPit_9 (by decide) (by omega) (by omega) (fun h => absurd h (by omega)) (fun _ => ?_)
  refine z_aload_n C 0 dX6_keepPit_12 rfl ?_
  refine z_get (v := .ref (ad (i + 12))) C (lt_A0 hN rfl) hay1 q1 rfl inA_X6 3 (by decide) q_262 rfl rfl dX6_keepPit_13 ?_
  refine z_aload_n C 0 dX6_keepPit_16 rfl ?_
  refine z_get (v := .ref (ad (i + 1))) C (lt_A0 hN rfl) hay1 q1 rfl inA_X6 0 (by decide) q_257 rfl rfl dX6_keepPit_17 ?_
  refine z_get (v := .int (zI (W.1 5))) C (lt_A (c := 1) hN rfl) hay7 u1 rfl inA_X8 5 (by decide) q_187 rfl rfl dX6_keepPit_20 ?_
  refine z_aald C (lt_A (c := 12) hN rfl) hay3 q7 5 rfl (k5) (by omega) (by omega) (by decide) (q8 k5 (by omega)) dX6_keepPit_23 ?_
  have hay9 : zAt ad (i + 418 + 3 * k5) (ad (i + 418 + 3 * k5)) := rfl
  have hay10 : zAt ad (i + 418 + 3 * k5 + 1) (ad (i + 418 + 3 * k5 + 1)) := rfl
  have hay11 : zAt ad (i + 418 + 3 * k5 + 1 + 1) (ad (i + 418 + 3 * k5 + 1 + 1)) := rfl
  obtain ⟨xl, xt, xz, xo, xr, x1, x2, x3, x4⟩ := q9 k5 (by omega)
  refine z_astore_n (lv' := [(2, .ref (ad (i + 418 + 3 * k5))), (0, .ref (ad i)), (1, .int (zI ((n : Int))))]) C dX6_keepPit_24 rfl (by decide) rfl ?_
  refine z_aload_n C 0 dX6_keepPit_25 rfl ?_
  refine z_iload_n C 2 dX6_keepPit_26 rfl ?_
  refine z_put (fs' := [.int (zI ((n : Int))), .int (zI (xt)), .ref (ad (i + 418 + 3 * k5 + 1))]) C (by omega) hay9 x3 tyX4 tyX4_ok nmX4 rfl inA_X4 0 (by decide) q_242 rfl rfl rfl rfl (Nat.le_of_ble_eq_true rfl) rfl dX6_keepPit_27 (fun gy12 egy13 => ?_)
  have hgy14 := up_s egy13
  refine z_aload_n C 0 dX6_keepPit_30 rfl ?_
  refine z_aload_n C 1 dX6_keepPit_31 rfl ?_
  have hgy15 := up_n egy13 q1 (by omega)
  refine z_get (v := .ref (ad (i + 1))) C (lt_A0 hN rfl) hay1 hgy15 rfl inA_X6 0 (by decide) q_257 rfl rfl dX6_keepPit_32 ?_
  have hgy16 := up_n egy13 u1 (by omega)
  refine z_get (v := .int (zI (W.1 0))) C (lt_A (c := 1) hN rfl) hay7 hgy16 rfl inA_X8 0 (by decide) q_175 rfl rfl dX6_keepPit_35 ?_
  refine z_put (fs' := [.int (zI ((n : Int))), .int (zI (W.1 0)), .ref (ad (i + 418 + 3 * k5 + 1))]) C (by omega) hay9 hgy14 tyX4 tyX4_ok nmX4 rfl inA_X4 1 (by decide) q_245 rfl rfl rfl rfl (Nat.le_of_ble_eq_true rfl) rfl dX6_keepPit_38 (fun gy17 egy18 => ?_)
  have hgy19 := up_s egy18
  refine z_aload_n C 0 dX6_keepPit_41 rfl ?_
  refine z_get (v := .ref (ad (i + 418 + 3 * k5 + 1))) C (by omega) hay9 hgy19 rfl inA_X4 2 (by decide) q_248 rfl rfl dX6_keepPit_42 ?_
  refine z_aload_n C 1 dX6_keepPit_45 rfl ?_
  have hgy20 := up_n egy18 hgy15 (by omega)
  refine z_get (v := .ref (ad (i + 1))) C (lt_A0 hN rfl) hay1 hgy20 rfl inA_X6 0 (by decide) q_257 rfl rfl dX6_keepPit_46 ?_
  have hgy21 := up_n egy18 hgy16 (by omega)
  refine z_get (v := .ref (ad (i + 1 + 1))) C (lt_A (c := 1) hN rfl) hay7 hgy21 rfl inA_X8 6 (by decide) q_190 rfl rfl dX6_keepPit_49 ?_
  refine z_iload_n C 2 dX6_keepPit_52 rfl ?_
  have hgy22 := up_n egy13 u2 (by omega)
  have hgy23 := up_n egy18 hgy22 (by omega)
  refine z_aald C (lt_A (c := 2) hN rfl) hay8 hgy23 3 rfl (n) (by omega) (by omega) (by decide) (u3 n (by omega)) dX6_keepPit_53 ?_
  have hay24 : zAt ad (i + 1 + 2 + 2 * n) (ad (i + 1 + 2 + 2 * n)) := rfl
  have hay25 : zAt ad (i + 1 + 2 + 2 * n + 1) (ad (i + 1 + 2 + 2 * n + 1)) := rfl
  obtain ⟨⟨ny26, Ky27, roy28⟩, hSy29⟩ : ∃ S9 : SL9, S9 = W.2 n := ⟨_, rfl⟩
  obtain ⟨ry30, hpy31, hCy32⟩ := (show isPk cs ad gy17 (i + 1 + 2 + 2 * n) (ny26, Ky27, roy28) by rw [hSy29]; exact (isPk.mv (fun j j1 j2 => by rw [egy18, va_up_ne _ _ (by omega)]; rw [egy13, va_up_ne _ _ (by omega)]) (u4 n (by omega))))
  have hpy31 : isPack cs ad gy17 (i + 1 + 2 + 2 * n) (ny26 : Int) roy28 ry30 := hpy31
  have hCy32 : ∀ j f, j < ny26 → f < 7 → ry30 (12 * f + j) = Ky27 (7 * j + f) := hCy32
  have hay33 : zAt ad (i + 1 + 2 + 2 * n) (ad (i + 1 + 2 + 2 * n)) := rfl
  have hay34 : zAt ad (i + 1 + 2 + 2 * n + 1) (ad (i + 1 + 2 + 2 * n + 1)) := rfl
  have hnd : ny26 ≤ 12 := by have h9 := hn12 n hn4; rw [← hSy29] at h9; exact h9
  have hS9 : W.2 n = (ny26, Ky27, roy28) := hSy29.symm
  have hgy35 := up_n egy13 x4.1 (ne_o (i := i + 418 + 3 * k5) (c := 1) (d := 0) rfl)
  have hgy36 := up_n egy18 hgy35 (ne_o (i := i + 418 + 3 * k5) (c := 1) (d := 0) rfl)
  have hgy37 := up_n egy13 x4.2 (ne_o (i := i + 418 + 3 * k5) (c := 2) (d := 0) rfl)
  have hgy38 := up_n egy18 hgy37 (ne_o (i := i + 418 + 3 * k5) (c := 2) (d := 0) rfl)
  refine z_cV (As := [.ref (ad (i + 1 + 2 + 2 * n))]) (rest := []) (ci := 5) C (c_X3_copyFrom l D A cs tt N ad _ (i + 418 + 3 * k5 + 1) (by omega) _ _ _ x2 ⟨hgy36, hgy38⟩ (i + 1 + 2 + 2 * n) (by omega) _ _ _ (by omega) ⟨hpy31.1, hpy31.2⟩ (by omega)) (by omega) hay10 hgy36 rfl rfl mv_yX3_copyFrom q_606 hd_yX3_copyFrom (by decide) (Nat.le_of_ble_eq_true rfl) (by decide) dX6_keepPit_54 rfl (kV0 fun gc hc => ?_)
  obtain ⟨hp, hf⟩ := hc
  have hgy39 := (hf (i + 418 + 3 * k5) (ne_o (i := i + 418 + 3 * k5) (c := 0) (d := 1) rfl) (ne_o (i := i + 418 + 3 * k5) (c := 0) (d := 2) rfl)).trans hgy19
  have hpit : okPit cs ad gc (i + 418 + 3 * k5) := ⟨_, _, _, _, _, by omega, by omega, hgy39, hp⟩
  have hs5 : okState cs ad gc i (na : Int) nz := okState.pit (by omega) hS (fun j j1 => by rw [hf _ (by omega) (by omega)]; rw [egy18, va_up_ne _ _ (by omega)]; rw [egy13, va_up_ne _ _ (by omega)]) hpit
  have hx5 : xKt cs ad gc i na H W (ptP P k5 ((n : Int), W.1 0, (W.2 n).1, (W.2 n).2.1)) nz nu nv nw rf := xKt.pitN hX (by omega) hk6 (fun j j1 => by rw [hf _ (by omega) (by omega)]; rw [egy18, va_up_ne _ _ (by omega)]; rw [egy13, va_up_ne _ _ (by omega)]) (by rw [hS9]; exact ⟨hgy39, roy28, _, hp, hCy32⟩)
  refine z_aload_n C 1 dX6_keepPit_57 rfl ?_
  have hgy40 := (hf (i) (by omega) (by omega)).trans hgy20
  refine z_get (v := .ref (ad (i + 1))) C (lt_A0 hN rfl) hay1 hgy40 rfl inA_X6 0 (by decide) q_257 rfl rfl dX6_keepPit_58 ?_
  refine z_dup C dX6_keepPit_61 rfl ?_
  have hgy41 := (hf (i + 1) (by omega) (by omega)).trans hgy21
  refine z_get (v := .int (zI (W.1 5))) C (lt_A (c := 1) hN rfl) hay7 hgy41 rfl inA_X8 5 (by decide) q_187 rfl rfl dX6_keepPit_62 ?_
  refine z_iconst (z := 1) C dX6_keepPit_65 rfl ?_
  refine z_iadd C dX6_keepPit_66 ?_
  refine z_put (fs' := [.int (zI (W.1 0)), .int (zI (W.1 1)), .int (zI (W.1 2)), .int (zI (W.1 3)), .int (zI (W.1 4)), .int (zI ((W.1 5) + 1)), .ref (ad (i + 1 + 1))]) C (lt_A (c := 1) hN rfl) hay7 hgy41 tyX8 tyX8_ok nmX8 rfl inA_X8 5 (by decide) q_187 rfl rfl rfl rfl (Nat.le_of_ble_eq_true rfl) rfl dX6_keepPit_67 (fun gy42 egy43 => ?_)
  have hgy44 := up_s egy43
  have hwl6 : isWl cs ad gy42 (i + 1) (uZ W.1 5 (W.1 5 + 1), W.2) := isWl.hd (uZ W.1 5 (W.1 5 + 1)) hx5.2.1 (fun j j1 => by rw [egy43, va_up_ne _ _ (by omega)]) hgy44 ⟨⟨uZ_n _ _ (by decide), uZ_n _ _ (by decide)⟩, ⟨uZ_n _ _ (by decide), uZ_n _ _ (by decide)⟩, uZ_n _ _ (by decide), uZ_s _ _ _⟩
  have h56 : 0 ≤ uZ W.1 5 (W.1 5 + 1) 5 ∧ uZ W.1 5 (W.1 5 + 1) 5 ≤ 6 := by rw [uZ_s]; omega
  have hs6 : okState cs ad gy42 i (na : Int) nz := okState.now hs5 (fun j j1 => by rw [egy43, va_up_ne _ _ (by omega)]) (isWl.ok hwl6 hn12 h56)
  exact z_vret C hr hlk dX6_keepPit_70 (by decide) (by decide) ⟨rfl, rfl, rfl, hs6, xKt.now hx5 (by omega) (fun j j1 => by rw [egy43, va_up_ne _ _ (by omega)]) hwl6, fun j j1 => by rw [egy43, va_up_ne _ _ (by omega)]; rw [hf _ (by omega) (by omega)]; rw [egy18, va_up_ne _ _ (by omega)]; rw [egy13, va_up_ne _ _ (by omega)]⟩

set_option maxRecDepth 100000 in
set_option maxHeartbeats 4000000 in
theorem c_qPit_a (l : Launch) (D : va_G) (A : Nat → Prop) (cs : Nat → ClassId) (tt : Nat) (N : Nat) (ad : Nat → Nat) (g : Nat → va_E) (hN : 952 ≤ N) (t fp im nz kz sl ho ua : Int) (st op ai fa mu tb tp : Nat → Int) (hR : okRec cs ad g N t fp im nz kz sl ho ua st op ai fa mu tb tp) (na : Nat) (H : Nat → WL9) (W : WL9) (P : Nat → PT9) (nu nv nw rf : Nat → Int) (hS : okState cs ad g 11 (na : Int) nz) (hXK : xKt cs ad g 11 na H W P nz nu nv nw rf) (nsl : Nat) (hnsl : sl = (nsl : Int)) (hfc : okFc sl ho ua op ai fa mu tb) (x : Int) (hx : 0 ≤ x ∧ x ≤ 512) (hwx : okWx x W) (n : Nat) (hn4 : n < 4) : zM l yX9_pit cX9_pit 2 (some .int) ({ frames := 8, cells := 0, slots := 0, locals := 480 } : Room) D A cs tt N ad g [.ref (ad 0), .int (zI ((n : Int)))] (rI0 N ad fun q g' => q = (pitA nsl ((n : Int)) W na H P).1 ∧ okRec cs ad g' N t fp im nz kz sl ho ua st op ai fa mu tb tp ∧ (okState cs ad g' 11 (((pitA nsl ((n : Int)) W na H P).2.2.1 : Nat) : Int) nz ∧ ∃ rf', ((q = -1 ∧ rf' = uZ rf 1 (rf 1 + 1)) ∨ (q ≠ -1 ∧ rf' = rf)) ∧ xKt cs ad g' 11 (pitA nsl ((n : Int)) W na H P).2.2.1 (pitA nsl ((n : Int)) W na H P).2.2.2.1 (pitA nsl ((n : Int)) W na H P).2.1 (pitA nsl ((n : Int)) W na H P).2.2.2.2 nz nu nv nw rf') ∧ ∀ j, j < 11 ∨ 447 ≤ j → g' j = g j) := by
  obtain ⟨ra1, ra2, ra3, -, -, ra6, ra7, ra8, -⟩ := id hR
  have hna := hS.2.1
  have hay1 : zAt ad (0) (ad 0) := rfl
  have hay2 : zAt ad (1) (ad 1) := rfl
  have hay3 : zAt ad (2) (ad 2) := rfl
  have hay4 : zAt ad (4) (ad 4) := rfl
  have hay5 : zAt ad (11) (ad 11) := rfl
  have hay6 : zAt ad (447) (ad 447) := rfl
  have hay7 : zAt ad (883) (ad 883) := rfl
  have hay8 : zAt ad (890) (ad 890) := rfl
  have hay9 : zAt ad (900) (ad 900) := rfl
  have hay10 : zAt ad (910) (ad 910) := rfl
  have hay11 : zAt ad (917) (ad 917) := rfl
  have hay12 : zAt ad (919) (ad 919) := rfl
  have hay13 : zAt ad (4 + 1) (ad (4 + 1)) := rfl
  have hay14 : zAt ad (4 + 2) (ad (4 + 2)) := rfl
  have hay15 : zAt ad (4 + 3) (ad (4 + 3)) := rfl
  have hay16 : zAt ad (4 + 4) (ad (4 + 4)) := rfl
  have hay17 : zAt ad (4 + 5) (ad (4 + 5)) := rfl
  have hay18 : zAt ad (4 + 6) (ad (4 + 6)) := rfl
  have hay19 : zAt ad (11 + 1) (ad (11 + 1)) := rfl
  have hay20 : zAt ad (11 + 11) (ad (11 + 11)) := rfl
  have hay21 : zAt ad (11 + 12) (ad (11 + 12)) := rfl
  have hay22 : zAt ad (11 + 13) (ad (11 + 13)) := rfl
  have hay23 : zAt ad (11 + 17) (ad (11 + 17)) := rfl
  obtain ⟨u1, ⟨uu, u2, u3⟩, u4⟩ := id hXK.2.1
  have hay24 : zAt ad (11 + 1) (ad (11 + 1)) := rfl
  have hay25 : zAt ad (11 + 1 + 1) (ad (11 + 1 + 1)) := rfl
  have hok9 := hwx.1
  have ht9 := hwx.2
  have ht8 := hok9.2.1
  have hns4 : nsl ≤ 4 := by omega
  have hOn := (hok9.1 n hn4).1.1
  have hn12 := hok9.n12 n hn4
  have h56 := hok9.2.2.2
  refine z_of (by decide) (Nat.le_of_ble_eq_true rfl) ?_
  intro pY eY sY mY below meth cY C hr hlk hnm
  refine z_lv (lv' := [(0, .ref (ad 0)), (1, .int (zI ((n : Int))))]) [0, 1] rfl ?_
  refine z_aload_n C 0 dX9_pit_0 rfl ?_
  refine z_iload_n C 1 dX9_pit_1 rfl ?_
  refine z_cV (As := [.int (zI ((n : Int)))]) (rest := []) (ci := 11) C (c_X9_isSlope l D A cs tt N ad _ hN _ _ _ _ _ _ _ _ _ _ _ _ _ _ _ hR ((n : Int)) (by omega)) (lt_K hN (rfl : Nat.blt (0) 952 = true)) hay1 ra1 rfl rfl mv_yX9_isSlope q_537 hd_yX9_isSlope (by decide) (Nat.le_of_ble_eq_true rfl) (by decide) dX9_pit_2 rfl (kI0 fun vy26 gvy26 hvy26 => ?_)
  obtain ⟨hvy26, rfl⟩ := hvy26
  have hbvy26 : (vy26 = 1 ∧ 0 ≤ (n : Int) ∧ (n : Int) < sl) ∨ (vy26 = 0 ∧ ¬ (0 ≤ (n : Int) ∧ (n : Int) < sl)) := by rw [hvy26]; by_cases e9 : 0 ≤ (n : Int) ∧ (n : Int) < sl; (rw [if_pos e9]; exact Or.inl ⟨rfl, e9⟩); (rw [if_neg e9]; exact Or.inr ⟨rfl, e9⟩)
  refine z_if_eq (tgt := 23) C dX9_pit_5 (by decide) (by omega) (fun hby27 => ?_) (fun hby27 => ?_)
  · refine z_aload_n C 0 dX9_pit_23 rfl ?_
    refine z_iconst (z := 1) C dX9_pit_24 rfl ?_
    refine z_cV (As := [.int (zI (1))]) (rest := []) (ci := 11) C (c_qRefuse l D A cs tt N ad _ hN _ _ _ _ _ _ _ _ _ _ _ _ _ _ _ hR na H W P nu nv nw rf hS hXK 1 (by omega)) (lt_K hN (rfl : Nat.blt (0) 952 = true)) hay1 ra1 rfl rfl mv_yX9_refuse q_408 hd_yX9_refuse (by decide) (Nat.le_of_ble_eq_true rfl) (by decide) dX9_pit_25 rfl (kI0 fun vy28 gvy28 hvy28 => ?_)
    obtain ⟨rfl, ⟨hSvy28, hXvy28⟩, hfvy28⟩ := hvy28
    rw [show pitA nsl ((n : Int)) W na H P = (-1, W, na, H, P) from if_neg (by omega)]
    exact z_iret C hr hlk dX9_pit_28 (by decide) (by decide) ⟨-1, rfl, rfl, rfl, by omega, okRec.st hR (fun j j1 => by rw [hfvy28 _ (by omega)]) hSvy28, ⟨hSvy28, _, Or.inl ⟨by omega, rfl⟩, hXvy28⟩, fun j j1 => by rw [hfvy28 _ (by omega)]⟩
  · refine z_aload_n C 0 dX9_pit_8 rfl ?_
    refine z_get (v := .ref (ad 11)) C (lt_K hN (rfl : Nat.blt (0) 952 = true)) hay1 ra1 rfl inA_X9 5 (by decide) q_354 rfl rfl dX9_pit_9 ?_
    refine z_get (v := .ref (ad (11 + 1))) C (lt_K hN (rfl : Nat.blt (11) 952 = true)) hay5 hXK.1 rfl inA_X6 0 (by decide) q_258 rfl rfl dX9_pit_12 ?_
    refine z_get (v := .int (zI (W.1 5))) C (lt_K hN (rfl : Nat.blt (11 + 1) 952 = true)) hay24 u1 rfl inA_X8 5 (by decide) q_186 rfl rfl dX9_pit_15 ?_
    refine z_bipush (z := 6) C dX9_pit_18 (by decide) ?_
    refine z_icmp_lt (tgt := 29) C dX9_pit_20 (by decide) (by omega) (by omega) (fun hby29 => ?_) (fun hby29 => ?_)
    · refine z_aload_n C 0 dX9_pit_29 rfl ?_
      refine z_get (v := .ref (ad 11)) C (lt_K hN (rfl : Nat.blt (0) 952 = true)) hay1 ra1 rfl inA_X9 5 (by decide) q_354 rfl rfl dX9_pit_30 ?_
      refine z_cV (As := []) (rest := []) (ci := 8) C (c_qKeep l D A cs tt N ad _ 11 (by omega) na _ H W P nu nv nw rf hS hXK) (lt_K hN (rfl : Nat.blt (11) 952 = true)) hay5 hXK.1 rfl rfl mv_yX6_keepAct q_412 hd_yX6_keepAct (by decide) (Nat.le_of_ble_eq_true rfl) (by decide) dX9_pit_33 rfl (kV0 fun gvy30 hvy30 => ?_)
      obtain ⟨hSvy30, hXvy30, hfvy30⟩ := hvy30
      obtain ⟨uy311, ⟨uy31u, uy312, uy313⟩, uy314⟩ := id hXvy30.2.1
      have hay32 : zAt ad (11 + 1) (ad (11 + 1)) := rfl
      have hay33 : zAt ad (11 + 1 + 1) (ad (11 + 1 + 1)) := rfl
      have hkn9 : kpN na ≤ 40 := by unfold kpN; split <;> omega
      refine z_aload_n C 0 dX9_pit_36 rfl ?_
      have hgy34 := (hfvy30 (0) (by omega)).trans ra1
      refine z_get (v := .ref (ad 11)) C (lt_K hN (rfl : Nat.blt (0) 952 = true)) hay1 hgy34 rfl inA_X9 5 (by decide) q_354 rfl rfl dX9_pit_37 ?_
      refine z_iload_n C 1 dX9_pit_40 rfl ?_
      obtain ⟨k5, hk5⟩ : ∃ k9 : Nat, W.1 5 = (k9 : Int) := ⟨(W.1 5).toNat, by omega⟩
      have hk5n : (W.1 5).toNat = k5 := by omega
      refine z_cV (As := [.int (zI ((n : Int)))]) (rest := []) (ci := 8) C (c_qPitK l D A cs tt N ad _ 11 (by omega) (kpN na) _ (kpH na H W) W P nu nv nw rf hSvy30 hXvy30 n hn4 hok9.n12 k5 hk5 (by omega)) (lt_K hN (rfl : Nat.blt (11) 952 = true)) hay5 hXvy30.1 rfl rfl mv_yX6_keepPit q_602 hd_yX6_keepPit (by decide) (Nat.le_of_ble_eq_true rfl) (by decide) dX9_pit_41 rfl (kV0 fun gvy35 hvy35 => ?_)
      obtain ⟨hSvy35, hXvy35, hfvy35⟩ := hvy35
      obtain ⟨uy361, ⟨uy36u, uy362, uy363⟩, uy364⟩ := id hXvy35.2.1
      have hay37 : zAt ad (11 + 1) (ad (11 + 1)) := rfl
      have hay38 : zAt ad (11 + 1 + 1) (ad (11 + 1 + 1)) := rfl
      have h55 : (uZ W.1 5 (W.1 5 + 1), W.2).1 5 = W.1 5 + 1 := (show uZ W.1 5 (W.1 5 + 1) 5 = W.1 5 + 1 from uZ_s _ _ _)
      refine z_aload_n C 0 dX9_pit_44 rfl ?_
      have hgy39 := (hfvy35 (0) (by omega)).trans hgy34
      refine z_get (v := .ref (ad 11)) C (lt_K hN (rfl : Nat.blt (0) 952 = true)) hay1 hgy39 rfl inA_X9 5 (by decide) q_354 rfl rfl dX9_pit_45 ?_
      refine z_get (v := .ref (ad (11 + 1))) C (lt_K hN (rfl : Nat.blt (11) 952 = true)) hay5 hXvy35.1 rfl inA_X6 0 (by decide) q_258 rfl rfl dX9_pit_48 ?_
      refine z_get (v := .int (zI ((uZ W.1 5 (W.1 5 + 1), W.2).1 5))) C (lt_K hN (rfl : Nat.blt (11 + 1) 952 = true)) hay37 uy361 rfl inA_X8 5 (by decide) q_186 rfl rfl dX9_pit_51 ?_
      have hE9 : pitA nsl ((n : Int)) W na H P = (W.1 5 + 1, (uZ W.1 5 (W.1 5 + 1), W.2), kpN na, kpH na H W, ptP P k5 ((n : Int), W.1 0, (W.2 n).1, (W.2 n).2.1)) := by unfold pitA; rw [Int.toNat_natCast, hk5n]; exact if_pos (by omega)
      rw [hE9]
      exact z_iret C hr hlk dX9_pit_54 (by decide) (by decide) ⟨(uZ W.1 5 (W.1 5 + 1), W.2).1 5, rfl, rfl, rfl, by omega, okRec.st hR (fun j j1 => by rw [hfvy35 _ (by omega)]; rw [hfvy30 _ (by omega)]) hSvy35, ⟨hSvy35, _, Or.inr ⟨by omega, rfl⟩, hXvy35⟩, fun j j1 => by rw [hfvy35 _ (by omega)]; rw [hfvy30 _ (by omega)]⟩
    · refine z_aload_n C 0 dX9_pit_23 rfl ?_
      refine z_iconst (z := 1) C dX9_pit_24 rfl ?_
      refine z_cV (As := [.int (zI (1))]) (rest := []) (ci := 11) C (c_qRefuse l D A cs tt N ad _ hN _ _ _ _ _ _ _ _ _ _ _ _ _ _ _ hR na H W P nu nv nw rf hS hXK 1 (by omega)) (lt_K hN (rfl : Nat.blt (0) 952 = true)) hay1 ra1 rfl rfl mv_yX9_refuse q_408 hd_yX9_refuse (by decide) (Nat.le_of_ble_eq_true rfl) (by decide) dX9_pit_25 rfl (kI0 fun vy40 gvy40 hvy40 => ?_)
      obtain ⟨rfl, ⟨hSvy40, hXvy40⟩, hfvy40⟩ := hvy40
      rw [show pitA nsl ((n : Int)) W na H P = (-1, W, na, H, P) from if_neg (by omega)]
      exact z_iret C hr hlk dX9_pit_28 (by decide) (by decide) ⟨-1, rfl, rfl, rfl, by omega, okRec.st hR (fun j j1 => by rw [hfvy40 _ (by omega)]) hSvy40, ⟨hSvy40, _, Or.inl ⟨by omega, rfl⟩, hXvy40⟩, fun j j1 => by rw [hfvy40 _ (by omega)]⟩

set_option maxRecDepth 100000 in
set_option maxHeartbeats 4000000 in
theorem c_qPit_b (l : Launch) (D : va_G) (A : Nat → Prop) (cs : Nat → ClassId) (tt : Nat) (N : Nat) (ad : Nat → Nat) (g : Nat → va_E) (hN : 952 ≤ N) (t fp im nz kz sl ho ua : Int) (st op ai fa mu tb tp : Nat → Int) (hR : okRec cs ad g N t fp im nz kz sl ho ua st op ai fa mu tb tp) (na : Nat) (H : Nat → WL9) (W : WL9) (P : Nat → PT9) (nu nv nw rf : Nat → Int) (hS : okState cs ad g 11 (na : Int) nz) (hXK : xKt cs ad g 11 na H W P nz nu nv nw rf) (nsl : Nat) (hnsl : sl = (nsl : Int)) (hfc : okFc sl ho ua op ai fa mu tb) (x : Int) (hx : 0 ≤ x ∧ x ≤ 512) (hwx : okWx x W) (z : Int) (hz : -2147483648 ≤ z ∧ z ≤ 2147483647) (hzo : z < 0 ∨ 3 < z) : zM l yX9_pit cX9_pit 2 (some .int) ({ frames := 8, cells := 0, slots := 0, locals := 480 } : Room) D A cs tt N ad g [.ref (ad 0), .int (zI (z))] (rI0 N ad fun q g' => q = (pitA nsl (z) W na H P).1 ∧ okRec cs ad g' N t fp im nz kz sl ho ua st op ai fa mu tb tp ∧ (okState cs ad g' 11 (((pitA nsl (z) W na H P).2.2.1 : Nat) : Int) nz ∧ ∃ rf', ((q = -1 ∧ rf' = uZ rf 1 (rf 1 + 1)) ∨ (q ≠ -1 ∧ rf' = rf)) ∧ xKt cs ad g' 11 (pitA nsl (z) W na H P).2.2.1 (pitA nsl (z) W na H P).2.2.2.1 (pitA nsl (z) W na H P).2.1 (pitA nsl (z) W na H P).2.2.2.2 nz nu nv nw rf') ∧ ∀ j, j < 11 ∨ 447 ≤ j → g' j = g j) := by
  obtain ⟨ra1, ra2, ra3, -, -, ra6, ra7, ra8, -⟩ := id hR
  have hna := hS.2.1
  have hay1 : zAt ad (0) (ad 0) := rfl
  have hay2 : zAt ad (1) (ad 1) := rfl
  have hay3 : zAt ad (2) (ad 2) := rfl
  have hay4 : zAt ad (4) (ad 4) := rfl
  have hay5 : zAt ad (11) (ad 11) := rfl
  have hay6 : zAt ad (447) (ad 447) := rfl
  have hay7 : zAt ad (883) (ad 883) := rfl
  have hay8 : zAt ad (890) (ad 890) := rfl
  have hay9 : zAt ad (900) (ad 900) := rfl
  have hay10 : zAt ad (910) (ad 910) := rfl
  have hay11 : zAt ad (917) (ad 917) := rfl
  have hay12 : zAt ad (919) (ad 919) := rfl
  have hay13 : zAt ad (4 + 1) (ad (4 + 1)) := rfl
  have hay14 : zAt ad (4 + 2) (ad (4 + 2)) := rfl
  have hay15 : zAt ad (4 + 3) (ad (4 + 3)) := rfl
  have hay16 : zAt ad (4 + 4) (ad (4 + 4)) := rfl
  have hay17 : zAt ad (4 + 5) (ad (4 + 5)) := rfl
  have hay18 : zAt ad (4 + 6) (ad (4 + 6)) := rfl
  have hay19 : zAt ad (11 + 1) (ad (11 + 1)) := rfl
  have hay20 : zAt ad (11 + 11) (ad (11 + 11)) := rfl
  have hay21 : zAt ad (11 + 12) (ad (11 + 12)) := rfl
  have hay22 : zAt ad (11 + 13) (ad (11 + 13)) := rfl
  have hay23 : zAt ad (11 + 17) (ad (11 + 17)) := rfl
  obtain ⟨u1, ⟨uu, u2, u3⟩, u4⟩ := id hXK.2.1
  have hay24 : zAt ad (11 + 1) (ad (11 + 1)) := rfl
  have hay25 : zAt ad (11 + 1 + 1) (ad (11 + 1 + 1)) := rfl
  have hok9 := hwx.1
  have ht9 := hwx.2
  have ht8 := hok9.2.1
  have hns4 : nsl ≤ 4 := by omega
  refine z_of (by decide) (Nat.le_of_ble_eq_true rfl) ?_
  intro pY eY sY mY below meth cY C hr hlk hnm
  refine z_lv (lv' := [(0, .ref (ad 0)), (1, .int (zI (z)))]) [0, 1] rfl ?_
  refine z_aload_n C 0 dX9_pit_0 rfl ?_
  refine z_iload_n C 1 dX9_pit_1 rfl ?_
  refine z_cV (As := [.int (zI (z))]) (rest := []) (ci := 11) C (c_X9_isSlope l D A cs tt N ad _ hN _ _ _ _ _ _ _ _ _ _ _ _ _ _ _ hR (z) (by omega)) (lt_K hN (rfl : Nat.blt (0) 952 = true)) hay1 ra1 rfl rfl mv_yX9_isSlope q_537 hd_yX9_isSlope (by decide) (Nat.le_of_ble_eq_true rfl) (by decide) dX9_pit_2 rfl (kI0 fun vy26 gvy26 hvy26 => ?_)
  obtain ⟨hvy26, rfl⟩ := hvy26
  have hbvy26 : (vy26 = 1 ∧ 0 ≤ z ∧ z < sl) ∨ (vy26 = 0 ∧ ¬ (0 ≤ z ∧ z < sl)) := by rw [hvy26]; by_cases e9 : 0 ≤ z ∧ z < sl; (rw [if_pos e9]; exact Or.inl ⟨rfl, e9⟩); (rw [if_neg e9]; exact Or.inr ⟨rfl, e9⟩)
  obtain rfl : vy26 = 0 := by omega
  refine z_if_eq (tgt := 23) C dX9_pit_5 (by decide) (by omega) (fun _ => ?_) (fun h => absurd h (by omega))
  refine z_aload_n C 0 dX9_pit_23 rfl ?_
  refine z_iconst (z := 1) C dX9_pit_24 rfl ?_
  refine z_cV (As := [.int (zI (1))]) (rest := []) (ci := 11) C (c_qRefuse l D A cs tt N ad _ hN _ _ _ _ _ _ _ _ _ _ _ _ _ _ _ hR na H W P nu nv nw rf hS hXK 1 (by omega)) (lt_K hN (rfl : Nat.blt (0) 952 = true)) hay1 ra1 rfl rfl mv_yX9_refuse q_408 hd_yX9_refuse (by decide) (Nat.le_of_ble_eq_true rfl) (by decide) dX9_pit_25 rfl (kI0 fun vy27 gvy27 hvy27 => ?_)
  obtain ⟨rfl, ⟨hSvy27, hXvy27⟩, hfvy27⟩ := hvy27
  rw [show pitA nsl (z) W na H P = (-1, W, na, H, P) from if_neg (by omega)]
  exact z_iret C hr hlk dX9_pit_28 (by decide) (by decide) ⟨-1, rfl, rfl, rfl, by omega, okRec.st hR (fun j j1 => by rw [hfvy27 _ (by omega)]) hSvy27, ⟨hSvy27, _, Or.inl ⟨by omega, rfl⟩, hXvy27⟩, fun j j1 => by rw [hfvy27 _ (by omega)]⟩

set_option maxRecDepth 100000 in
set_option maxHeartbeats 4000000 in
theorem c_qPit (l : Launch) (D : va_G) (A : Nat → Prop) (cs : Nat → ClassId) (tt : Nat) (N : Nat) (ad : Nat → Nat) (g : Nat → va_E) (hN : 952 ≤ N) (t fp im nz kz sl ho ua : Int) (st op ai fa mu tb tp : Nat → Int) (hR : okRec cs ad g N t fp im nz kz sl ho ua st op ai fa mu tb tp) (na : Nat) (H : Nat → WL9) (W : WL9) (P : Nat → PT9) (nu nv nw rf : Nat → Int) (hS : okState cs ad g 11 (na : Int) nz) (hXK : xKt cs ad g 11 na H W P nz nu nv nw rf) (nsl : Nat) (hnsl : sl = (nsl : Int)) (hfc : okFc sl ho ua op ai fa mu tb) (x : Int) (hx : 0 ≤ x ∧ x ≤ 512) (hwx : okWx x W) (z : Int) (hz : -2147483648 ≤ z ∧ z ≤ 2147483647) : zM l yX9_pit cX9_pit 2 (some .int) ({ frames := 8, cells := 0, slots := 0, locals := 480 } : Room) D A cs tt N ad g [.ref (ad 0), .int (zI (z))] (rI0 N ad fun q g' => q = (pitA nsl (z) W na H P).1 ∧ okRec cs ad g' N t fp im nz kz sl ho ua st op ai fa mu tb tp ∧ (okState cs ad g' 11 (((pitA nsl (z) W na H P).2.2.1 : Nat) : Int) nz ∧ ∃ rf', ((q = -1 ∧ rf' = uZ rf 1 (rf 1 + 1)) ∨ (q ≠ -1 ∧ rf' = rf)) ∧ xKt cs ad g' 11 (pitA nsl (z) W na H P).2.2.1 (pitA nsl (z) W na H P).2.2.2.1 (pitA nsl (z) W na H P).2.1 (pitA nsl (z) W na H P).2.2.2.2 nz nu nv nw rf') ∧ ∀ j, j < 11 ∨ 447 ≤ j → g' j = g j) := by
  by_cases h9 : 0 ≤ z ∧ z ≤ 3
  · obtain ⟨n, rfl⟩ : ∃ n : Nat, z = (n : Int) := ⟨z.toNat, by omega⟩
    exact c_qPit_a l D A cs tt N ad g hN t fp im nz kz sl ho ua st op ai fa mu tb tp hR na H W P nu nv nw rf hS hXK nsl hnsl hfc x hx hwx  n (by omega) 
  · exact c_qPit_b l D A cs tt N ad g hN t fp im nz kz sl ho ua st op ai fa mu tb tp hR na H W P nu nv nw rf hS hXK nsl hnsl hfc x hx hwx  z hz (by omega) 
end
section
-- 9m5.dec.lean.txt
-- decode rows of up2
theorem dX10_pit_0 : decode cX10_pit 0 = .ok (.aload_n 0, 1) := by decide +kernel
theorem dX10_pit_1 : decode cX10_pit 1 = .ok (.iconst 0, 1) := by decide +kernel
theorem dX10_pit_2 : decode cX10_pit 2 = .ok (.putfield 110, 3) := by decide +kernel
theorem dX10_pit_5 : decode cX10_pit 5 = .ok (.iload_n 1, 1) := by decide +kernel
theorem dX10_pit_6 : decode cX10_pit 6 = .ok (.iconst 0, 1) := by decide +kernel
theorem dX10_pit_7 : decode cX10_pit 7 = .ok (.aload_n 0, 1) := by decide +kernel
theorem dX10_pit_8 : decode cX10_pit 8 = .ok (.getfield 198, 3) := by decide +kernel
theorem dX10_pit_11 : decode cX10_pit 11 = .ok (.iconst 1, 1) := by decide +kernel
theorem dX10_pit_12 : decode cX10_pit 12 = .ok (.isub, 1) := by decide +kernel
theorem dX10_pit_13 : decode cX10_pit 13 = .ok (.invokestatic 281, 3) := by decide +kernel
theorem dX10_pit_16 : decode cX10_pit 16 = .ok (.ifCond .eq 14, 3) := by decide +kernel
theorem dX10_pit_19 : decode cX10_pit 19 = .ok (.aload_n 0, 1) := by decide +kernel
theorem dX10_pit_20 : decode cX10_pit 20 = .ok (.getfield 9, 3) := by decide +kernel
theorem dX10_pit_23 : decode cX10_pit 23 = .ok (.iconst 5, 1) := by decide +kernel
theorem dX10_pit_24 : decode cX10_pit 24 = .ok (.iaload, 1) := by decide +kernel
theorem dX10_pit_25 : decode cX10_pit 25 = .ok (.bipush 6, 2) := by decide +kernel
theorem dX10_pit_27 : decode cX10_pit 27 = .ok (.if_icmp .ne 9, 3) := by decide +kernel
theorem dX10_pit_36 : decode cX10_pit 36 = .ok (.aload_n 0, 1) := by decide +kernel
theorem dX10_pit_37 : decode cX10_pit 37 = .ok (.invokevirtual 397, 3) := by decide +kernel
theorem dX10_pit_40 : decode cX10_pit 40 = .ok (.bipush 90, 2) := by decide +kernel
theorem dX10_pit_42 : decode cX10_pit 42 = .ok (.aload_n 0, 1) := by decide +kernel
theorem dX10_pit_43 : decode cX10_pit 43 = .ok (.getfield 9, 3) := by decide +kernel
theorem dX10_pit_46 : decode cX10_pit 46 = .ok (.iconst 5, 1) := by decide +kernel
theorem dX10_pit_47 : decode cX10_pit 47 = .ok (.iaload, 1) := by decide +kernel
theorem dX10_pit_48 : decode cX10_pit 48 = .ok (.imul, 1) := by decide +kernel
theorem dX10_pit_49 : decode cX10_pit 49 = .ok (.istore_n 2, 1) := by decide +kernel
theorem dX10_pit_50 : decode cX10_pit 50 = .ok (.aload_n 0, 1) := by decide +kernel
theorem dX10_pit_51 : decode cX10_pit 51 = .ok (.getfield 43, 3) := by decide +kernel
theorem dX10_pit_54 : decode cX10_pit 54 = .ok (.iload_n 2, 1) := by decide +kernel
theorem dX10_pit_55 : decode cX10_pit 55 = .ok (.iload_n 1, 1) := by decide +kernel
theorem dX10_pit_56 : decode cX10_pit 56 = .ok (.iastore, 1) := by decide +kernel
theorem dX10_pit_57 : decode cX10_pit 57 = .ok (.aload_n 0, 1) := by decide +kernel
theorem dX10_pit_58 : decode cX10_pit 58 = .ok (.getfield 43, 3) := by decide +kernel
theorem dX10_pit_61 : decode cX10_pit 61 = .ok (.iload_n 2, 1) := by decide +kernel
theorem dX10_pit_62 : decode cX10_pit 62 = .ok (.iconst 1, 1) := by decide +kernel
theorem dX10_pit_63 : decode cX10_pit 63 = .ok (.iadd, 1) := by decide +kernel
theorem dX10_pit_64 : decode cX10_pit 64 = .ok (.aload_n 0, 1) := by decide +kernel
theorem dX10_pit_65 : decode cX10_pit 65 = .ok (.getfield 9, 3) := by decide +kernel
theorem dX10_pit_68 : decode cX10_pit 68 = .ok (.iconst 0, 1) := by decide +kernel
theorem dX10_pit_69 : decode cX10_pit 69 = .ok (.iaload, 1) := by decide +kernel
theorem dX10_pit_70 : decode cX10_pit 70 = .ok (.iastore, 1) := by decide +kernel
theorem dX10_pit_71 : decode cX10_pit 71 = .ok (.aload_n 0, 1) := by decide +kernel
theorem dX10_pit_72 : decode cX10_pit 72 = .ok (.getfield 43, 3) := by decide +kernel
theorem dX10_pit_75 : decode cX10_pit 75 = .ok (.iload_n 2, 1) := by decide +kernel
theorem dX10_pit_76 : decode cX10_pit 76 = .ok (.iconst 2, 1) := by decide +kernel
theorem dX10_pit_77 : decode cX10_pit 77 = .ok (.iadd, 1) := by decide +kernel
theorem dX10_pit_78 : decode cX10_pit 78 = .ok (.aload_n 0, 1) := by decide +kernel
theorem dX10_pit_79 : decode cX10_pit 79 = .ok (.iconst 0, 1) := by decide +kernel
theorem dX10_pit_80 : decode cX10_pit 80 = .ok (.iload_n 1, 1) := by decide +kernel
theorem dX10_pit_81 : decode cX10_pit 81 = .ok (.invokevirtual 121, 3) := by decide +kernel
theorem dX10_pit_84 : decode cX10_pit 84 = .ok (.iastore, 1) := by decide +kernel
theorem dX10_pit_85 : decode cX10_pit 85 = .ok (.iconst 0, 1) := by decide +kernel
theorem dX10_pit_86 : decode cX10_pit 86 = .ok (.istore_n 3, 1) := by decide +kernel
theorem dX10_pit_87 : decode cX10_pit 87 = .ok (.iload_n 3, 1) := by decide +kernel
theorem dX10_pit_88 : decode cX10_pit 88 = .ok (.bipush 84, 2) := by decide +kernel
theorem dX10_pit_90 : decode cX10_pit 90 = .ok (.if_icmp .ge 35, 3) := by decide +kernel
theorem dX10_pit_125 : decode cX10_pit 125 = .ok (.aload_n 0, 1) := by decide +kernel
theorem dX10_pit_126 : decode cX10_pit 126 = .ok (.getfield 9, 3) := by decide +kernel
theorem dX10_pit_129 : decode cX10_pit 129 = .ok (.iconst 5, 1) := by decide +kernel
theorem dX10_pit_130 : decode cX10_pit 130 = .ok (.dup2, 1) := by decide +kernel
theorem dX10_pit_131 : decode cX10_pit 131 = .ok (.iaload, 1) := by decide +kernel
theorem dX10_pit_132 : decode cX10_pit 132 = .ok (.iconst 1, 1) := by decide +kernel
theorem dX10_pit_133 : decode cX10_pit 133 = .ok (.iadd, 1) := by decide +kernel
theorem dX10_pit_134 : decode cX10_pit 134 = .ok (.iastore, 1) := by decide +kernel
theorem dX10_pit_135 : decode cX10_pit 135 = .ok (.aload_n 0, 1) := by decide +kernel
theorem dX10_pit_136 : decode cX10_pit 136 = .ok (.getfield 9, 3) := by decide +kernel
theorem dX10_pit_139 : decode cX10_pit 139 = .ok (.iconst 5, 1) := by decide +kernel
theorem dX10_pit_140 : decode cX10_pit 140 = .ok (.iaload, 1) := by decide +kernel
theorem dX10_pit_141 : decode cX10_pit 141 = .ok (.ireturn, 1) := by decide +kernel
theorem dX10_pit_93 : decode cX10_pit 93 = .ok (.aload_n 0, 1) := by decide +kernel
theorem dX10_pit_94 : decode cX10_pit 94 = .ok (.getfield 43, 3) := by decide +kernel
theorem dX10_pit_97 : decode cX10_pit 97 = .ok (.iload_n 2, 1) := by decide +kernel
theorem dX10_pit_98 : decode cX10_pit 98 = .ok (.iconst 3, 1) := by decide +kernel
theorem dX10_pit_99 : decode cX10_pit 99 = .ok (.iadd, 1) := by decide +kernel
theorem dX10_pit_100 : decode cX10_pit 100 = .ok (.iload_n 3, 1) := by decide +kernel
theorem dX10_pit_101 : decode cX10_pit 101 = .ok (.iadd, 1) := by decide +kernel
theorem dX10_pit_102 : decode cX10_pit 102 = .ok (.aload_n 0, 1) := by decide +kernel
theorem dX10_pit_103 : decode cX10_pit 103 = .ok (.getfield 9, 3) := by decide +kernel
theorem dX10_pit_106 : decode cX10_pit 106 = .ok (.bipush 6, 2) := by decide +kernel
theorem dX10_pit_108 : decode cX10_pit 108 = .ok (.bipush 86, 2) := by decide +kernel
theorem dX10_pit_110 : decode cX10_pit 110 = .ok (.iload_n 1, 1) := by decide +kernel
theorem dX10_pit_111 : decode cX10_pit 111 = .ok (.imul, 1) := by decide +kernel
theorem dX10_pit_112 : decode cX10_pit 112 = .ok (.iadd, 1) := by decide +kernel
theorem dX10_pit_113 : decode cX10_pit 113 = .ok (.iconst 2, 1) := by decide +kernel
theorem dX10_pit_114 : decode cX10_pit 114 = .ok (.iadd, 1) := by decide +kernel
theorem dX10_pit_115 : decode cX10_pit 115 = .ok (.iload_n 3, 1) := by decide +kernel
theorem dX10_pit_116 : decode cX10_pit 116 = .ok (.iadd, 1) := by decide +kernel
theorem dX10_pit_117 : decode cX10_pit 117 = .ok (.iaload, 1) := by decide +kernel
theorem dX10_pit_118 : decode cX10_pit 118 = .ok (.iastore, 1) := by decide +kernel
theorem dX10_pit_119 : decode cX10_pit 119 = .ok (.iinc 3 1, 3) := by decide +kernel
theorem dX10_pit_122 : decode cX10_pit 122 = .ok (.goto (-35), 3) := by decide +kernel
theorem dX10_pit_30 : decode cX10_pit 30 = .ok (.aload_n 0, 1) := by decide +kernel
theorem dX10_pit_31 : decode cX10_pit 31 = .ok (.iconst 1, 1) := by decide +kernel
theorem dX10_pit_32 : decode cX10_pit 32 = .ok (.invokevirtual 394, 3) := by decide +kernel
theorem dX10_pit_35 : decode cX10_pit 35 = .ok (.ireturn, 1) := by decide +kernel
end
section
-- 9m6.up2.lean.txt
/-- the reference's pits are those -/
def isPr (pi : Nat → Int) (P : Nat → PT9) : Prop := ∀ k, k < 6 → (pi (90 * k) = (P k).1 ∧ pi (90 * k + 1) = (P k).2.1 ∧ pi (90 * k + 2) = ((P k).2.2.1 : Int) ∧ (P k).2.2.1 ≤ 12) ∧ ∀ q, q < 7 * (P k).2.2.1 → pi (90 * k + 3 + q) = (P k).2.2.2 q
theorem isPr.put {pi p9 : Nat → Int} {P : Nat → PT9} {kp kq : Nat} (v : PT9) (h : isPr pi P) (hq : 90 * kp = kq) (fA : ∀ j, j < kq ∨ kq + 90 ≤ j → p9 j = pi j) (fB : p9 kq = v.1) (f1 : p9 (kq + 1) = v.2.1) (f2 : p9 (kq + 2) = (v.2.2.1 : Int)) (h12 : v.2.2.1 ≤ 12) (fk : ∀ q, q < 7 * v.2.2.1 → p9 (kq + 3 + q) = v.2.2.2 q) : isPr p9 (ptP P kp v) := by
  intro k hk
  by_cases e : k = kp
  · subst e
    have e2 : ptP P k v k = v := if_pos rfl
    rw [e2, hq]
    exact ⟨⟨fB, f1, f2, h12⟩, fk⟩
  · have e2 : ptP P kp v k = P k := if_neg e
    rw [e2]
    obtain ⟨⟨a, b, c, d⟩, x⟩ := h k hk
    exact ⟨⟨(fA _ (by omega)).trans a, (fA _ (by omega)).trans b, (fA _ (by omega)).trans c, d⟩, fun q h9 => (fA _ (by omega)).trans (x q h9)⟩

set_option maxRecDepth 100000 in
set_option maxHeartbeats 4000000 in
theorem c_vPit_a (l : Launch) (D : va_G) (A : Nat → Prop) (cs : Nat → ClassId) (tt : Nat) (N : Nat) (ad : Nat → Nat) (g : Nat → va_E) (i : Nat) (hN : i + 30 ≤ N) (x : Int) (hx : 0 ≤ x ∧ x ≤ 512) (F r : Nat → Int) {st op ai fa mu tb tp : Nat → Int} (hM : okMr cs ad g i x F r st op ai fa mu tb tp) (hfr : okFr F op ai fa mu tb) (nsl : Nat) (hnsl : F 13 = (nsl : Int)) (W : WL9) (na : Nat) (H : Nat → WL9) (hRX : okRX F r x W na H) (rr : Nat → Int) (hrr : g (i + 11) = iA cs 6 rr) (P : Nat → PT9) (pp : Nat → Int) (hpp : g (i + 12) = iA cs 1080 pp) (hPr : isPr pp P ∧ okPt pp) (n : Nat) (hn4 : n < 4) : zM l yX10_pit cX10_pit 4 (some .int) ({ frames := 3, cells := 0, slots := 0, locals := 180 } : Room) D A cs tt N ad g [.ref (ad i), .int (zI ((n : Int)))] (rI0 N ad fun q g' => q = (pitA nsl ((n : Int)) W na H P).1 ∧ (∃ F' r' : Nat → Int, okMr cs ad g' i (x + 1) F' r' st op ai fa mu tb tp ∧ (F' 13 = F 13 ∧ F' 14 = F 14 ∧ F' 17 = F 17 ∧ F' 18 = F 18 ∧ F' 19 = F 19 ∧ F' 20 = F 20 ∧ F' 21 = F 21 ∧ F' 23 = F 23 ∧ F' 24 = F 24 ∧ F' 25 = F 25 ∧ F' 26 = F 26 ∧ F' 27 = F 27 ∧ F' 28 = F 28 ∧ F' 29 = F 29) ∧ okRX F' r' (x + 1) (pitA nsl ((n : Int)) W na H P).2.1 (pitA nsl ((n : Int)) W na H P).2.2.1 (pitA nsl ((n : Int)) W na H P).2.2.2.1 ∧ ∀ j, 14700 ≤ j → r' j = r j) ∧ (∃ rr' : Nat → Int, g' (i + 11) = iA cs 6 rr' ∧ ((q = -1 ∧ rr' = uZ rr 1 (rr 1 + 1)) ∨ (q ≠ -1 ∧ rr' = rr))) ∧ (∃ pp' : Nat → Int, g' (i + 12) = iA cs 1080 pp' ∧ isPr pp' (pitA nsl ((n : Int)) W na H P).2.2.2.2 ∧ okPt pp' ∧ ∀ j, 540 ≤ j → pp' j = pp j) ∧ (∀ j, j < i ∨ i + 30 ≤ j → g' j = g j) ∧ ∀ j, i + 8 ≤ j → j ≤ i + 10 → g' j = g j) := by
  obtain ⟨hg, ⟨⟨e13, e14, e25, e27, e29⟩, k15, k16, k17, k18, k19, k20, k23, k21⟩, hRD, hTx, hA, ns, nh, nd, rf, pi, te, ki, li, ok1, ok2, fo, dd, dps, ⟨ha1, ha2, ha3, ha4, ha5, ha6, ha7, ha8, ha9, ha10, ha11, ha12, ha13, ha14, ha15, ha24, ha25, ha26, ha27, ha28, ha29⟩, hEv, hPt, hns, htp⟩ := id hM
  obtain ⟨-, hop, hai, hfa, hT, hT1⟩ := id hEv
  have hay1 : zAt ad (i) (ad i) := rfl
  have hay2 : zAt ad (i + 1) (ad (i + 1)) := rfl
  have hay3 : zAt ad (i + 2) (ad (i + 2)) := rfl
  have hay4 : zAt ad (i + 3) (ad (i + 3)) := rfl
  have hay5 : zAt ad (i + 4) (ad (i + 4)) := rfl
  have hay6 : zAt ad (i + 5) (ad (i + 5)) := rfl
  have hay7 : zAt ad (i + 6) (ad (i + 6)) := rfl
  have hay8 : zAt ad (i + 7) (ad (i + 7)) := rfl
  have hay9 : zAt ad (i + 8) (ad (i + 8)) := rfl
  have hay10 : zAt ad (i + 9) (ad (i + 9)) := rfl
  have hay11 : zAt ad (i + 10) (ad (i + 10)) := rfl
  have hay12 : zAt ad (i + 11) (ad (i + 11)) := rfl
  have hay13 : zAt ad (i + 12) (ad (i + 12)) := rfl
  have hay14 : zAt ad (i + 13) (ad (i + 13)) := rfl
  have hay15 : zAt ad (i + 14) (ad (i + 14)) := rfl
  have hay16 : zAt ad (i + 15) (ad (i + 15)) := rfl
  have hay17 : zAt ad (i + 24) (ad (i + 24)) := rfl
  have hay18 : zAt ad (i + 25) (ad (i + 25)) := rfl
  have hay19 : zAt ad (i + 26) (ad (i + 26)) := rfl
  have hay20 : zAt ad (i + 27) (ad (i + 27)) := rfl
  have hay21 : zAt ad (i + 28) (ad (i + 28)) := rfl
  have hay22 : zAt ad (i + 29) (ad (i + 29)) := rfl
  obtain ⟨⟨hsyy23, htyy23, hnyy23, hpyy23⟩, hlyy23⟩ := okA.at0 hA
  simp only [Nat.zero_add] at hsyy23 hnyy23 hpyy23
  have hmn : ∀ s, s < 4 → 0 ≤ r (6 + 86 * s) ∧ r (6 + 86 * s) ≤ 12 := fun s hs => (hsyy23 s hs).1
  have h5 : 0 ≤ r 5 ∧ r 5 ≤ 6 := hpyy23
  obtain ⟨⟨hW, hwx⟩, ⟨fi, ⟨h15, h16⟩, ⟨hna, hfi⟩, hxh⟩, hHx⟩ := id hRX
  have hok9 := hwx.1
  have hW0 : r 0 = W.1 0 := hW.1 0 (by decide)
  have ht9 := hwx.2
  have ht8 := hok9.2.1
  have hr50 : r 5 = W.1 5 := hW.1 5 (by decide)
  have h56 := hok9.2.2.2
  obtain ⟨p, hp⟩ : ∃ p9 : Nat, 0 + 6 + 86 * n = p9 := ⟨_, rfl⟩
  have hS0 : isS r p (W.2 n) := by rw [← hp]; exact hW.2 n hn4
  have hOs := (hok9.1 n hn4).1
  obtain ⟨bB1, bB2, bB3, bB4⟩ := mBb (t := W.1 0 + x) (by omega)
  obtain ⟨⟨ny24, Ky25, roy26⟩, hSy27⟩ : ∃ S9 : SL9, S9 = W.2 n := ⟨_, rfl⟩
  obtain ⟨hny28, hry29, hCy30⟩ := (show isS r p (ny24, Ky25, roy26) by rw [hSy27]; exact hS0)
  have hny28 : r p = (ny24 : Int) := hny28
  have hry29 : r (p + 1) = roy26 := hry29
  have hCy30 : ∀ q, q < 7 * ny24 → r (p + 2 + q) = Ky25 q := hCy30
  have hOy319 := hOs
  rw [← hSy27] at hOy319
  obtain ⟨hOy31, hpy32, hmy33, hdy34, hagy35⟩ := id hOy319
  have hpy32 : 0 ≤ roy26 := hpy32
  have hmy33 : roy26 + sZ Ky25 ny24 ≤ _ := hmy33
  have hdy34 : dZ Ky25 ny24 ≤ _ := hdy34
  have hOy31 : okP Ky25 ny24 := hOy31
  have hsy36 := sZ_n hOy31 (k := ny24) (Nat.le_refl _)
  have hsy36n : ny24 ≤ 12 := hOy31.1
  have hagy35 : ∀ l, l < ny24 → Ky25 (7 * l + 5) ≤ _ := hagy35
  refine z_of (by decide) (Nat.le_of_ble_eq_true rfl) ?_
  intro pY eY sY mY below meth cY C hr hlk hnm
  refine z_lv (lv' := [(0, .ref (ad i)), (1, .int (zI ((n : Int))))]) [0, 1] rfl ?_
  refine z_aload_n C 0 dX10_pit_0 rfl ?_
  refine z_iconst (z := 0) C dX10_pit_1 rfl ?_
  refine z_put (fs' := mF ad (i) (uZ F 12 (0))) C (lt_A0 hN rfl) hay1 hg tyX10 tyX10_ok nmX10 rfl inA_X10 12 (by decide) q_1471 rfl rfl rfl rfl (Nat.le_of_ble_eq_true rfl) rfl dX10_pit_2 (fun gy37 egy38 => ?_)
  have hgy39 := up_s egy38
  refine z_iload_n C 1 dX10_pit_5 rfl ?_
  refine z_iconst (z := 0) C dX10_pit_6 rfl ?_
  refine z_aload_n C 0 dX10_pit_7 rfl ?_
  refine z_get (v := .int (zI (F 13))) C (lt_A0 hN rfl) hay1 hgy39 rfl inA_X10 13 (by decide) q_1472 rfl (fv (F := (uZ F 12 (0))) (f := 13) (fn rfl (by decide))) dX10_pit_8 ?_
  refine z_iconst (z := 1) C dX10_pit_11 rfl ?_
  refine z_isub C dX10_pit_12 ?_
  refine z_cS (As := [.int (zI ((n : Int))), .int (zI (0)), .int (zI ((F 13) - 1))]) (rest := []) C (c_X10_within l D A cs tt N ad _ ((n : Int)) (by omega) (0) (by omega) ((F 13) - 1) (by omega)) ms_yX10_within q_1686 hd_yX10_within (by decide) (Nat.le_of_ble_eq_true rfl) (by decide) dX10_pit_13 rfl (kI0 fun vy40 gvy40 hvy40 => ?_)
  obtain ⟨hvy40, rfl⟩ := hvy40
  rcases hvy40 with ⟨rfl, hxvy40⟩ | ⟨rfl, hxvy40⟩
  · refine z_if_eq (tgt := 30) C dX10_pit_16 (by decide) (by omega) (fun h => absurd h (by omega)) (fun _ => ?_)
    refine z_aload_n C 0 dX10_pit_19 rfl ?_
    refine z_get (v := .ref (ad (i + 1))) C (lt_A0 hN rfl) hay1 hgy39 rfl inA_X10 0 (by decide) q_1459 rfl rfl dX10_pit_20 ?_
    refine z_iconst (z := 5) C dX10_pit_23 rfl ?_
    have hgy41 := up_n egy38 ha1 (ne_o (i := i) (c := 1) (d := 0) rfl)
    refine z_iald C (lt_A (c := 1) hN rfl) hay2 hgy41 (5) (by omega) (by omega) (by decide) dX10_pit_24 ?_
    refine z_bipush (z := 6) C dX10_pit_25 (by decide) ?_
    refine z_icmp_ne (tgt := 36) C dX10_pit_27 (by decide) (by omega) (by omega) (fun hby42 => ?_) (fun hby42 => ?_)
    · refine z_aload_n C 0 dX10_pit_36 rfl ?_
      have hey44 : (uZ F 12 (0)) 15 = F 15 := (fn rfl (by decide))
      have hey45 : (uZ F 12 (0)) 16 = F 16 := (fn rfl (by decide))
      refine z_cV (As := []) (rest := []) (ci := 12) C (c_uKeeps l D A cs tt N ad _ i hN _ hgy39 _ hgy41 na fi (by omega) (by omega) hna hfi) (lt_A0 hN rfl) hay1 hgy39 rfl rfl mv_yX10_keeps q_1870 hd_yX10_keeps (by decide) (Nat.le_of_ble_eq_true rfl) (by decide) dX10_pit_37 rfl (kV0 fun gvy43 hvy43 => ?_)
      obtain ⟨⟨Fvy43, hcvy43, ⟨h15vy43, h16vy43⟩, hFvy43⟩, ⟨rvy43, hdvy43, hyvy43c, hyvy43f⟩, hfvy43⟩ := hvy43
      obtain ⟨fj, hfj⟩ : ∃ f9 : Nat, f9 = if na = 40 then (fi + 1) % 40 else fi := ⟨_, rfl⟩
      obtain ⟨mj, hmj⟩ : ∃ f9 : Nat, f9 = if na = 40 then 39 else na := ⟨_, rfl⟩
      rw [← hfj] at h16vy43 hyvy43c hyvy43f
      rw [← hmj] at hyvy43c hyvy43f
      have hfj4 : fj < 40 := by rw [hfj]; split <;> omega
      have hka9 : kA fj mj = 350 * (2 + (fj + mj) % 40) := by unfold kA; omega
      have hkb9 : 700 ≤ kA fj mj ∧ kA fj mj ≤ 14350 := by omega
      have hkn9 : kpN na ≤ 40 := by unfold kpN; split <;> omega
      have hAvy43 : okA rvy43 (x) := okA.copy (a := 0) (b := 2 + (fj + mj) % 40) (m := 1) hA (by omega) (by omega) (by omega) (fun k hk => by rw [← hka9, Nat.mul_zero, Nat.zero_add]; exact hyvy43c k (by omega)) (fun j hj => hyvy43f j (by omega))
      have hyvy43 : ∀ j, j < 700 → rvy43 j = r j := fun j hj => hyvy43f j (by omega)
      obtain ⟨⟨hsyy46, htyy46, hnyy46, hpyy46⟩, hlyy46⟩ := okA.at0 hAvy43
      simp only [Nat.zero_add] at hsyy46 hnyy46 hpyy46
      have hmn : ∀ s, s < 4 → 0 ≤ rvy43 (6 + 86 * s) ∧ rvy43 (6 + 86 * s) ≤ 12 := fun s hs => (hsyy46 s hs).1
      have h5 : 0 ≤ rvy43 5 ∧ rvy43 5 ≤ 6 := hpyy46
      have hk0vy43 : rvy43 0 = r 0 := hyvy43 0 (by omega)
      have hk1vy43 : rvy43 1 = r 1 := hyvy43 1 (by omega)
      have hk5vy43 : rvy43 5 = r 5 := hyvy43 5 (by omega)
      have hWk : isWr rvy43 0 W := hW.ext hok9.n12 (fun j a1 a2 => hyvy43 j (by omega))
      have hSk : isS rvy43 p (W.2 n) := by rw [← hp]; exact hWk.2 n hn4
      have hSj : isS rvy43 p (ny24, Ky25, roy26) := by rw [hSy27]; exact hSk
      obtain ⟨hnk, hrk, hCk⟩ := hSj
      have hnk : rvy43 p = (ny24 : Int) := hnk
      have hCk : ∀ q, q < 7 * ny24 → rvy43 (p + 2 + q) = Ky25 q := hCk
      refine z_bipush (z := 90) C dX10_pit_40 (by decide) ?_
      refine z_aload_n C 0 dX10_pit_42 rfl ?_
      refine z_get (v := .ref (ad (i + 1))) C (lt_A0 hN rfl) hay1 hcvy43 rfl inA_X10 0 (by decide) q_1459 rfl rfl dX10_pit_43 ?_
      refine z_iconst (z := 5) C dX10_pit_46 rfl ?_
      refine z_iald C (lt_A (c := 1) hN rfl) hay2 hdvy43 (5) (by omega) (by omega) (by decide) dX10_pit_47 ?_
      refine z_imul C dX10_pit_48 ?_
      have hr5k : rvy43 5 = W.1 5 := hWk.1 5 (by decide)
      obtain ⟨kp, hkp⟩ : ∃ n9 : Nat, W.1 5 = (n9 : Int) := ⟨(W.1 5).toNat, by omega⟩
      obtain ⟨kq, hkq⟩ : ∃ n9 : Nat, 90 * kp = n9 := ⟨_, rfl⟩
      have hkpn : (W.1 5).toNat = kp := by omega
      rw [show 90 * (rvy43 (5)) = (kq : Int) by omega]
      refine z_istore_n (lv' := [(2, .int (zI ((kq : Int)))), (0, .ref (ad i)), (1, .int (zI ((n : Int))))]) C dX10_pit_49 rfl (by decide) rfl ?_
      refine z_aload_n C 1 dX10_pit_50 rfl ?_
      refine z_get (v := .ref (ad (i + 12))) C (lt_A0 hN rfl) hay1 hcvy43 rfl inA_X10 11 (by decide) q_1470 rfl rfl dX10_pit_51 ?_
      refine z_iload_n C 0 dX10_pit_54 rfl ?_
      refine z_iload_n C 2 dX10_pit_55 rfl ?_
      have hgy47 := up_n egy38 hpp (ne_o (i := i) (c := 12) (d := 0) rfl)
      have hgy48 := (hfvy43 (i + 12) (ne_o (i := i) (c := 12) (d := 0) rfl) (ne_o (i := i) (c := 12) (d := 1) rfl)).trans hgy47
      refine z_iast C (lt_A (c := 12) hN rfl) hay13 hgy48 (kq) (by omega) (by omega) (by decide) dX10_pit_56 (fun gy49 egy50 => ?_)
      have hgy51 := up_s egy50
      obtain ⟨ry52, hvy53⟩ : ∃ rZ9 : Nat → Int, rZ9 = uZ pp (kq) ((n : Int)) := ⟨_, rfl⟩
      rw [← hvy53] at hgy51
      refine z_aload_n C 1 dX10_pit_57 rfl ?_
      have hgy54 := up_n egy50 hcvy43 (ne_o (i := i) (c := 0) (d := 12) rfl)
      refine z_get (v := .ref (ad (i + 12))) C (lt_A0 hN rfl) hay1 hgy54 rfl inA_X10 11 (by decide) q_1470 rfl rfl dX10_pit_58 ?_
      refine z_iload_n C 0 dX10_pit_61 rfl ?_
      refine z_iconst (z := 1) C dX10_pit_62 rfl ?_
      refine z_iadd C dX10_pit_63 ?_
      refine z_aload_n C 1 dX10_pit_64 rfl ?_
      refine z_get (v := .ref (ad (i + 1))) C (lt_A0 hN rfl) hay1 hgy54 rfl inA_X10 0 (by decide) q_1459 rfl rfl dX10_pit_65 ?_
      refine z_iconst (z := 0) C dX10_pit_68 rfl ?_
      have hgy55 := up_n egy50 hdvy43 (ne_o (i := i) (c := 1) (d := 12) rfl)
      refine z_iald C (lt_A (c := 1) hN rfl) hay2 hgy55 (0) (by omega) (by omega) (by decide) dX10_pit_69 ?_
      refine z_iast C (lt_A (c := 12) hN rfl) hay13 hgy51 (kq + 1) (by omega) (by omega) (by decide) dX10_pit_70 (fun gy56 egy57 => ?_)
      have hgy58 := up_s egy57
      obtain ⟨ry59, hvy60⟩ : ∃ rZ9 : Nat → Int, rZ9 = uZ ry52 (kq + 1) (rvy43 (0)) := ⟨_, rfl⟩
      rw [← hvy60] at hgy58
      refine z_aload_n C 1 dX10_pit_71 rfl ?_
      have hgy61 := up_n egy57 hgy54 (ne_o (i := i) (c := 0) (d := 12) rfl)
      refine z_get (v := .ref (ad (i + 12))) C (lt_A0 hN rfl) hay1 hgy61 rfl inA_X10 11 (by decide) q_1470 rfl rfl dX10_pit_72 ?_
      refine z_iload_n C 0 dX10_pit_75 rfl ?_
      refine z_iconst (z := 2) C dX10_pit_76 rfl ?_
      refine z_iadd C dX10_pit_77 ?_
      refine z_aload_n C 1 dX10_pit_78 rfl ?_
      refine z_iconst (z := 0) C dX10_pit_79 rfl ?_
      refine z_iload_n C 2 dX10_pit_80 rfl ?_
      have hgy62 := up_n egy57 hgy55 (ne_o (i := i) (c := 1) (d := 12) rfl)
      refine z_cV (As := [.int (zI (0)), .int (zI ((n : Int)))]) (rest := [.int (zI (((kq : Int)) + 2)), .ref (ad (i + 12))]) (ci := 12) C (c_X10_many l D A cs tt N ad _ i hN _ hgy61 _ hgy62 0 n p hp (by omega) (by omega)) (lt_A0 hN rfl) hay1 hgy61 rfl rfl mv_yX10_many q_1733 hd_yX10_many (by decide) (Nat.le_of_ble_eq_true rfl) (by decide) dX10_pit_81 rfl (kI0 fun vy63 gvy63 hvy63 => ?_)
      obtain ⟨rfl, rfl⟩ := hvy63
      rw [show rvy43 (p) = (ny24 : Int) from hnk]
      refine z_iast C (lt_A (c := 12) hN rfl) hay13 hgy58 (kq + 2) (by omega) (by omega) (by decide) dX10_pit_84 (fun gy64 egy65 => ?_)
      have hgy66 := up_s egy65
      obtain ⟨ry67, hvy68⟩ : ∃ rZ9 : Nat → Int, rZ9 = uZ ry59 (kq + 2) ((ny24 : Int)) := ⟨_, rfl⟩
      rw [← hvy68] at hgy66
      refine z_iconst (z := 0) C dX10_pit_85 rfl ?_
      refine z_istore_n (lv' := [(3, .int (zI (0))), (2, .int (zI ((kq : Int)))), (0, .ref (ad i)), (1, .int (zI ((n : Int))))]) C dX10_pit_86 rfl (by decide) rfl ?_
      have hfry69 : ∀ j, j ≠ kq + 2 → j ≠ kq + 1 → j ≠ kq → ry67 j = pp j := fun j n0 n1 n2 => (congrFun hvy68 _).trans ((uZ_n _ _ n0).trans ((congrFun hvy60 _).trans ((uZ_n _ _ n1).trans ((congrFun hvy53 _).trans ((uZ_n _ _ n2).trans (rfl))))))
      have hwy70 : ry67 (kq) = (n : Int) := (congrFun hvy68 _).trans ((uZ_n _ _ (by omega)).trans ((congrFun hvy60 _).trans ((uZ_n _ _ (by omega)).trans ((congrFun hvy53 _).trans (uZ_s _ _ _)))))
      have hwy71 : ry67 (kq + 1) = rvy43 (0) := (congrFun hvy68 _).trans ((uZ_n _ _ (by omega)).trans ((congrFun hvy60 _).trans (uZ_s _ _ _)))
      have hwy72 : ry67 (kq + 2) = (ny24 : Int) := (congrFun hvy68 _).trans (uZ_s _ _ _)
      have hr0k : rvy43 0 = W.1 0 := hWk.1 0 (by decide)
      have hoS9 := hSk.okS hOs
      have lpw : ∀ (n9 : Nat) (kk : Int) (p9 : Nat → Int) (g1 : Nat → va_E), (85 - kk).toNat = n9 → (g1 (i + 12) = iA cs 1080 p9) → (∀ j, j ≠ i + 12 → g1 j = gy64 j) → (∀ j, j < kq ∨ kq + 90 ≤ j → p9 j = pp j) → (p9 kq = (n : Int)) → (p9 (kq + 1) = rvy43 0) → (p9 (kq + 2) = rvy43 p) → (∀ k : Nat, (k : Int) < kk → p9 (kq + 3 + k) = rvy43 (p + 2 + k)) → (0 ≤ kk ∧ kk ≤ 84) → zV pY l eY ({ frames := 3, cells := 0, slots := 0, locals := 180 } : Room) sY mY ([.ref (ad i), .int (zI ((n : Int)))] : List Value).toArray below meth cY (MQ below (zPost D A (rI0 N ad fun q g' => q = (pitA nsl ((n : Int)) W na H P).1 ∧ (∃ F' r' : Nat → Int, okMr cs ad g' i (x + 1) F' r' st op ai fa mu tb tp ∧ (F' 13 = F 13 ∧ F' 14 = F 14 ∧ F' 17 = F 17 ∧ F' 18 = F 18 ∧ F' 19 = F 19 ∧ F' 20 = F 20 ∧ F' 21 = F 21 ∧ F' 23 = F 23 ∧ F' 24 = F 24 ∧ F' 25 = F 25 ∧ F' 26 = F 26 ∧ F' 27 = F 27 ∧ F' 28 = F 28 ∧ F' 29 = F 29) ∧ okRX F' r' (x + 1) (pitA nsl ((n : Int)) W na H P).2.1 (pitA nsl ((n : Int)) W na H P).2.2.1 (pitA nsl ((n : Int)) W na H P).2.2.2.1 ∧ ∀ j, 14700 ≤ j → r' j = r j) ∧ (∃ rr' : Nat → Int, g' (i + 11) = iA cs 6 rr' ∧ ((q = -1 ∧ rr' = uZ rr 1 (rr 1 + 1)) ∨ (q ≠ -1 ∧ rr' = rr))) ∧ (∃ pp' : Nat → Int, g' (i + 12) = iA cs 1080 pp' ∧ isPr pp' (pitA nsl ((n : Int)) W na H P).2.2.2.2 ∧ okPt pp' ∧ ∀ j, 540 ≤ j → pp' j = pp j) ∧ (∀ j, j < i ∨ i + 30 ≤ j → g' j = g j) ∧ ∀ j, i + 8 ≤ j → j ≤ i + 10 → g' j = g j)) ([.ref (ad i), .int (zI ((n : Int)))] : List Value).toArray sY ({ frames := 3, cells := 0, slots := 0, locals := 180 } : Room).cells ({ frames := 3, cells := 0, slots := 0, locals := 180 } : Room).slots A) D A 4 (N) ad g1 (0) (0) 87 [(0, .ref (ad i)), (1, .int (zI ((n : Int)))), (2, .int (zI ((kq : Int)))), (3, .int (zI (kk)))] [] := by
        intro n9
        induction n9 using Nat.strongRecOn with
        | ind n9 ih_lpw =>
          intro kk p9 g1 hm9 f2 f3w fA fB fD fC fk hvk
          obtain ⟨nk, hnk⟩ : ∃ n9 : Nat, kk = (n9 : Int) := ⟨kk.toNat, by omega⟩
          obtain ⟨nj, hnj⟩ : ∃ n9 : Nat, p + 2 + nk = n9 := ⟨_, rfl⟩
          obtain ⟨np, hnp⟩ : ∃ n9 : Nat, kq + 3 + nk = n9 := ⟨_, rfl⟩
          have hPt9 : kk = 84 → okPt p9 := fun e => okPt.put (kp := kp) (p := p) (s := n) (r := rvy43) hPr.2 (by omega) (by omega) hoS9 (by omega) (fun j a => fA j (by omega)) (by rw [show 90 * kp = kq by omega]; exact fB) (by rw [show 90 * kp = kq by omega]; exact fC) (fun m hm => by rw [show 90 * kp = kq by omega]; exact fk m (by omega))
          refine z_iload_n C 3 dX10_pit_87 rfl ?_
          refine z_bipush (z := 84) C dX10_pit_88 (by decide) ?_
          refine z_icmp_ge (tgt := 125) C dX10_pit_90 (by decide) (by omega) (by omega) (fun hby73 => ?_) (fun hby73 => ?_)
          · refine z_aload_n C 0 dX10_pit_125 rfl ?_
            have hgy74 := up_n egy65 hgy61 (ne_o (i := i) (c := 0) (d := 12) rfl)
            have hgy75 := (f3w (i) (ne_o (i := i) (c := 0) (d := 12) rfl)).trans hgy74
            refine z_get (v := .ref (ad (i + 1))) C (lt_A0 hN rfl) hay1 hgy75 rfl inA_X10 0 (by decide) q_1459 rfl rfl dX10_pit_126 ?_
            refine z_iconst (z := 5) C dX10_pit_129 rfl ?_
            refine z_dup2 C dX10_pit_130 rfl rfl ?_
            have hgy76 := up_n egy65 hgy62 (ne_o (i := i) (c := 1) (d := 12) rfl)
            have hgy77 := (f3w (i + 1) (ne_o (i := i) (c := 1) (d := 12) rfl)).trans hgy76
            refine z_iald C (lt_A (c := 1) hN rfl) hay2 hgy77 (5) (by omega) (by omega) (by decide) dX10_pit_131 ?_
            refine z_iconst (z := 1) C dX10_pit_132 rfl ?_
            refine z_iadd C dX10_pit_133 ?_
            refine z_iast C (lt_A (c := 1) hN rfl) hay2 hgy77 (5) (by omega) (by omega) (by decide) dX10_pit_134 (fun gy78 egy79 => ?_)
            have hgy80 := up_s egy79
            obtain ⟨ry81, hvy82⟩ : ∃ rZ9 : Nat → Int, rZ9 = uZ rvy43 (5) ((rvy43 (5)) + 1) := ⟨_, rfl⟩
            rw [← hvy82] at hgy80
            refine z_aload_n C 0 dX10_pit_135 rfl ?_
            have hgy83 := up_n egy79 hgy75 (ne_o (i := i) (c := 0) (d := 1) rfl)
            refine z_get (v := .ref (ad (i + 1))) C (lt_A0 hN rfl) hay1 hgy83 rfl inA_X10 0 (by decide) q_1459 rfl rfl dX10_pit_136 ?_
            refine z_iconst (z := 5) C dX10_pit_139 rfl ?_
            refine z_iald C (lt_A (c := 1) hN rfl) hay2 hgy80 (5) (by omega) (by omega) (by decide) dX10_pit_140 ?_
            rw [show ry81 (5) = (rvy43 (5)) + 1 from (congrFun hvy82 _).trans (uZ_s _ _ _)]
            have hfry84 : ∀ j, j ≠ 5 → ry81 j = rvy43 j := fun j n0 => (congrFun hvy82 _).trans ((uZ_n _ _ n0).trans (rfl))
            have hP10 := hPt9 (by omega)
            have h59 : ry81 5 = W.1 5 + 1 := ((congrFun hvy82 _).trans (uZ_s _ _ _)).trans (by rw [hr5k])
            have hw5 : isWr ry81 0 (uZ W.1 5 (W.1 5 + 1), W.2) := isWr.hd (uZ W.1 5 (W.1 5 + 1)) hWk hok9.n12 (fun j a1 => hfry84 j (by omega)) (fun k9 h9 => by
                by_cases e9 : k9 = 5
                · subst e9; rw [uZ_s]; exact h59
                · rw [uZ_n _ _ e9]; exact (hfry84 _ (by omega)).trans (hWk.1 k9 h9))
            have hokp : okWl (x + 1) (50 * (x + 1)) (uZ W.1 5 (W.1 5 + 1), W.2) := (hok9.mono (by omega) (by omega)).pt (by omega)
            have hA10 : okA ry81 (x + 1) := okA.first hAvy43 (by omega) (fun j a => hfry84 j (by omega)) (hw5.okW hokp) (by have h8 : ry81 0 = rvy43 0 := hfry84 0 (by omega); omega)
            have hFy85 : ∀ f, f ≠ 12 → f ≠ 15 → f ≠ 16 → Fvy43 f = F f := fun f n12 n15 n16 => ((hFvy43 f n15 n16).trans ((uZ_n _ _ n12).trans rfl))
            have hey86 : Fvy43 13 = F 13 := ((hFvy43 13 (by decide) (by decide)).trans (fn rfl (by decide)))
            have hey87 : Fvy43 14 = F 14 := ((hFvy43 14 (by decide) (by decide)).trans (fn rfl (by decide)))
            have hey88 : Fvy43 15 = Fvy43 15 := rfl
            have hey89 : Fvy43 16 = Fvy43 16 := rfl
            have hey90 : Fvy43 17 = F 17 := ((hFvy43 17 (by decide) (by decide)).trans (fn rfl (by decide)))
            have hey91 : Fvy43 18 = F 18 := ((hFvy43 18 (by decide) (by decide)).trans (fn rfl (by decide)))
            have hey92 : Fvy43 19 = F 19 := ((hFvy43 19 (by decide) (by decide)).trans (fn rfl (by decide)))
            have hey93 : Fvy43 20 = F 20 := ((hFvy43 20 (by decide) (by decide)).trans (fn rfl (by decide)))
            have hey94 : Fvy43 21 = F 21 := ((hFvy43 21 (by decide) (by decide)).trans (fn rfl (by decide)))
            have hey95 : Fvy43 23 = F 23 := ((hFvy43 23 (by decide) (by decide)).trans (fn rfl (by decide)))
            have hey96 : Fvy43 25 = F 25 := ((hFvy43 25 (by decide) (by decide)).trans (fn rfl (by decide)))
            have hey97 : Fvy43 27 = F 27 := ((hFvy43 27 (by decide) (by decide)).trans (fn rfl (by decide)))
            have hey98 : Fvy43 28 = F 28 := ((hFvy43 28 (by decide) (by decide)).trans (fn rfl (by decide)))
            have hey99 : Fvy43 29 = F 29 := ((hFvy43 29 (by decide) (by decide)).trans (fn rfl (by decide)))
            have hKy100 : okF Fvy43 := by unfold okF; omega
            have hgy102 := up_n egy79 f2 (ne_o (i := i) (c := 12) (d := 1) rfl)
            have hMy101 : okMr cs ad gy78 i (x + 1) Fvy43 ry81 st op ai fa mu tb tp := okMr.upd hM hgy83 hKy100 (fun f a => hFy85 f (by omega) (by omega) (by omega)) hgy80 (hA10.mono (by omega)) (fun j a b => by
                by_cases e0 : j = i + 12
                · exact Or.inr ⟨12, (p9), e0, (Or.inr (Or.inr ⟨rfl, hP10⟩)), by rw [e0]; exact hgy102⟩
                exact Or.inl (by rw [egy79, va_up_ne _ _ (by omega)]; rw [f3w _ (by omega)]; rw [egy65, va_up_ne _ _ (by omega)]; rw [egy57, va_up_ne _ _ (by omega)]; rw [egy50, va_up_ne _ _ (by omega)]; rw [hfvy43 _ (by omega) (by omega)]; rw [egy38, va_up_ne _ _ (by omega)]))
            have hkpy103 : Fvy43 13 = F 13 := ((hFvy43 13 (by decide) (by decide)).trans (fn rfl (by decide)))
            have hkpy104 : Fvy43 14 = F 14 := ((hFvy43 14 (by decide) (by decide)).trans (fn rfl (by decide)))
            have hkpy105 : Fvy43 17 = F 17 := ((hFvy43 17 (by decide) (by decide)).trans (fn rfl (by decide)))
            have hkpy106 : Fvy43 18 = F 18 := ((hFvy43 18 (by decide) (by decide)).trans (fn rfl (by decide)))
            have hkpy107 : Fvy43 19 = F 19 := ((hFvy43 19 (by decide) (by decide)).trans (fn rfl (by decide)))
            have hkpy108 : Fvy43 20 = F 20 := ((hFvy43 20 (by decide) (by decide)).trans (fn rfl (by decide)))
            have hkpy109 : Fvy43 21 = F 21 := ((hFvy43 21 (by decide) (by decide)).trans (fn rfl (by decide)))
            have hkpy110 : Fvy43 23 = F 23 := ((hFvy43 23 (by decide) (by decide)).trans (fn rfl (by decide)))
            have hkpy111 : Fvy43 24 = F 24 := ((hFvy43 24 (by decide) (by decide)).trans (fn rfl (by decide)))
            have hkpy112 : Fvy43 25 = F 25 := ((hFvy43 25 (by decide) (by decide)).trans (fn rfl (by decide)))
            have hkpy113 : Fvy43 26 = F 26 := ((hFvy43 26 (by decide) (by decide)).trans (fn rfl (by decide)))
            have hkpy114 : Fvy43 27 = F 27 := ((hFvy43 27 (by decide) (by decide)).trans (fn rfl (by decide)))
            have hkpy115 : Fvy43 28 = F 28 := ((hFvy43 28 (by decide) (by decide)).trans (fn rfl (by decide)))
            have hkpy116 : Fvy43 29 = F 29 := ((hFvy43 29 (by decide) (by decide)).trans (fn rfl (by decide)))
            have hWf : okWx (x + 1) (uZ W.1 5 (W.1 5 + 1), W.2) := ⟨hokp, by have h8 : uZ W.1 5 (W.1 5 + 1) 0 = W.1 0 := uZ_n _ _ (by decide); show uZ W.1 5 (W.1 5 + 1) 0 ≤ 2000; omega⟩
            have hX9 : okRX Fvy43 ry81 (x + 1) (uZ W.1 5 (W.1 5 + 1), W.2) (kpN na) (kpH na H W) := hRX.act (by omega) h16 hfj hmj (by omega) (by omega) (fun q hq => (hfry84 _ (by omega)).trans (hyvy43c q hq)) (fun j a1 a2 => (hfry84 j (by omega)).trans (hyvy43f j a2)) hw5 hWf
            have hPn : isPr p9 (ptP P kp ((n : Int), W.1 0, (W.2 n).1, (W.2 n).2.1)) := isPr.put ((n : Int), W.1 0, (W.2 n).1, (W.2 n).2.1) hPr.1 hkq fA fB (fD.trans hr0k) (fC.trans hSk.1) (hok9.n12 n hn4) (fun q hq => by have h7 : q < 7 * (W.2 n).1 := hq; have h6 := hok9.n12 n hn4; exact (fk q (by omega)).trans (hSk.2.2 q h7))
            have hE9 : pitA nsl ((n : Int)) W na H P = (W.1 5 + 1, (uZ W.1 5 (W.1 5 + 1), W.2), kpN na, kpH na H W, ptP P kp ((n : Int), W.1 0, (W.2 n).1, (W.2 n).2.1)) := by unfold pitA; rw [Int.toNat_natCast, hkpn]; exact if_pos (by omega)
            rw [hE9]
            have hgy117 := up_n egy38 hrr (ne_o (i := i) (c := 11) (d := 0) rfl)
            have hgy118 := (hfvy43 (i + 11) (ne_o (i := i) (c := 11) (d := 0) rfl) (ne_o (i := i) (c := 11) (d := 1) rfl)).trans hgy117
            have hgy119 := up_n egy50 hgy118 (ne_o (i := i) (c := 11) (d := 12) rfl)
            have hgy120 := up_n egy57 hgy119 (ne_o (i := i) (c := 11) (d := 12) rfl)
            have hgy121 := up_n egy65 hgy120 (ne_o (i := i) (c := 11) (d := 12) rfl)
            have hgy122 := (f3w (i + 11) (ne_o (i := i) (c := 11) (d := 12) rfl)).trans hgy121
            have hgy123 := up_n egy79 hgy122 (ne_o (i := i) (c := 11) (d := 1) rfl)
            exact z_iret C hr hlk dX10_pit_141 (by decide) (by decide) ⟨(rvy43 (5)) + 1, rfl, rfl, rfl, by omega, ⟨_, _, hMy101, by omega, hX9, fun j a1 => (hfry84 j (by omega)).trans (hyvy43f j (by omega))⟩, ⟨_, hgy123, Or.inr ⟨by omega, rfl⟩⟩, ⟨_, hgy102, hPn, hP10, fun j a1 => fA j (by omega)⟩, fun j j1 => by rw [egy79, va_up_ne _ _ (by omega)]; rw [f3w _ (by omega)]; rw [egy65, va_up_ne _ _ (by omega)]; rw [egy57, va_up_ne _ _ (by omega)]; rw [egy50, va_up_ne _ _ (by omega)]; rw [hfvy43 _ (by omega) (by omega)]; rw [egy38, va_up_ne _ _ (by omega)], fun j j1 j2 => by rw [egy79, va_up_ne _ _ (by omega)]; rw [f3w _ (by omega)]; rw [egy65, va_up_ne _ _ (by omega)]; rw [egy57, va_up_ne _ _ (by omega)]; rw [egy50, va_up_ne _ _ (by omega)]; rw [hfvy43 _ (by omega) (by omega)]; rw [egy38, va_up_ne _ _ (by omega)]⟩
          · refine z_aload_n C 0 dX10_pit_93 rfl ?_
            have hgy124 := up_n egy65 hgy61 (ne_o (i := i) (c := 0) (d := 12) rfl)
            have hgy125 := (f3w (i) (ne_o (i := i) (c := 0) (d := 12) rfl)).trans hgy124
            refine z_get (v := .ref (ad (i + 12))) C (lt_A0 hN rfl) hay1 hgy125 rfl inA_X10 11 (by decide) q_1470 rfl rfl dX10_pit_94 ?_
            refine z_iload_n C 2 dX10_pit_97 rfl ?_
            refine z_iconst (z := 3) C dX10_pit_98 rfl ?_
            refine z_iadd C dX10_pit_99 ?_
            refine z_iload_n C 3 dX10_pit_100 rfl ?_
            refine z_iadd C dX10_pit_101 ?_
            refine z_aload_n C 0 dX10_pit_102 rfl ?_
            refine z_get (v := .ref (ad (i + 1))) C (lt_A0 hN rfl) hay1 hgy125 rfl inA_X10 0 (by decide) q_1459 rfl rfl dX10_pit_103 ?_
            refine z_bipush (z := 6) C dX10_pit_106 (by decide) ?_
            refine z_bipush (z := 86) C dX10_pit_108 (by decide) ?_
            refine z_iload_n C 1 dX10_pit_110 rfl ?_
            refine z_imul C dX10_pit_111 ?_
            refine z_iadd C dX10_pit_112 ?_
            refine z_iconst (z := 2) C dX10_pit_113 rfl ?_
            refine z_iadd C dX10_pit_114 ?_
            refine z_iload_n C 3 dX10_pit_115 rfl ?_
            refine z_iadd C dX10_pit_116 ?_
            have hgy126 := up_n egy65 hgy62 (ne_o (i := i) (c := 1) (d := 12) rfl)
            have hgy127 := (f3w (i + 1) (ne_o (i := i) (c := 1) (d := 12) rfl)).trans hgy126
            refine z_iald C (lt_A (c := 1) hN rfl) hay2 hgy127 (nj) (by omega) (by omega) (by decide) dX10_pit_117 ?_
            refine z_iast C (lt_A (c := 12) hN rfl) hay13 f2 (np) (by omega) (by omega) (by decide) dX10_pit_118 (fun gy128 egy129 => ?_)
            have hgy130 := up_s egy129
            obtain ⟨ry131, hvy132⟩ : ∃ rZ9 : Nat → Int, rZ9 = uZ p9 (np) (rvy43 (nj)) := ⟨_, rfl⟩
            rw [← hvy132] at hgy130
            refine z_iinc (z := kk + 1) (lv' := [(3, .int (zI (kk + 1))), (0, .ref (ad i)), (1, .int (zI ((n : Int)))), (2, .int (zI ((kq : Int))))]) (j := 3) C dX10_pit_119 rfl rfl (by decide) rfl ?_
            refine z_goto (tgt := 87) C dX10_pit_122 (by decide) ?_
            have hfry133 : ∀ j, j ≠ np → ry131 j = p9 j := fun j n0 => (congrFun hvy132 _).trans ((uZ_n _ _ n0).trans (rfl))
            have hwy134 : ry131 (np) = rvy43 (nj) := (congrFun hvy132 _).trans (uZ_s _ _ _)
            have hrj : rvy43 nj = rvy43 (nj) := rfl
            refine z_lv (lv' := [(0, .ref (ad i)), (1, .int (zI ((n : Int)))), (2, .int (zI ((kq : Int)))), (3, .int (zI (kk + 1)))]) [1, 2, 3, 0] rfl ?_
            exact ih_lpw _ (by omega) (kk + 1) ry131 gy128 rfl hgy130 (fun j j1 => by rw [egy129, va_up_ne _ _ (by omega)]; exact f3w j j1) (fun j a => (hfry133 j (by omega)).trans (fA j a)) ((hfry133 kq (by omega)).trans fB) ((hfry133 (kq + 1) (by omega)).trans fD) ((hfry133 (kq + 2) (by omega)).trans fC) (fun k a => by by_cases e : k = nk; (subst e; rw [show kq + 3 + k = np by omega, show p + 2 + k = nj by omega]; omega); (rw [hfry133 (kq + 3 + k) (by omega)]; exact fk k (by omega))) (by omega)
      refine z_lv (lv' := [(0, .ref (ad i)), (1, .int (zI ((n : Int)))), (2, .int (zI ((kq : Int)))), (3, .int (zI (0)))]) [2, 3, 1, 0] rfl ?_
      exact lpw _ (0) ry67 gy64 rfl hgy66 (fun j _ => rfl) (fun j a => hfry69 j (by omega) (by omega) (by omega)) (by omega) (by omega) (by omega) (fun k a => absurd a (by omega)) (by omega)
    · refine z_aload_n C 0 dX10_pit_30 rfl ?_
      refine z_iconst (z := 1) C dX10_pit_31 rfl ?_
      have hgy135 := up_n egy38 hrr (ne_o (i := i) (c := 11) (d := 0) rfl)
      refine z_cV (As := [.int (zI (1))]) (rest := []) (ci := 12) C (c_uRefuses l D A cs tt N ad _ i hN _ hgy39 _ hgy135 1 (by omega)) (lt_A0 hN rfl) hay1 hgy39 rfl rfl mv_yX10_refuses q_1866 hd_yX10_refuses (by decide) (Nat.le_of_ble_eq_true rfl) (by decide) dX10_pit_32 rfl (kI0 fun vy136 gvy136 hvy136 => ?_)
      obtain ⟨rfl, hdvy136, hfvy136⟩ := hvy136
      have hgy137 := (hfvy136 (i) (ne_o (i := i) (c := 0) (d := 11) rfl)).trans hgy39
      have hgy138 := (hfvy136 (i + 1) (ne_o (i := i) (c := 1) (d := 11) rfl)).trans hgy41
      have hFy139 : ∀ f, f ≠ 12 → (uZ F 12 (0)) f = F f := fun f n12 => ((uZ_n _ _ n12).trans rfl)
      have hey140 : (uZ F 12 (0)) 13 = F 13 := (fn rfl (by decide))
      have hey141 : (uZ F 12 (0)) 14 = F 14 := (fn rfl (by decide))
      have hey142 : (uZ F 12 (0)) 15 = F 15 := (fn rfl (by decide))
      have hey143 : (uZ F 12 (0)) 16 = F 16 := (fn rfl (by decide))
      have hey144 : (uZ F 12 (0)) 17 = F 17 := (fn rfl (by decide))
      have hey145 : (uZ F 12 (0)) 18 = F 18 := (fn rfl (by decide))
      have hey146 : (uZ F 12 (0)) 19 = F 19 := (fn rfl (by decide))
      have hey147 : (uZ F 12 (0)) 20 = F 20 := (fn rfl (by decide))
      have hey148 : (uZ F 12 (0)) 21 = F 21 := (fn rfl (by decide))
      have hey149 : (uZ F 12 (0)) 23 = F 23 := (fn rfl (by decide))
      have hey150 : (uZ F 12 (0)) 25 = F 25 := (fn rfl (by decide))
      have hey151 : (uZ F 12 (0)) 27 = F 27 := (fn rfl (by decide))
      have hey152 : (uZ F 12 (0)) 28 = F 28 := (fn rfl (by decide))
      have hey153 : (uZ F 12 (0)) 29 = F 29 := (fn rfl (by decide))
      have hKy154 : okF (uZ F 12 (0)) := okF.mv hM.2.1 hey140 hey141 hey142 hey143 hey144 hey145 hey146 hey147 hey148 hey149 hey150 hey151 hey152 hey153
      have hMy155 : okMr cs ad gvy136 i (x + 1) (uZ F 12 (0)) r st op ai fa mu tb tp := okMr.upd hM hgy137 hKy154 (fun f a => hFy139 f (by omega)) hgy138 (hA.mono (by omega)) (fun j a b => by
          by_cases e0 : j = i + 11
          · exact Or.inr ⟨11, _, e0, lsP.l (by decide), by rw [e0]; exact hdvy136⟩
          exact Or.inl (by rw [hfvy136 _ (by omega)]; rw [egy38, va_up_ne _ _ (by omega)]))
      have hkpy156 : (uZ F 12 (0)) 13 = F 13 := (fn rfl (by decide))
      have hkpy157 : (uZ F 12 (0)) 14 = F 14 := (fn rfl (by decide))
      have hkpy158 : (uZ F 12 (0)) 17 = F 17 := (fn rfl (by decide))
      have hkpy159 : (uZ F 12 (0)) 18 = F 18 := (fn rfl (by decide))
      have hkpy160 : (uZ F 12 (0)) 19 = F 19 := (fn rfl (by decide))
      have hkpy161 : (uZ F 12 (0)) 20 = F 20 := (fn rfl (by decide))
      have hkpy162 : (uZ F 12 (0)) 21 = F 21 := (fn rfl (by decide))
      have hkpy163 : (uZ F 12 (0)) 23 = F 23 := (fn rfl (by decide))
      have hkpy164 : (uZ F 12 (0)) 24 = F 24 := (fn rfl (by decide))
      have hkpy165 : (uZ F 12 (0)) 25 = F 25 := (fn rfl (by decide))
      have hkpy166 : (uZ F 12 (0)) 26 = F 26 := (fn rfl (by decide))
      have hkpy167 : (uZ F 12 (0)) 27 = F 27 := (fn rfl (by decide))
      have hkpy168 : (uZ F 12 (0)) 28 = F 28 := (fn rfl (by decide))
      have hkpy169 : (uZ F 12 (0)) 29 = F 29 := (fn rfl (by decide))
      rw [show pitA nsl ((n : Int)) W na H P = (-1, W, na, H, P) from if_neg (by omega)]
      have hgy170 := up_n egy38 hpp (ne_o (i := i) (c := 12) (d := 0) rfl)
      have hgy171 := (hfvy136 (i + 12) (ne_o (i := i) (c := 12) (d := 11) rfl)).trans hgy170
      exact z_iret C hr hlk dX10_pit_35 (by decide) (by decide) ⟨-1, rfl, rfl, rfl, by omega, ⟨_, _, hMy155, by omega, hRX.nx (by omega) (fn rfl (by decide)) (fn rfl (by decide)) (fun j _ => rfl), fun j _ => rfl⟩, ⟨_, hdvy136, Or.inl ⟨by omega, rfl⟩⟩, ⟨_, hgy171, hPr.1, hPr.2, fun _ _ => rfl⟩, fun j j1 => by rw [hfvy136 _ (by omega)]; rw [egy38, va_up_ne _ _ (by omega)], fun j j1 j2 => by rw [hfvy136 _ (by omega)]; rw [egy38, va_up_ne _ _ (by omega)]⟩
  · refine z_if_eq (tgt := 30) C dX10_pit_16 (by decide) (by omega) (fun _ => ?_) (fun h => absurd h (by omega))
    refine z_aload_n C 0 dX10_pit_30 rfl ?_
    refine z_iconst (z := 1) C dX10_pit_31 rfl ?_
    have hgy172 := up_n egy38 hrr (ne_o (i := i) (c := 11) (d := 0) rfl)
    refine z_cV (As := [.int (zI (1))]) (rest := []) (ci := 12) C (c_uRefuses l D A cs tt N ad _ i hN _ hgy39 _ hgy172 1 (by omega)) (lt_A0 hN rfl) hay1 hgy39 rfl rfl mv_yX10_refuses q_1866 hd_yX10_refuses (by decide) (Nat.le_of_ble_eq_true rfl) (by decide) dX10_pit_32 rfl (kI0 fun vy173 gvy173 hvy173 => ?_)
    obtain ⟨rfl, hdvy173, hfvy173⟩ := hvy173
    have hgy174 := (hfvy173 (i) (ne_o (i := i) (c := 0) (d := 11) rfl)).trans hgy39
    have hgy175 := up_n egy38 ha1 (ne_o (i := i) (c := 1) (d := 0) rfl)
    have hgy176 := (hfvy173 (i + 1) (ne_o (i := i) (c := 1) (d := 11) rfl)).trans hgy175
    have hFy177 : ∀ f, f ≠ 12 → (uZ F 12 (0)) f = F f := fun f n12 => ((uZ_n _ _ n12).trans rfl)
    have hey178 : (uZ F 12 (0)) 13 = F 13 := (fn rfl (by decide))
    have hey179 : (uZ F 12 (0)) 14 = F 14 := (fn rfl (by decide))
    have hey180 : (uZ F 12 (0)) 15 = F 15 := (fn rfl (by decide))
    have hey181 : (uZ F 12 (0)) 16 = F 16 := (fn rfl (by decide))
    have hey182 : (uZ F 12 (0)) 17 = F 17 := (fn rfl (by decide))
    have hey183 : (uZ F 12 (0)) 18 = F 18 := (fn rfl (by decide))
    have hey184 : (uZ F 12 (0)) 19 = F 19 := (fn rfl (by decide))
    have hey185 : (uZ F 12 (0)) 20 = F 20 := (fn rfl (by decide))
    have hey186 : (uZ F 12 (0)) 21 = F 21 := (fn rfl (by decide))
    have hey187 : (uZ F 12 (0)) 23 = F 23 := (fn rfl (by decide))
    have hey188 : (uZ F 12 (0)) 25 = F 25 := (fn rfl (by decide))
    have hey189 : (uZ F 12 (0)) 27 = F 27 := (fn rfl (by decide))
    have hey190 : (uZ F 12 (0)) 28 = F 28 := (fn rfl (by decide))
    have hey191 : (uZ F 12 (0)) 29 = F 29 := (fn rfl (by decide))
    have hKy192 : okF (uZ F 12 (0)) := okF.mv hM.2.1 hey178 hey179 hey180 hey181 hey182 hey183 hey184 hey185 hey186 hey187 hey188 hey189 hey190 hey191
    have hMy193 : okMr cs ad gvy173 i (x + 1) (uZ F 12 (0)) r st op ai fa mu tb tp := okMr.upd hM hgy174 hKy192 (fun f a => hFy177 f (by omega)) hgy176 (hA.mono (by omega)) (fun j a b => by
        by_cases e0 : j = i + 11
        · exact Or.inr ⟨11, _, e0, lsP.l (by decide), by rw [e0]; exact hdvy173⟩
        exact Or.inl (by rw [hfvy173 _ (by omega)]; rw [egy38, va_up_ne _ _ (by omega)]))
    have hkpy194 : (uZ F 12 (0)) 13 = F 13 := (fn rfl (by decide))
    have hkpy195 : (uZ F 12 (0)) 14 = F 14 := (fn rfl (by decide))
    have hkpy196 : (uZ F 12 (0)) 17 = F 17 := (fn rfl (by decide))
    have hkpy197 : (uZ F 12 (0)) 18 = F 18 := (fn rfl (by decide))
    have hkpy198 : (uZ F 12 (0)) 19 = F 19 := (fn rfl (by decide))
    have hkpy199 : (uZ F 12 (0)) 20 = F 20 := (fn rfl (by decide))
    have hkpy200 : (uZ F 12 (0)) 21 = F 21 := (fn rfl (by decide))
    have hkpy201 : (uZ F 12 (0)) 23 = F 23 := (fn rfl (by decide))
    have hkpy202 : (uZ F 12 (0)) 24 = F 24 := (fn rfl (by decide))
    have hkpy203 : (uZ F 12 (0)) 25 = F 25 := (fn rfl (by decide))
    have hkpy204 : (uZ F 12 (0)) 26 = F 26 := (fn rfl (by decide))
    have hkpy205 : (uZ F 12 (0)) 27 = F 27 := (fn rfl (by decide))
    have hkpy206 : (uZ F 12 (0)) 28 = F 28 := (fn rfl (by decide))
    have hkpy207 : (uZ F 12 (0)) 29 = F 29 := (fn rfl (by decide))
    rw [show pitA nsl ((n : Int)) W na H P = (-1, W, na, H, P) from if_neg (by omega)]
    have hgy208 := up_n egy38 hpp (ne_o (i := i) (c := 12) (d := 0) rfl)
    have hgy209 := (hfvy173 (i + 12) (ne_o (i := i) (c := 12) (d := 11) rfl)).trans hgy208
    exact z_iret C hr hlk dX10_pit_35 (by decide) (by decide) ⟨-1, rfl, rfl, rfl, by omega, ⟨_, _, hMy193, by omega, hRX.nx (by omega) (fn rfl (by decide)) (fn rfl (by decide)) (fun j _ => rfl), fun j _ => rfl⟩, ⟨_, hdvy173, Or.inl ⟨by omega, rfl⟩⟩, ⟨_, hgy209, hPr.1, hPr.2, fun _ _ => rfl⟩, fun j j1 => by rw [hfvy173 _ (by omega)]; rw [egy38, va_up_ne _ _ (by omega)], fun j j1 j2 => by rw [hfvy173 _ (by omega)]; rw [egy38, va_up_ne _ _ (by omega)]⟩

set_option maxRecDepth 100000 in
set_option maxHeartbeats 4000000 in
theorem c_vPit_b (l : Launch) (D : va_G) (A : Nat → Prop) (cs : Nat → ClassId) (tt : Nat) (N : Nat) (ad : Nat → Nat) (g : Nat → va_E) (i : Nat) (hN : i + 30 ≤ N) (x : Int) (hx : 0 ≤ x ∧ x ≤ 512) (F r : Nat → Int) {st op ai fa mu tb tp : Nat → Int} (hM : okMr cs ad g i x F r st op ai fa mu tb tp) (hfr : okFr F op ai fa mu tb) (nsl : Nat) (hnsl : F 13 = (nsl : Int)) (W : WL9) (na : Nat) (H : Nat → WL9) (hRX : okRX F r x W na H) (rr : Nat → Int) (hrr : g (i + 11) = iA cs 6 rr) (P : Nat → PT9) (pp : Nat → Int) (hpp : g (i + 12) = iA cs 1080 pp) (hPr : isPr pp P ∧ okPt pp) (z : Int) (hz : -2147483648 ≤ z ∧ z ≤ 2147483647) (hzo : z < 0 ∨ 3 < z) : zM l yX10_pit cX10_pit 4 (some .int) ({ frames := 3, cells := 0, slots := 0, locals := 180 } : Room) D A cs tt N ad g [.ref (ad i), .int (zI (z))] (rI0 N ad fun q g' => q = (pitA nsl (z) W na H P).1 ∧ (∃ F' r' : Nat → Int, okMr cs ad g' i (x + 1) F' r' st op ai fa mu tb tp ∧ (F' 13 = F 13 ∧ F' 14 = F 14 ∧ F' 17 = F 17 ∧ F' 18 = F 18 ∧ F' 19 = F 19 ∧ F' 20 = F 20 ∧ F' 21 = F 21 ∧ F' 23 = F 23 ∧ F' 24 = F 24 ∧ F' 25 = F 25 ∧ F' 26 = F 26 ∧ F' 27 = F 27 ∧ F' 28 = F 28 ∧ F' 29 = F 29) ∧ okRX F' r' (x + 1) (pitA nsl (z) W na H P).2.1 (pitA nsl (z) W na H P).2.2.1 (pitA nsl (z) W na H P).2.2.2.1 ∧ ∀ j, 14700 ≤ j → r' j = r j) ∧ (∃ rr' : Nat → Int, g' (i + 11) = iA cs 6 rr' ∧ ((q = -1 ∧ rr' = uZ rr 1 (rr 1 + 1)) ∨ (q ≠ -1 ∧ rr' = rr))) ∧ (∃ pp' : Nat → Int, g' (i + 12) = iA cs 1080 pp' ∧ isPr pp' (pitA nsl (z) W na H P).2.2.2.2 ∧ okPt pp' ∧ ∀ j, 540 ≤ j → pp' j = pp j) ∧ (∀ j, j < i ∨ i + 30 ≤ j → g' j = g j) ∧ ∀ j, i + 8 ≤ j → j ≤ i + 10 → g' j = g j) := by
  obtain ⟨hg, ⟨⟨e13, e14, e25, e27, e29⟩, k15, k16, k17, k18, k19, k20, k23, k21⟩, hRD, hTx, hA, ns, nh, nd, rf, pi, te, ki, li, ok1, ok2, fo, dd, dps, ⟨ha1, ha2, ha3, ha4, ha5, ha6, ha7, ha8, ha9, ha10, ha11, ha12, ha13, ha14, ha15, ha24, ha25, ha26, ha27, ha28, ha29⟩, hEv, hPt, hns, htp⟩ := id hM
  obtain ⟨-, hop, hai, hfa, hT, hT1⟩ := id hEv
  have hay1 : zAt ad (i) (ad i) := rfl
  have hay2 : zAt ad (i + 1) (ad (i + 1)) := rfl
  have hay3 : zAt ad (i + 2) (ad (i + 2)) := rfl
  have hay4 : zAt ad (i + 3) (ad (i + 3)) := rfl
  have hay5 : zAt ad (i + 4) (ad (i + 4)) := rfl
  have hay6 : zAt ad (i + 5) (ad (i + 5)) := rfl
  have hay7 : zAt ad (i + 6) (ad (i + 6)) := rfl
  have hay8 : zAt ad (i + 7) (ad (i + 7)) := rfl
  have hay9 : zAt ad (i + 8) (ad (i + 8)) := rfl
  have hay10 : zAt ad (i + 9) (ad (i + 9)) := rfl
  have hay11 : zAt ad (i + 10) (ad (i + 10)) := rfl
  have hay12 : zAt ad (i + 11) (ad (i + 11)) := rfl
  have hay13 : zAt ad (i + 12) (ad (i + 12)) := rfl
  have hay14 : zAt ad (i + 13) (ad (i + 13)) := rfl
  have hay15 : zAt ad (i + 14) (ad (i + 14)) := rfl
  have hay16 : zAt ad (i + 15) (ad (i + 15)) := rfl
  have hay17 : zAt ad (i + 24) (ad (i + 24)) := rfl
  have hay18 : zAt ad (i + 25) (ad (i + 25)) := rfl
  have hay19 : zAt ad (i + 26) (ad (i + 26)) := rfl
  have hay20 : zAt ad (i + 27) (ad (i + 27)) := rfl
  have hay21 : zAt ad (i + 28) (ad (i + 28)) := rfl
  have hay22 : zAt ad (i + 29) (ad (i + 29)) := rfl
  obtain ⟨⟨hsyy23, htyy23, hnyy23, hpyy23⟩, hlyy23⟩ := okA.at0 hA
  simp only [Nat.zero_add] at hsyy23 hnyy23 hpyy23
  have hmn : ∀ s, s < 4 → 0 ≤ r (6 + 86 * s) ∧ r (6 + 86 * s) ≤ 12 := fun s hs => (hsyy23 s hs).1
  have h5 : 0 ≤ r 5 ∧ r 5 ≤ 6 := hpyy23
  obtain ⟨⟨hW, hwx⟩, ⟨fi, ⟨h15, h16⟩, ⟨hna, hfi⟩, hxh⟩, hHx⟩ := id hRX
  have hok9 := hwx.1
  have hW0 : r 0 = W.1 0 := hW.1 0 (by decide)
  have ht9 := hwx.2
  have ht8 := hok9.2.1
  have hr50 : r 5 = W.1 5 := hW.1 5 (by decide)
  have h56 := hok9.2.2.2
  refine z_of (by decide) (Nat.le_of_ble_eq_true rfl) ?_
  intro pY eY sY mY below meth cY C hr hlk hnm
  refine z_lv (lv' := [(0, .ref (ad i)), (1, .int (zI (z)))]) [0, 1] rfl ?_
  refine z_aload_n C 0 dX10_pit_0 rfl ?_
  refine z_iconst (z := 0) C dX10_pit_1 rfl ?_
  refine z_put (fs' := mF ad (i) (uZ F 12 (0))) C (lt_A0 hN rfl) hay1 hg tyX10 tyX10_ok nmX10 rfl inA_X10 12 (by decide) q_1471 rfl rfl rfl rfl (Nat.le_of_ble_eq_true rfl) rfl dX10_pit_2 (fun gy24 egy25 => ?_)
  have hgy26 := up_s egy25
  refine z_iload_n C 1 dX10_pit_5 rfl ?_
  refine z_iconst (z := 0) C dX10_pit_6 rfl ?_
  refine z_aload_n C 0 dX10_pit_7 rfl ?_
  refine z_get (v := .int (zI (F 13))) C (lt_A0 hN rfl) hay1 hgy26 rfl inA_X10 13 (by decide) q_1472 rfl (fv (F := (uZ F 12 (0))) (f := 13) (fn rfl (by decide))) dX10_pit_8 ?_
  refine z_iconst (z := 1) C dX10_pit_11 rfl ?_
  refine z_isub C dX10_pit_12 ?_
  refine z_cS (As := [.int (zI (z)), .int (zI (0)), .int (zI ((F 13) - 1))]) (rest := []) C (c_X10_within l D A cs tt N ad _ (z) (by omega) (0) (by omega) ((F 13) - 1) (by omega)) ms_yX10_within q_1686 hd_yX10_within (by decide) (Nat.le_of_ble_eq_true rfl) (by decide) dX10_pit_13 rfl (kI0 fun vy27 gvy27 hvy27 => ?_)
  obtain ⟨hvy27, rfl⟩ := hvy27
  obtain rfl : vy27 = 0 := by omega
  refine z_if_eq (tgt := 30) C dX10_pit_16 (by decide) (by omega) (fun _ => ?_) (fun h => absurd h (by omega))
  refine z_aload_n C 0 dX10_pit_30 rfl ?_
  refine z_iconst (z := 1) C dX10_pit_31 rfl ?_
  have hgy28 := up_n egy25 hrr (ne_o (i := i) (c := 11) (d := 0) rfl)
  refine z_cV (As := [.int (zI (1))]) (rest := []) (ci := 12) C (c_uRefuses l D A cs tt N ad _ i hN _ hgy26 _ hgy28 1 (by omega)) (lt_A0 hN rfl) hay1 hgy26 rfl rfl mv_yX10_refuses q_1866 hd_yX10_refuses (by decide) (Nat.le_of_ble_eq_true rfl) (by decide) dX10_pit_32 rfl (kI0 fun vy29 gvy29 hvy29 => ?_)
  obtain ⟨rfl, hdvy29, hfvy29⟩ := hvy29
  have hgy30 := (hfvy29 (i) (ne_o (i := i) (c := 0) (d := 11) rfl)).trans hgy26
  have hgy31 := up_n egy25 ha1 (ne_o (i := i) (c := 1) (d := 0) rfl)
  have hgy32 := (hfvy29 (i + 1) (ne_o (i := i) (c := 1) (d := 11) rfl)).trans hgy31
  have hFy33 : ∀ f, f ≠ 12 → (uZ F 12 (0)) f = F f := fun f n12 => ((uZ_n _ _ n12).trans rfl)
  have hey34 : (uZ F 12 (0)) 13 = F 13 := (fn rfl (by decide))
  have hey35 : (uZ F 12 (0)) 14 = F 14 := (fn rfl (by decide))
  have hey36 : (uZ F 12 (0)) 15 = F 15 := (fn rfl (by decide))
  have hey37 : (uZ F 12 (0)) 16 = F 16 := (fn rfl (by decide))
  have hey38 : (uZ F 12 (0)) 17 = F 17 := (fn rfl (by decide))
  have hey39 : (uZ F 12 (0)) 18 = F 18 := (fn rfl (by decide))
  have hey40 : (uZ F 12 (0)) 19 = F 19 := (fn rfl (by decide))
  have hey41 : (uZ F 12 (0)) 20 = F 20 := (fn rfl (by decide))
  have hey42 : (uZ F 12 (0)) 21 = F 21 := (fn rfl (by decide))
  have hey43 : (uZ F 12 (0)) 23 = F 23 := (fn rfl (by decide))
  have hey44 : (uZ F 12 (0)) 25 = F 25 := (fn rfl (by decide))
  have hey45 : (uZ F 12 (0)) 27 = F 27 := (fn rfl (by decide))
  have hey46 : (uZ F 12 (0)) 28 = F 28 := (fn rfl (by decide))
  have hey47 : (uZ F 12 (0)) 29 = F 29 := (fn rfl (by decide))
  have hKy48 : okF (uZ F 12 (0)) := okF.mv hM.2.1 hey34 hey35 hey36 hey37 hey38 hey39 hey40 hey41 hey42 hey43 hey44 hey45 hey46 hey47
  have hMy49 : okMr cs ad gvy29 i (x + 1) (uZ F 12 (0)) r st op ai fa mu tb tp := okMr.upd hM hgy30 hKy48 (fun f a => hFy33 f (by omega)) hgy32 (hA.mono (by omega)) (fun j a b => by
      by_cases e0 : j = i + 11
      · exact Or.inr ⟨11, _, e0, lsP.l (by decide), by rw [e0]; exact hdvy29⟩
      exact Or.inl (by rw [hfvy29 _ (by omega)]; rw [egy25, va_up_ne _ _ (by omega)]))
  have hkpy50 : (uZ F 12 (0)) 13 = F 13 := (fn rfl (by decide))
  have hkpy51 : (uZ F 12 (0)) 14 = F 14 := (fn rfl (by decide))
  have hkpy52 : (uZ F 12 (0)) 17 = F 17 := (fn rfl (by decide))
  have hkpy53 : (uZ F 12 (0)) 18 = F 18 := (fn rfl (by decide))
  have hkpy54 : (uZ F 12 (0)) 19 = F 19 := (fn rfl (by decide))
  have hkpy55 : (uZ F 12 (0)) 20 = F 20 := (fn rfl (by decide))
  have hkpy56 : (uZ F 12 (0)) 21 = F 21 := (fn rfl (by decide))
  have hkpy57 : (uZ F 12 (0)) 23 = F 23 := (fn rfl (by decide))
  have hkpy58 : (uZ F 12 (0)) 24 = F 24 := (fn rfl (by decide))
  have hkpy59 : (uZ F 12 (0)) 25 = F 25 := (fn rfl (by decide))
  have hkpy60 : (uZ F 12 (0)) 26 = F 26 := (fn rfl (by decide))
  have hkpy61 : (uZ F 12 (0)) 27 = F 27 := (fn rfl (by decide))
  have hkpy62 : (uZ F 12 (0)) 28 = F 28 := (fn rfl (by decide))
  have hkpy63 : (uZ F 12 (0)) 29 = F 29 := (fn rfl (by decide))
  rw [show pitA nsl (z) W na H P = (-1, W, na, H, P) from if_neg (by omega)]
  have hgy64 := up_n egy25 hpp (ne_o (i := i) (c := 12) (d := 0) rfl)
  have hgy65 := (hfvy29 (i + 12) (ne_o (i := i) (c := 12) (d := 11) rfl)).trans hgy64
  exact z_iret C hr hlk dX10_pit_35 (by decide) (by decide) ⟨-1, rfl, rfl, rfl, by omega, ⟨_, _, hMy49, by omega, hRX.nx (by omega) (fn rfl (by decide)) (fn rfl (by decide)) (fun j _ => rfl), fun j _ => rfl⟩, ⟨_, hdvy29, Or.inl ⟨by omega, rfl⟩⟩, ⟨_, hgy65, hPr.1, hPr.2, fun _ _ => rfl⟩, fun j j1 => by rw [hfvy29 _ (by omega)]; rw [egy25, va_up_ne _ _ (by omega)], fun j j1 j2 => by rw [hfvy29 _ (by omega)]; rw [egy25, va_up_ne _ _ (by omega)]⟩

set_option maxRecDepth 100000 in
set_option maxHeartbeats 4000000 in
theorem c_vPit (l : Launch) (D : va_G) (A : Nat → Prop) (cs : Nat → ClassId) (tt : Nat) (N : Nat) (ad : Nat → Nat) (g : Nat → va_E) (i : Nat) (hN : i + 30 ≤ N) (x : Int) (hx : 0 ≤ x ∧ x ≤ 512) (F r : Nat → Int) {st op ai fa mu tb tp : Nat → Int} (hM : okMr cs ad g i x F r st op ai fa mu tb tp) (hfr : okFr F op ai fa mu tb) (nsl : Nat) (hnsl : F 13 = (nsl : Int)) (W : WL9) (na : Nat) (H : Nat → WL9) (hRX : okRX F r x W na H) (rr : Nat → Int) (hrr : g (i + 11) = iA cs 6 rr) (P : Nat → PT9) (pp : Nat → Int) (hpp : g (i + 12) = iA cs 1080 pp) (hPr : isPr pp P ∧ okPt pp) (z : Int) (hz : -2147483648 ≤ z ∧ z ≤ 2147483647) : zM l yX10_pit cX10_pit 4 (some .int) ({ frames := 3, cells := 0, slots := 0, locals := 180 } : Room) D A cs tt N ad g [.ref (ad i), .int (zI (z))] (rI0 N ad fun q g' => q = (pitA nsl (z) W na H P).1 ∧ (∃ F' r' : Nat → Int, okMr cs ad g' i (x + 1) F' r' st op ai fa mu tb tp ∧ (F' 13 = F 13 ∧ F' 14 = F 14 ∧ F' 17 = F 17 ∧ F' 18 = F 18 ∧ F' 19 = F 19 ∧ F' 20 = F 20 ∧ F' 21 = F 21 ∧ F' 23 = F 23 ∧ F' 24 = F 24 ∧ F' 25 = F 25 ∧ F' 26 = F 26 ∧ F' 27 = F 27 ∧ F' 28 = F 28 ∧ F' 29 = F 29) ∧ okRX F' r' (x + 1) (pitA nsl (z) W na H P).2.1 (pitA nsl (z) W na H P).2.2.1 (pitA nsl (z) W na H P).2.2.2.1 ∧ ∀ j, 14700 ≤ j → r' j = r j) ∧ (∃ rr' : Nat → Int, g' (i + 11) = iA cs 6 rr' ∧ ((q = -1 ∧ rr' = uZ rr 1 (rr 1 + 1)) ∨ (q ≠ -1 ∧ rr' = rr))) ∧ (∃ pp' : Nat → Int, g' (i + 12) = iA cs 1080 pp' ∧ isPr pp' (pitA nsl (z) W na H P).2.2.2.2 ∧ okPt pp' ∧ ∀ j, 540 ≤ j → pp' j = pp j) ∧ (∀ j, j < i ∨ i + 30 ≤ j → g' j = g j) ∧ ∀ j, i + 8 ≤ j → j ≤ i + 10 → g' j = g j) := by
  by_cases h9 : 0 ≤ z ∧ z ≤ 3
  · obtain ⟨n, rfl⟩ : ∃ n : Nat, z = (n : Int) := ⟨z.toNat, by omega⟩
    exact c_vPit_a l D A cs tt N ad g i hN x hx F r hM hfr nsl hnsl W na H hRX rr hrr P pp hpp hPr n (by omega)
  · exact c_vPit_b l D A cs tt N ad g i hN x hx F r hM hfr nsl hnsl W na H hRX rr hrr P pp hpp hPr z hz (by omega)
end
section
-- 9m9.qcp.lean.txt
section XCP
variable {cs : Nat → ClassId} {ad : Nat → Nat} {g g' : Nat → va_E} {i na : Nat} {H : Nat → WL9} {W : WL9} {P : Nat → PT9} {nz : Int} {nu nv nw rf : Nat → Int}
/-- a State on the way to be a copy: the world now, the first m kept ones (in the row b, f), the first k pits -/
def xCp (cs : Nat → ClassId) (ad : Nat → Nat) (g : Nat → va_E) (i na : Nat) (b : Nat → Option Nat) (f : Nat → Nat) (W : WL9) (m : Nat) (H : Nat → WL9) (k : Nat) (P : Nat → PT9) : Prop := g i = stC ad i (na : Int) ∧ isWl cs ad g (i + 1) W ∧ g (i + 11) = rA (cs 4) 40 b ∧ (∀ j, j < m → isWl cs ad g (i + 18 + 10 * f j) (H j)) ∧ ∀ j, j < k → isPt cs ad g (i + 418 + 3 * j) (P j)
theorem xCp.bef {b : Nat → Option Nat} {f : Nat → Nat} {m : Nat} (h : xCp cs ad g i na b f W m H 0 P) (hm : m < 40) (h1 : ∀ k, k < 40 → f k < 40) (h2 : ∀ j k, j < 40 → k < 40 → f j = f k → j = k) (hG : ∀ j, j < i + 18 + 10 * f m ∨ i + 18 + 10 * f m + 10 ≤ j → g' j = g j) (hw : isWl cs ad g' (i + 18 + 10 * f m) (H m)) : xCp cs ad g' i na b f W (m + 1) H 0 P := by
  obtain ⟨a1, a2, a3, a4, a5⟩ := h
  have fm := h1 m hm
  refine ⟨(hG _ (by omega)).trans a1, a2.mv (fun j _ _ => hG j (by omega)), (hG _ (by omega)).trans a3, fun j hj => ?_, fun j hj => absurd hj (by omega)⟩
  by_cases e : j = m
  · subst e; exact hw
  · have fj := h1 j (by omega)
    have fne : f j ≠ f m := fun e9 => e (h2 j m (by omega) hm e9)
    exact (a4 j (by omega)).mv (fun q _ _ => hG q (by omega))
theorem xCp.pit {b : Nat → Option Nat} {f : Nat → Nat} {m k : Nat} (h : xCp cs ad g i na b f W m H k P) (hk : k < 6) (hm : m ≤ 40) (h1 : ∀ k, k < 40 → f k < 40) (hG : ∀ j, j < i + 418 + 3 * k ∨ i + 418 + 3 * k + 3 ≤ j → g' j = g j) (hw : isPt cs ad g' (i + 418 + 3 * k) (P k)) : xCp cs ad g' i na b f W m H (k + 1) P := by
  obtain ⟨a1, a2, a3, a4, a5⟩ := h
  refine ⟨(hG _ (by omega)).trans a1, a2.mv (fun j _ _ => hG j (by omega)), (hG _ (by omega)).trans a3, fun j hj => (a4 j hj).mv (fun q _ _ => hG q (by have := h1 j (by omega); omega)), fun j hj => ?_⟩
  by_cases e : j = k
  · subst e; exact hw
  · exact (a5 j (by omega)).mv (fun q _ _ => hG q (by omega))
theorem xCp.fin {b : Nat → Option Nat} {f : Nat → Nat} (h : xCp cs ad g i na b f W na H 6 P) (hn : na ≤ 40) (h1 : ∀ k, k < 40 → f k < 40 ∧ b k = some (ad (i + 18 + 10 * f k))) (h2 : ∀ j k, j < 40 → k < 40 → f j = f k → j = k) (hG : ∀ j, j < i + 13 ∨ i + 18 ≤ j → g' j = g j) (hN : isNotes cs ad g' (i + 13) nz nu nv nw) (hR : g' (i + 17) = iA cs 3 rf) : xKt cs ad g' i na H W P nz nu nv nw rf := by
  obtain ⟨a1, a2, a3, a4, a5⟩ := h
  exact ⟨(hG _ (by omega)).trans a1, a2.mv (fun j _ _ => hG j (by omega)), ⟨b, f, ⟨(hG _ (by omega)).trans a3, h1⟩, h2, fun k hk => (a4 k hk).mv (fun j _ _ => hG j (by omega))⟩, fun k hk => (a5 k hk).mv (fun j _ _ => hG j (by omega)), hN, hR⟩
end XCP

set_option maxRecDepth 100000 in
set_option maxHeartbeats 4000000 in
theorem c_qPitCopy (l : Launch) (D : va_G) (A : Nat → Prop) (cs : Nat → ClassId) (tt : Nat) (N : Nat) (ad : Nat → Nat) (g : Nat → va_E) (a : Nat) (hN : a + 3 ≤ N) (ha : okPit cs ad g a) (b : Nat) (hNb : b + 3 ≤ N) (P : PT9) (hb : isPt cs ad g b P) (h3 : 0 ≤ P.1 ∧ P.1 ≤ 3) (h12 : P.2.2.1 ≤ 12) (hab : a + 3 ≤ b ∨ b + 3 ≤ a) : zM l yX4_copyFrom cX4_copyFrom 2 none ({ frames := 2, cells := 0, slots := 0, locals := 120 } : Room) D A cs tt N ad g [.ref (ad a), .ref (ad b)] (rV0 N ad fun g' => (okPit cs ad g' a ∧ isPt cs ad g' a P) ∧ ∀ j, j < a ∨ a + 3 ≤ j → g' j = g j) := by
  obtain ⟨ul, ut, uz, uo, ur, u1, u2, u3, u4⟩ := id ha
  obtain ⟨v3, vo, vr, v4, vC⟩ := id hb
  have v4 : isPack cs ad g (b + 1) ((P.2.2.1 : Nat) : Int) vo vr := v4
  have hay1 : zAt ad (a) (ad a) := rfl
  have hay2 : zAt ad (a + 1) (ad (a + 1)) := rfl
  have hay3 : zAt ad (a + 1 + 1) (ad (a + 1 + 1)) := rfl
  have hay4 : zAt ad (b) (ad b) := rfl
  have hay5 : zAt ad (b + 1) (ad (b + 1)) := rfl
  have hay6 : zAt ad (b + 1 + 1) (ad (b + 1 + 1)) := rfl
  refine z_of (by decide) (Nat.le_of_ble_eq_true rfl) ?_
  intro pY eY sY mY below meth cY C hr hlk hnm
  refine z_lv (lv' := [(0, .ref (ad a)), (1, .ref (ad b))]) [0, 1] rfl ?_
  refine z_aload_n C 0 dX4_copyFrom_0 rfl ?_
  refine z_aload_n C 1 dX4_copyFrom_1 rfl ?_
  refine z_get (v := .int (zI (P.1))) C (by omega) hay4 v3 rfl inA_X4 0 (by decide) q_241 rfl rfl dX4_copyFrom_2 ?_
  refine z_put (fs' := [.int (zI (P.1)), .int (zI (ut)), .ref (ad (a + 1))]) C (lt_A0 hN rfl) hay1 u3 tyX4 tyX4_ok nmX4 rfl inA_X4 0 (by decide) q_241 rfl rfl rfl rfl (Nat.le_of_ble_eq_true rfl) rfl dX4_copyFrom_5 (fun gy7 egy8 => ?_)
  have hgy9 := up_s egy8
  refine z_aload_n C 0 dX4_copyFrom_8 rfl ?_
  refine z_aload_n C 1 dX4_copyFrom_9 rfl ?_
  have hgy10 := up_n egy8 v3 (by omega)
  refine z_get (v := .int (zI (P.2.1))) C (by omega) hay4 hgy10 rfl inA_X4 1 (by decide) q_244 rfl rfl dX4_copyFrom_10 ?_
  refine z_put (fs' := [.int (zI (P.1)), .int (zI (P.2.1)), .ref (ad (a + 1))]) C (lt_A0 hN rfl) hay1 hgy9 tyX4 tyX4_ok nmX4 rfl inA_X4 1 (by decide) q_244 rfl rfl rfl rfl (Nat.le_of_ble_eq_true rfl) rfl dX4_copyFrom_13 (fun gy11 egy12 => ?_)
  have hgy13 := up_s egy12
  refine z_aload_n C 0 dX4_copyFrom_16 rfl ?_
  refine z_get (v := .ref (ad (a + 1))) C (lt_A0 hN rfl) hay1 hgy13 rfl inA_X4 2 (by decide) q_247 rfl rfl dX4_copyFrom_17 ?_
  refine z_aload_n C 1 dX4_copyFrom_20 rfl ?_
  have hgy14 := up_n egy12 hgy10 (by omega)
  refine z_get (v := .ref (ad (b + 1))) C (by omega) hay4 hgy14 rfl inA_X4 2 (by decide) q_247 rfl rfl dX4_copyFrom_21 ?_
  have hgy15 := up_n egy8 u4.1 (ne_o (i := a) (c := 1) (d := 0) rfl)
  have hgy16 := up_n egy12 hgy15 (ne_o (i := a) (c := 1) (d := 0) rfl)
  have hgy17 := up_n egy8 u4.2 (ne_o (i := a) (c := 2) (d := 0) rfl)
  have hgy18 := up_n egy12 hgy17 (ne_o (i := a) (c := 2) (d := 0) rfl)
  have hgy19 := up_n egy8 v4.1 (by omega)
  have hgy20 := up_n egy12 hgy19 (by omega)
  have hgy21 := up_n egy8 v4.2 (by omega)
  have hgy22 := up_n egy12 hgy21 (by omega)
  refine z_cV (As := [.ref (ad (b + 1))]) (rest := []) (ci := 5) C (c_X3_copyFrom l D A cs tt N ad _ (a + 1) (by omega) _ _ _ u2 ⟨hgy16, hgy18⟩ (b + 1) (by omega) _ _ _ (by omega) ⟨hgy20, hgy22⟩ (by omega)) (lt_A (c := 1) hN rfl) hay2 hgy16 rfl rfl mv_yX3_copyFrom q_639 hd_yX3_copyFrom (by decide) (Nat.le_of_ble_eq_true rfl) (by decide) dX4_copyFrom_24 rfl (kV0 fun gc hc => ?_)
  obtain ⟨hp, hf⟩ := hc
  have hgy23 := (hf (a) (ne_o (i := a) (c := 0) (d := 1) rfl) (ne_o (i := a) (c := 0) (d := 2) rfl)).trans hgy13
  exact z_vret C hr hlk dX4_copyFrom_27 (by decide) (by decide) ⟨rfl, rfl, rfl, ⟨⟨_, _, _, _, _, by omega, by omega, hgy23, hp⟩, hgy23, vo, vr, hp, vC⟩, fun j j1 => by rw [hf _ (by omega) (by omega)]; rw [egy12, va_up_ne _ _ (by omega)]; rw [egy8, va_up_ne _ _ (by omega)]⟩

set_option maxRecDepth 100000 in
set_option maxHeartbeats 4000000 in
theorem c_qNotesCopy (l : Launch) (D : va_G) (A : Nat → Prop) (cs : Nat → ClassId) (tt : Nat) (N : Nat) (ad : Nat → Nat) (g : Nat → va_E) (a : Nat) (hN : a + 4 ≤ N) (nz : Int) (ha : okNotes cs ad g a nz) (b : Nat) (hNb : b + 4 ≤ N) (mz : Int) (mu mv mw : Nat → Int) (hb : isNotes cs ad g b mz mu mv mw) (m1 : 0 ≤ mz ∧ mz ≤ 8) (m2 : ∀ k, k < 8 → (0 ≤ mu k ∧ mu k ≤ 3) ∧ 0 ≤ mv k ∧ mv k ≤ 48) (hab : a + 4 ≤ b ∨ b + 4 ≤ a) : zM l yX2_copyFrom cX2_copyFrom 2 none ({ frames := 1, cells := 0, slots := 0, locals := 60 } : Room) D A cs tt N ad g [.ref (ad a), .ref (ad b)] (rV0 N ad fun g' => (okNotes cs ad g' a mz ∧ isNotes cs ad g' a mz mu mv mw) ∧ ∀ j, j < a ∨ a + 4 ≤ j → g' j = g j) := by
  obtain ⟨nu, nv, nw, n1, n2, n3, n4, n5, n6⟩ := id ha
  have hay1 : zAt ad (a) (ad a) := rfl
  have hay2 : zAt ad (a + 1) (ad (a + 1)) := rfl
  have hay3 : zAt ad (a + 2) (ad (a + 2)) := rfl
  have hay4 : zAt ad (a + 3) (ad (a + 3)) := rfl
  have hay5 : zAt ad (b) (ad b) := rfl
  have hay6 : zAt ad (b + 1) (ad (b + 1)) := rfl
  have hay7 : zAt ad (b + 2) (ad (b + 2)) := rfl
  have hay8 : zAt ad (b + 3) (ad (b + 3)) := rfl
  refine z_of (by decide) (Nat.le_of_ble_eq_true rfl) ?_
  intro pY eY sY mY below meth cY C hr hlk hnm
  refine z_lv (lv' := [(0, .ref (ad a)), (1, .ref (ad b))]) [0, 1] rfl ?_
  refine z_aload_n C 0 dX2_copyFrom_0 rfl ?_
  refine z_aload_n C 1 dX2_copyFrom_1 rfl ?_
  refine z_get (v := .int (zI (mz))) C (by omega) hay5 hb.1 rfl inA_X2 0 (by decide) q_216 rfl rfl dX2_copyFrom_2 ?_
  refine z_put (fs' := [.int (zI (mz)), .ref (ad (a + 1)), .ref (ad (a + 2)), .ref (ad (a + 3))]) C (lt_A0 hN rfl) hay1 n3 tyX2 tyX2_ok nmX2 rfl inA_X2 0 (by decide) q_216 rfl rfl rfl rfl (Nat.le_of_ble_eq_true rfl) rfl dX2_copyFrom_5 (fun gy9 egy10 => ?_)
  have hgy11 := up_s egy10
  refine z_aload_n C 1 dX2_copyFrom_8 rfl ?_
  have hgy12 := up_n egy10 hb.1 (by omega)
  refine z_get (v := .ref (ad (b + 1))) C (by omega) hay5 hgy12 rfl inA_X2 1 (by decide) q_219 rfl rfl dX2_copyFrom_9 ?_
  refine z_iconst (z := 0) C dX2_copyFrom_12 rfl ?_
  refine z_aload_n C 0 dX2_copyFrom_13 rfl ?_
  refine z_get (v := .ref (ad (a + 1))) C (lt_A0 hN rfl) hay1 hgy11 rfl inA_X2 1 (by decide) q_219 rfl rfl dX2_copyFrom_14 ?_
  refine z_iconst (z := 0) C dX2_copyFrom_17 rfl ?_
  refine z_aload_n C 0 dX2_copyFrom_18 rfl ?_
  refine z_get (v := .ref (ad (a + 1))) C (lt_A0 hN rfl) hay1 hgy11 rfl inA_X2 1 (by decide) q_219 rfl rfl dX2_copyFrom_19 ?_
  have hgy13 := up_n egy10 n4 (ne_o (i := a) (c := 1) (d := 0) rfl)
  refine z_alen (z := 8) C (lt_A (c := 1) hN rfl) hay2 hgy13 1 rfl rfl dX2_copyFrom_22 ?_
  have hgy14 := up_n egy10 hb.2.1 (by omega)
  refine z_copyI C q_644 q_430 q_429 q_21 (by omega) (lt_A (c := 1) hN rfl) hay6 hay2 hgy14 hgy13 0 0 8 rfl rfl rfl (by decide) (by decide) (by decide) (by decide) (Nat.le_of_ble_eq_true rfl) dX2_copyFrom_23 (fun gy15 egy16 => ?_)
  have hgy17 := up_s egy16
  refine z_ext (r' := mu) (lt_A (c := 1) hN rfl) hgy17 (fun j hj => cZ_all hj) (fun gy18 egy19 => ?_)
  have hgy20 := up_s egy19
  refine z_aload_n C 1 dX2_copyFrom_26 rfl ?_
  have hgy21 := up_n egy16 hgy12 (by omega)
  have hgy22 := up_n egy19 hgy21 (by omega)
  refine z_get (v := .ref (ad (b + 2))) C (by omega) hay5 hgy22 rfl inA_X2 2 (by decide) q_221 rfl rfl dX2_copyFrom_27 ?_
  refine z_iconst (z := 0) C dX2_copyFrom_30 rfl ?_
  refine z_aload_n C 0 dX2_copyFrom_31 rfl ?_
  have hgy23 := up_n egy16 hgy11 (ne_o (i := a) (c := 0) (d := 1) rfl)
  have hgy24 := up_n egy19 hgy23 (ne_o (i := a) (c := 0) (d := 1) rfl)
  refine z_get (v := .ref (ad (a + 2))) C (lt_A0 hN rfl) hay1 hgy24 rfl inA_X2 2 (by decide) q_221 rfl rfl dX2_copyFrom_32 ?_
  refine z_iconst (z := 0) C dX2_copyFrom_35 rfl ?_
  refine z_aload_n C 0 dX2_copyFrom_36 rfl ?_
  refine z_get (v := .ref (ad (a + 2))) C (lt_A0 hN rfl) hay1 hgy24 rfl inA_X2 2 (by decide) q_221 rfl rfl dX2_copyFrom_37 ?_
  have hgy25 := up_n egy10 n5 (ne_o (i := a) (c := 2) (d := 0) rfl)
  have hgy26 := up_n egy16 hgy25 (ne_o (i := a) (c := 2) (d := 1) rfl)
  have hgy27 := up_n egy19 hgy26 (ne_o (i := a) (c := 2) (d := 1) rfl)
  refine z_alen (z := 8) C (lt_A (c := 2) hN rfl) hay3 hgy27 1 rfl rfl dX2_copyFrom_40 ?_
  have hgy28 := up_n egy10 hb.2.2.1 (by omega)
  have hgy29 := up_n egy16 hgy28 (by omega)
  have hgy30 := up_n egy19 hgy29 (by omega)
  refine z_copyI C q_644 q_430 q_429 q_21 (by omega) (lt_A (c := 2) hN rfl) hay7 hay3 hgy30 hgy27 0 0 8 rfl rfl rfl (by decide) (by decide) (by decide) (by decide) (Nat.le_of_ble_eq_true rfl) dX2_copyFrom_41 (fun gy31 egy32 => ?_)
  have hgy33 := up_s egy32
  refine z_ext (r' := mv) (lt_A (c := 2) hN rfl) hgy33 (fun j hj => cZ_all hj) (fun gy34 egy35 => ?_)
  have hgy36 := up_s egy35
  refine z_aload_n C 1 dX2_copyFrom_44 rfl ?_
  have hgy37 := up_n egy32 hgy22 (by omega)
  have hgy38 := up_n egy35 hgy37 (by omega)
  refine z_get (v := .ref (ad (b + 3))) C (by omega) hay5 hgy38 rfl inA_X2 3 (by decide) q_223 rfl rfl dX2_copyFrom_45 ?_
  refine z_iconst (z := 0) C dX2_copyFrom_48 rfl ?_
  refine z_aload_n C 0 dX2_copyFrom_49 rfl ?_
  have hgy39 := up_n egy32 hgy24 (ne_o (i := a) (c := 0) (d := 2) rfl)
  have hgy40 := up_n egy35 hgy39 (ne_o (i := a) (c := 0) (d := 2) rfl)
  refine z_get (v := .ref (ad (a + 3))) C (lt_A0 hN rfl) hay1 hgy40 rfl inA_X2 3 (by decide) q_223 rfl rfl dX2_copyFrom_50 ?_
  refine z_iconst (z := 0) C dX2_copyFrom_53 rfl ?_
  refine z_aload_n C 0 dX2_copyFrom_54 rfl ?_
  refine z_get (v := .ref (ad (a + 3))) C (lt_A0 hN rfl) hay1 hgy40 rfl inA_X2 3 (by decide) q_223 rfl rfl dX2_copyFrom_55 ?_
  have hgy41 := up_n egy10 n6 (ne_o (i := a) (c := 3) (d := 0) rfl)
  have hgy42 := up_n egy16 hgy41 (ne_o (i := a) (c := 3) (d := 1) rfl)
  have hgy43 := up_n egy19 hgy42 (ne_o (i := a) (c := 3) (d := 1) rfl)
  have hgy44 := up_n egy32 hgy43 (ne_o (i := a) (c := 3) (d := 2) rfl)
  have hgy45 := up_n egy35 hgy44 (ne_o (i := a) (c := 3) (d := 2) rfl)
  refine z_alen (z := 8) C (lt_A (c := 3) hN rfl) hay4 hgy45 1 rfl rfl dX2_copyFrom_58 ?_
  have hgy46 := up_n egy10 hb.2.2.2 (by omega)
  have hgy47 := up_n egy16 hgy46 (by omega)
  have hgy48 := up_n egy19 hgy47 (by omega)
  have hgy49 := up_n egy32 hgy48 (by omega)
  have hgy50 := up_n egy35 hgy49 (by omega)
  refine z_copyI C q_644 q_430 q_429 q_21 (by omega) (lt_A (c := 3) hN rfl) hay8 hay4 hgy50 hgy45 0 0 8 rfl rfl rfl (by decide) (by decide) (by decide) (by decide) (Nat.le_of_ble_eq_true rfl) dX2_copyFrom_59 (fun gy51 egy52 => ?_)
  have hgy53 := up_s egy52
  refine z_ext (r' := mw) (lt_A (c := 3) hN rfl) hgy53 (fun j hj => cZ_all hj) (fun gy54 egy55 => ?_)
  have hgy56 := up_s egy55
  have hgy57 := up_n egy52 hgy40 (ne_o (i := a) (c := 0) (d := 3) rfl)
  have hgy58 := up_n egy55 hgy57 (ne_o (i := a) (c := 0) (d := 3) rfl)
  have hgy59 := up_n egy32 hgy20 (ne_o (i := a) (c := 1) (d := 2) rfl)
  have hgy60 := up_n egy35 hgy59 (ne_o (i := a) (c := 1) (d := 2) rfl)
  have hgy61 := up_n egy52 hgy60 (ne_o (i := a) (c := 1) (d := 3) rfl)
  have hgy62 := up_n egy55 hgy61 (ne_o (i := a) (c := 1) (d := 3) rfl)
  have hgy63 := up_n egy52 hgy36 (ne_o (i := a) (c := 2) (d := 3) rfl)
  have hgy64 := up_n egy55 hgy63 (ne_o (i := a) (c := 2) (d := 3) rfl)
  exact z_vret C hr hlk dX2_copyFrom_62 (by decide) (by decide) ⟨rfl, rfl, rfl, ⟨⟨_, _, _, m1, m2, hgy58, hgy62, hgy64, hgy56⟩, hgy58, hgy62, hgy64, hgy56⟩, fun j j1 => by rw [egy55, va_up_ne _ _ (by omega)]; rw [egy52, va_up_ne _ _ (by omega)]; rw [egy35, va_up_ne _ _ (by omega)]; rw [egy32, va_up_ne _ _ (by omega)]; rw [egy19, va_up_ne _ _ (by omega)]; rw [egy16, va_up_ne _ _ (by omega)]; rw [egy10, va_up_ne _ _ (by omega)]⟩

set_option maxRecDepth 100000 in
set_option maxHeartbeats 4000000 in
theorem c_qCopy (l : Launch) (D : va_G) (A : Nat → Prop) (cs : Nat → ClassId) (tt : Nat) (N : Nat) (ad : Nat → Nat) (g : Nat → va_E) (i : Nat) (hN : i + 436 ≤ N) (ac nz : Int) (hS : okState cs ad g i ac nz) (hB : ∃ (b : Nat → Option Nat) (f : Nat → Nat), (g (i + 11) = rA (cs 4) 40 b ∧ ∀ k, k < 40 → f k < 40 ∧ b k = some (ad (i + 18 + 10 * f k))) ∧ ∀ j k, j < 40 → k < 40 → f j = f k → j = k) (d : Nat) (hNd : d + 436 ≤ N) (na : Nat) (nz2 : Int) (H : Nat → WL9) (W : WL9) (P : Nat → PT9) (nu nv nw rf : Nat → Int) (hS2 : okState cs ad g d (na : Int) nz2) (hX2 : xKt cs ad g d na H W P nz2 nu nv nw rf) (hP9 : ∀ k, k < 6 → (0 ≤ (P k).1 ∧ (P k).1 ≤ 3) ∧ (P k).2.2.1 ≤ 12) (hz2 : 0 ≤ nz2 ∧ nz2 ≤ 8) (hnt : ∀ k, k < 8 → (0 ≤ nu k ∧ nu k ≤ 3) ∧ 0 ≤ nv k ∧ nv k ≤ 48) (hid : i + 436 ≤ d ∨ d + 436 ≤ i) : zM l yX6_copyFrom cX6_copyFrom 3 none ({ frames := 3, cells := 0, slots := 0, locals := 180 } : Room) D A cs tt N ad g [.ref (ad i), .ref (ad d)] (rV0 N ad fun g' => okState cs ad g' i (na : Int) nz2 ∧ xKt cs ad g' i na H W P nz2 nu nv nw rf ∧ ∀ j, j < i ∨ i + 436 ≤ j → g' j = g j) := by
  obtain ⟨q1, q2, q3, ⟨qb, qf, q4, q5⟩, q6, ⟨qc, q7, q8⟩, q9, q10, qr, q11⟩ := id hS
  have hay1 : zAt ad (i) (ad i) := rfl
  have hay2 : zAt ad (i + 11) (ad (i + 11)) := rfl
  have hay3 : zAt ad (i + 12) (ad (i + 12)) := rfl
  have hay4 : zAt ad (i + 17) (ad (i + 17)) := rfl
  have hay5 : zAt ad (i + 1) (ad (i + 1)) := rfl
  have hay6 : zAt ad (i + 13) (ad (i + 13)) := rfl
  obtain ⟨e1, e2, e3, ⟨eb, ef, e4, e5⟩, e6, ⟨ec, e7, e8⟩, e9, e10, er, e11⟩ := id hS2
  have hay7 : zAt ad (d) (ad d) := rfl
  have hay8 : zAt ad (d + 11) (ad (d + 11)) := rfl
  have hay9 : zAt ad (d + 12) (ad (d + 12)) := rfl
  have hay10 : zAt ad (d + 17) (ad (d + 17)) := rfl
  have hay11 : zAt ad (d + 1) (ad (d + 1)) := rfl
  have hay12 : zAt ad (d + 13) (ad (d + 13)) := rfl
  have hna := hS2.2.1
  obtain ⟨xb, xf, hxr, hxi⟩ := id hB
  obtain ⟨eb9, ef9, heq, hei, hew⟩ := id hX2.2.2.1
  refine z_of (by decide) (Nat.le_of_ble_eq_true rfl) ?_
  intro pY eY sY mY below meth cY C hr hlk hnm
  refine z_lv (lv' := [(0, .ref (ad i)), (1, .ref (ad d))]) [0, 1] rfl ?_
  obtain ⟨tk, zk, ok, rk, hzk, htk, hwk⟩ := id q3
  refine z_aload_n C 0 dX6_copyFrom_0 rfl ?_
  refine z_get (v := .ref (ad (i + 1))) C (lt_A0 hN rfl) hay1 q1 rfl inA_X6 0 (by decide) q_257 rfl rfl dX6_copyFrom_1 ?_
  refine z_aload_n C 1 dX6_copyFrom_4 rfl ?_
  refine z_get (v := .ref (ad (d + 1))) C (by omega) hay7 e1 rfl inA_X6 0 (by decide) q_257 rfl rfl dX6_copyFrom_5 ?_
  refine z_cV (As := [.ref (ad (d + 1))]) (rest := []) (ci := 10) C (c_X8_copyFrom l D A cs tt N ad _ (i + 1) (by omega) q3 (d + 1) (by omega) e3 (by omega)) (lt_A (c := 1) hN rfl) hay5 hwk.1 rfl rfl mv_yX8_copyFrom q_420 hd_yX8_copyFrom (by decide) (Nat.le_of_ble_eq_true rfl) (by decide) dX6_copyFrom_8 rfl (kV0 fun gc hc => ?_)
  obtain ⟨⟨t1, z1, o1, r1, hz1, ht1, hn1, hw1⟩, hf1⟩ := hc
  have hs2 : okState cs ad gc i ac nz := okState.now hS hf1 ⟨_, _, _, _, hz1, ht1, hw1⟩
  have hwl : isWl cs ad gc (i + 1) W := copy_wl hn1 hw1 hX2.2.1
  refine z_aload_n C 0 dX6_copyFrom_11 rfl ?_
  refine z_aload_n C 1 dX6_copyFrom_12 rfl ?_
  have hgy13 := (hf1 (d) (by omega)).trans e1
  refine z_get (v := .int (zI ((na : Int)))) C (by omega) hay7 hgy13 rfl inA_X6 2 (by decide) q_260 rfl rfl dX6_copyFrom_13 ?_
  have hgy14 := (hf1 (i) (by omega)).trans q1
  refine z_put (fs' := [.ref (ad (i + 1)), .ref (ad (i + 11)), .int (zI ((na : Int))), .ref (ad (i + 12)), .ref (ad (i + 13)), .ref (ad (i + 17))]) C (lt_A0 hN rfl) hay1 hgy14 tyX6 tyX6_ok nmX6 rfl inA_X6 2 (by decide) q_260 rfl rfl rfl rfl (Nat.le_of_ble_eq_true rfl) rfl dX6_copyFrom_16 (fun gy15 egy16 => ?_)
  have hgy17 := up_s egy16
  refine z_iconst (z := 0) C dX6_copyFrom_19 rfl ?_
  refine z_istore_n (lv' := [(2, .int (zI (0))), (0, .ref (ad i)), (1, .ref (ad d))]) C dX6_copyFrom_20 rfl (by decide) rfl ?_
  have hs3 : okState cs ad gy15 i (na : Int) nz := okState.head (by omega) hs2 (fun j j1 => by rw [egy16, va_up_ne _ _ (by omega)]) hgy17
  have hfr : ∀ j, j < i ∨ i + 436 ≤ j → gy15 j = g j := fun j j1 => by rw [egy16, va_up_ne _ _ (by omega)]; rw [hf1 _ (by omega)]
  have hx3 : xCp cs ad gy15 i na xb xf W 0 H 0 P := ⟨hgy17, hwl.mv (fun j _ _ => by rw [egy16, va_up_ne _ _ (by omega)]), (show gy15 (i + 11) = g (i + 11) by rw [egy16, va_up_ne _ _ (by omega)]; rw [hf1 _ (by omega)]).trans hxr.1, fun j hj => absurd hj (by omega), fun j hj => absurd hj (by omega)⟩
  have lp2 : ∀ (n9 : Nat) (k : Int) (n : Nat) (g1 : Nat → va_E), (6 - k).toNat = n9 → (okState cs ad g1 i (na : Int) nz) → (∀ j, j < i ∨ i + 436 ≤ j → g1 j = g j) → (k = (n : Int)) → (xCp cs ad g1 i na xb xf W na H n P) → (n ≤ 6) → zV pY l eY ({ frames := 3, cells := 0, slots := 0, locals := 180 } : Room) sY mY ([.ref (ad i), .ref (ad d)] : List Value).toArray below meth cY (MQ below (zPost D A (rV0 N ad fun g' => okState cs ad g' i (na : Int) nz2 ∧ xKt cs ad g' i na H W P nz2 nu nv nw rf ∧ ∀ j, j < i ∨ i + 436 ≤ j → g' j = g j)) ([.ref (ad i), .ref (ad d)] : List Value).toArray sY ({ frames := 3, cells := 0, slots := 0, locals := 180 } : Room).cells ({ frames := 3, cells := 0, slots := 0, locals := 180 } : Room).slots A) D A 3 (N) ad g1 (0) (0) 61 [(2, .int (zI (k))), (0, .ref (ad i)), (1, .ref (ad d))] [] := by
    intro n9
    induction n9 using Nat.strongRecOn with
    | ind n9 ih_lp2 =>
      intro k n g1 hm9 f1 f3 hik f5 f9
      subst hik
      have f4 : okState cs ad g1 d (na : Int) nz2 := hS2.mv (fun _ _ _ => rfl) (fun j j1 j2 => f3 j (by omega))
      obtain ⟨q1, q2, q3, ⟨qb, qf, q4, q5⟩, q6, ⟨qc, q7, q8⟩, q9, q10, qr, q11⟩ := id f1
      have hay18 : zAt ad (i) (ad i) := rfl
      have hay19 : zAt ad (i + 11) (ad (i + 11)) := rfl
      have hay20 : zAt ad (i + 12) (ad (i + 12)) := rfl
      have hay21 : zAt ad (i + 17) (ad (i + 17)) := rfl
      have hay22 : zAt ad (i + 1) (ad (i + 1)) := rfl
      have hay23 : zAt ad (i + 13) (ad (i + 13)) := rfl
      obtain ⟨e1, e2, e3, ⟨eb, ef, e4, e5⟩, e6, ⟨ec, e7, e8⟩, e9, e10, er, e11⟩ := id f4
      have hay24 : zAt ad (d) (ad d) := rfl
      have hay25 : zAt ad (d + 11) (ad (d + 11)) := rfl
      have hay26 : zAt ad (d + 12) (ad (d + 12)) := rfl
      have hay27 : zAt ad (d + 17) (ad (d + 17)) := rfl
      have hay28 : zAt ad (d + 1) (ad (d + 1)) := rfl
      have hay29 : zAt ad (d + 13) (ad (d + 13)) := rfl
      refine z_iload_n C 0 dX6_copyFrom_61 rfl ?_
      refine z_aload_n C 1 dX6_copyFrom_62 rfl ?_
      refine z_get (v := .ref (ad (i + 12))) C (lt_A0 hN rfl) hay18 q1 rfl inA_X6 3 (by decide) q_262 rfl rfl dX6_copyFrom_63 ?_
      refine z_alen (z := 6) C (lt_A (c := 12) hN rfl) hay20 q7 5 rfl rfl dX6_copyFrom_66 ?_
      refine z_icmp_ge (tgt := 91) C dX6_copyFrom_67 (by decide) (by omega) (by omega) (fun hb1 => ?_) (fun hb1 => ?_)
      · refine z_aload_n C 1 dX6_copyFrom_91 rfl ?_
        refine z_get (v := .ref (ad (i + 13))) C (lt_A0 hN rfl) hay18 q1 rfl inA_X6 4 (by decide) q_264 rfl rfl dX6_copyFrom_92 ?_
        refine z_aload_n C 2 dX6_copyFrom_95 rfl ?_
        refine z_get (v := .ref (ad (d + 13))) C (by omega) hay24 e1 rfl inA_X6 4 (by decide) q_264 rfl rfl dX6_copyFrom_96 ?_
        obtain ⟨-, -, -, -, -, -, -, n10, -⟩ := id f1
        have hn6k : n = 6 := by omega
        rw [hn6k] at f5
        obtain ⟨nu0, nv0, nw0, nn1, nn2, nn3⟩ := id n10
        refine z_cV (As := [.ref (ad (d + 13))]) (rest := []) (ci := 4) C (c_qNotesCopy l D A cs tt N ad _ (i + 13) (by omega) _ n10 (d + 13) (by omega) _ _ _ _ (hX2.2.2.2.2.1.mv (fun _ _ _ => rfl) (fun j _ _ => f3 j (by omega))) hz2 hnt (by omega)) (lt_A (c := 13) hN rfl) hay23 nn3.1 rfl rfl mv_yX2_copyFrom q_640 hd_yX2_copyFrom (by decide) (Nat.le_of_ble_eq_true rfl) (by decide) dX6_copyFrom_99 rfl (kV0 fun gn hn => ?_)
        obtain ⟨⟨hn5, hn7⟩, hn6⟩ := hn
        have hs7 : okState cs ad gn i (na : Int) nz2 := okState.notes f1 (fun j j1 => hn6 j (by omega)) hn5
        refine z_aload_n C 2 dX6_copyFrom_102 rfl ?_
        have hgy30 := (hn6 (d) (by omega)).trans e1
        refine z_get (v := .ref (ad (d + 17))) C (by omega) hay24 hgy30 rfl inA_X6 5 (by decide) q_266 rfl rfl dX6_copyFrom_103 ?_
        refine z_iconst (z := 0) C dX6_copyFrom_106 rfl ?_
        refine z_aload_n C 1 dX6_copyFrom_107 rfl ?_
        have hgy31 := (hn6 (i) (by omega)).trans q1
        refine z_get (v := .ref (ad (i + 17))) C (lt_A0 hN rfl) hay18 hgy31 rfl inA_X6 5 (by decide) q_266 rfl rfl dX6_copyFrom_108 ?_
        refine z_iconst (z := 0) C dX6_copyFrom_111 rfl ?_
        refine z_aload_n C 1 dX6_copyFrom_112 rfl ?_
        refine z_get (v := .ref (ad (i + 17))) C (lt_A0 hN rfl) hay18 hgy31 rfl inA_X6 5 (by decide) q_266 rfl rfl dX6_copyFrom_113 ?_
        have hgy32 := (hn6 (i + 17) (by omega)).trans q11
        refine z_alen (z := 3) C (lt_A (c := 17) hN rfl) hay21 hgy32 1 rfl rfl dX6_copyFrom_116 ?_
        have hgy33 := (hn6 (d + 17) (by omega)).trans ((f3 _ (by omega)).trans hX2.2.2.2.2.2)
        refine z_copyI C q_645 q_430 q_429 q_21 (by omega) (lt_A (c := 17) hN rfl) hay27 hay21 hgy33 hgy32 0 0 3 rfl rfl rfl (by decide) (by decide) (by decide) (by decide) (Nat.le_of_ble_eq_true rfl) dX6_copyFrom_117 (fun gy34 egy35 => ?_)
        have hgy36 := up_s egy35
        refine z_ext (r' := rf) (lt_A (c := 17) hN rfl) hgy36 (fun j hj => cZ_all hj) (fun gy37 egy38 => ?_)
        have hgy39 := up_s egy38
        have hs8 : okState cs ad gy37 i (na : Int) nz2 := okState.refused hs7 (fun j j1 => by rw [egy38, va_up_ne _ _ (by omega)]; rw [egy35, va_up_ne _ _ (by omega)]) hgy39
        have hx8 : xKt cs ad gy37 i na H W P nz2 nu nv nw rf := xCp.fin f5 (by omega) hxr.2 hxi (fun j j1 => (show gy37 j = gn j by rw [egy38, va_up_ne _ _ (by omega)]; rw [egy35, va_up_ne _ _ (by omega)]).trans (hn6 j (by omega))) (hn7.mv (fun _ _ _ => rfl) (fun j _ _ => by rw [egy38, va_up_ne _ _ (by omega)]; rw [egy35, va_up_ne _ _ (by omega)])) hgy39
        exact z_vret C hr hlk dX6_copyFrom_120 (by decide) (by decide) ⟨rfl, rfl, rfl, hs8, hx8, fun j j1 => by rw [egy38, va_up_ne _ _ (by omega)]; rw [egy35, va_up_ne _ _ (by omega)]; rw [hn6 _ (by omega)]; exact f3 j j1⟩
      · refine z_aload_n C 1 dX6_copyFrom_70 rfl ?_
        refine z_get (v := .ref (ad (i + 12))) C (lt_A0 hN rfl) hay18 q1 rfl inA_X6 3 (by decide) q_262 rfl rfl dX6_copyFrom_71 ?_
        refine z_iload_n C 0 dX6_copyFrom_74 rfl ?_
        refine z_aald C (lt_A (c := 12) hN rfl) hay20 q7 5 rfl (n) (by omega) (by omega) (by decide) (q8 n (by omega)) dX6_copyFrom_75 ?_
        have hay40 : zAt ad (i + 418 + 3 * n) (ad (i + 418 + 3 * n)) := rfl
        refine z_aload_n C 2 dX6_copyFrom_76 rfl ?_
        refine z_get (v := .ref (ad (d + 12))) C (by omega) hay24 e1 rfl inA_X6 3 (by decide) q_262 rfl rfl dX6_copyFrom_77 ?_
        refine z_iload_n C 0 dX6_copyFrom_80 rfl ?_
        refine z_aald C (by omega) hay26 e7 5 rfl (n) (by omega) (by omega) (by decide) (e8 n (by omega)) dX6_copyFrom_81 ?_
        have hay41 : zAt ad (d + 418 + 3 * n) (ad (d + 418 + 3 * n)) := rfl
        obtain ⟨xl, xt, xz, xo, xr, -, -, x3⟩ := q9 n (by omega)
        have hpn := hP9 n (by omega)
        refine z_cV (As := [.ref (ad (d + 418 + 3 * n))]) (rest := []) (ci := 6) C (c_qPitCopy l D A cs tt N ad _ (i + 418 + 3 * n) (by omega) (q9 n (by omega)) (d + 418 + 3 * n) (by omega) (P n) ((hX2.2.2.2.1 n (by omega)).mv (fun j j1 j2 => f3 j (by omega))) hpn.1 hpn.2 (by omega)) (by omega) hay40 x3.1 rfl rfl mv_yX4_copyFrom q_635 hd_yX4_copyFrom (by decide) (Nat.le_of_ble_eq_true rfl) (by decide) dX6_copyFrom_82 rfl (kV0 fun gp hp => ?_)
        obtain ⟨⟨hp1, hp3⟩, hp2⟩ := hp
        have hs9 : okState cs ad gp i (na : Int) nz := okState.pit (by omega) f1 hp2 hp1
        have hx9 := xCp.pit f5 (by omega) (by omega) (fun k hk => (hxr.2 k hk).1) hp2 hp3
        refine z_iinc (z := (n : Int) + 1) (lv' := [(2, .int (zI ((n : Int) + 1))), (0, .ref (ad i)), (1, .ref (ad d))]) (j := 0) C dX6_copyFrom_85 rfl rfl (by decide) rfl ?_
        refine z_goto (tgt := 61) C dX6_copyFrom_88 (by decide) ?_
        refine z_lv (lv' := [(2, .int (zI ((n : Int) + 1))), (0, .ref (ad i)), (1, .ref (ad d))]) [0, 1, 2] rfl ?_
        exact ih_lp2 _ (by omega) ((n : Int) + 1) (n + 1) gp rfl hs9 (fun j j1 => (hp2 j (by omega)).trans (f3 j j1)) (by omega) hx9 (by omega)
  have lp1 : ∀ (n9 : Nat) (k : Int) (n : Nat) (g1 : Nat → va_E), (40 - k).toNat = n9 → (okState cs ad g1 i (na : Int) nz) → (∀ j, j < i ∨ i + 436 ≤ j → g1 j = g j) → (k = (n : Int)) → (xCp cs ad g1 i na xb xf W n H 0 P) → (n ≤ na) → zV pY l eY ({ frames := 3, cells := 0, slots := 0, locals := 180 } : Room) sY mY ([.ref (ad i), .ref (ad d)] : List Value).toArray below meth cY (MQ below (zPost D A (rV0 N ad fun g' => okState cs ad g' i (na : Int) nz2 ∧ xKt cs ad g' i na H W P nz2 nu nv nw rf ∧ ∀ j, j < i ∨ i + 436 ≤ j → g' j = g j)) ([.ref (ad i), .ref (ad d)] : List Value).toArray sY ({ frames := 3, cells := 0, slots := 0, locals := 180 } : Room).cells ({ frames := 3, cells := 0, slots := 0, locals := 180 } : Room).slots A) D A 3 (N) ad g1 (0) (0) 21 [(2, .int (zI (k))), (0, .ref (ad i)), (1, .ref (ad d))] [] := by
    intro n9
    induction n9 using Nat.strongRecOn with
    | ind n9 ih_lp1 =>
      intro k n g1 hm9 f1 f3 hik f5 f9
      subst hik
      have f4 : okState cs ad g1 d (na : Int) nz2 := hS2.mv (fun _ _ _ => rfl) (fun j j1 j2 => f3 j (by omega))
      obtain ⟨q1, q2, q3, ⟨qb, qf, q4, q5⟩, q6, ⟨qc, q7, q8⟩, q9, q10, qr, q11⟩ := id f1
      have hay42 : zAt ad (i) (ad i) := rfl
      have hay43 : zAt ad (i + 11) (ad (i + 11)) := rfl
      have hay44 : zAt ad (i + 12) (ad (i + 12)) := rfl
      have hay45 : zAt ad (i + 17) (ad (i + 17)) := rfl
      have hay46 : zAt ad (i + 1) (ad (i + 1)) := rfl
      have hay47 : zAt ad (i + 13) (ad (i + 13)) := rfl
      obtain ⟨e1, e2, e3, ⟨eb, ef, e4, e5⟩, e6, ⟨ec, e7, e8⟩, e9, e10, er, e11⟩ := id f4
      have hay48 : zAt ad (d) (ad d) := rfl
      have hay49 : zAt ad (d + 11) (ad (d + 11)) := rfl
      have hay50 : zAt ad (d + 12) (ad (d + 12)) := rfl
      have hay51 : zAt ad (d + 17) (ad (d + 17)) := rfl
      have hay52 : zAt ad (d + 1) (ad (d + 1)) := rfl
      have hay53 : zAt ad (d + 13) (ad (d + 13)) := rfl
      refine z_iload_n C 0 dX6_copyFrom_21 rfl ?_
      refine z_aload_n C 1 dX6_copyFrom_22 rfl ?_
      refine z_get (v := .int (zI ((na : Int)))) C (lt_A0 hN rfl) hay42 q1 rfl inA_X6 2 (by decide) q_260 rfl rfl dX6_copyFrom_23 ?_
      refine z_icmp_ge (tgt := 59) C dX6_copyFrom_26 (by decide) (by omega) (by omega) (fun hb1 => ?_) (fun hb1 => ?_)
      · have hnn : n = na := by omega
        rw [hnn] at f5
        refine z_iconst (z := 0) C dX6_copyFrom_59 rfl ?_
        refine z_istore_n (lv' := [(2, .int (zI (0))), (0, .ref (ad i)), (1, .ref (ad d))]) C dX6_copyFrom_60 rfl (by decide) rfl ?_
        refine z_lv (lv' := [(2, .int (zI (0))), (0, .ref (ad i)), (1, .ref (ad d))]) [0, 1, 2] rfl ?_
        exact lp2 _ (0) (0) g1 rfl f1 f3 (by omega) f5 (by omega)
      · refine z_iload_n C 0 dX6_copyFrom_29 rfl ?_
        refine z_aload_n C 1 dX6_copyFrom_30 rfl ?_
        refine z_get (v := .ref (ad (i + 11))) C (lt_A0 hN rfl) hay42 q1 rfl inA_X6 1 (by decide) q_259 rfl rfl dX6_copyFrom_31 ?_
        refine z_alen (z := 40) C (lt_A (c := 11) hN rfl) hay43 f5.2.2.1 4 rfl rfl dX6_copyFrom_34 ?_
        refine z_icmp_ge (tgt := 59) C dX6_copyFrom_35 (by decide) (by omega) (by omega) (fun hb2 => ?_) (fun hb2 => ?_)
        · have hnn : n = na := by omega
          rw [hnn] at f5
          refine z_iconst (z := 0) C dX6_copyFrom_59 rfl ?_
          refine z_istore_n (lv' := [(2, .int (zI (0))), (0, .ref (ad i)), (1, .ref (ad d))]) C dX6_copyFrom_60 rfl (by decide) rfl ?_
          refine z_lv (lv' := [(2, .int (zI (0))), (0, .ref (ad i)), (1, .ref (ad d))]) [0, 1, 2] rfl ?_
          exact lp2 _ (0) (0) g1 rfl f1 f3 (by omega) f5 (by omega)
        · refine z_aload_n C 1 dX6_copyFrom_38 rfl ?_
          refine z_get (v := .ref (ad (i + 11))) C (lt_A0 hN rfl) hay42 q1 rfl inA_X6 1 (by decide) q_259 rfl rfl dX6_copyFrom_39 ?_
          refine z_iload_n C 0 dX6_copyFrom_42 rfl ?_
          refine z_aald C (lt_A (c := 11) hN rfl) hay43 f5.2.2.1 4 rfl (n) (by omega) (by omega) (by decide) (hxr.2 n (by omega)).2 dX6_copyFrom_43 ?_
          have hay54 : zAt ad (i + 18 + 10 * xf n) (ad (i + 18 + 10 * xf n)) := rfl
          have pk := (hxr.2 n (by omega)).1
          refine z_aload_n C 2 dX6_copyFrom_44 rfl ?_
          refine z_get (v := .ref (ad (d + 11))) C (by omega) hay48 e1 rfl inA_X6 1 (by decide) q_259 rfl rfl dX6_copyFrom_45 ?_
          refine z_iload_n C 0 dX6_copyFrom_48 rfl ?_
          refine z_aald C (by omega) hay49 ((f3 _ (by omega)).trans heq.1) 4 rfl (n) (by omega) (by omega) (by decide) (heq.2 n (by omega)).2 dX6_copyFrom_49 ?_
          have hay55 : zAt ad (d + 18 + 10 * ef9 n) (ad (d + 18 + 10 * ef9 n)) := rfl
          have pk2 := (heq.2 n (by omega)).1
          obtain ⟨xt, xz, xo, xr, -, -, x3⟩ := q6 (xf n) (by omega)
          refine z_cV (As := [.ref (ad (d + 18 + 10 * ef9 n))]) (rest := []) (ci := 10) C (c_X8_copyFrom l D A cs tt N ad _ (i + 18 + 10 * xf n) (by omega) (q6 (xf n) (by omega)) (d + 18 + 10 * ef9 n) (by omega) (e6 (ef9 n) (by omega)) (by omega)) (by omega) hay54 x3.1 rfl rfl mv_yX8_copyFrom q_420 hd_yX8_copyFrom (by decide) (Nat.le_of_ble_eq_true rfl) (by decide) dX6_copyFrom_50 rfl (kV0 fun gp hp => ?_)
          obtain ⟨⟨u1, u2, u3, u4, u5, u6, u9, u7⟩, hp2⟩ := hp
          have hs9 : okState cs ad gp i (na : Int) nz := okState.bef pk f1 hp2 ⟨_, _, _, _, u5, u6, u7⟩
          have hx9 := xCp.bef f5 (by omega) (fun k hk => (hxr.2 k hk).1) hxi hp2 (copy_wl u9 u7 ((hew n (by omega)).mv (fun j j1 j2 => f3 j (by omega))))
          refine z_iinc (z := (n : Int) + 1) (lv' := [(2, .int (zI ((n : Int) + 1))), (0, .ref (ad i)), (1, .ref (ad d))]) (j := 0) C dX6_copyFrom_53 rfl rfl (by decide) rfl ?_
          refine z_goto (tgt := 21) C dX6_copyFrom_56 (by decide) ?_
          refine z_lv (lv' := [(2, .int (zI ((n : Int) + 1))), (0, .ref (ad i)), (1, .ref (ad d))]) [0, 1, 2] rfl ?_
          exact ih_lp1 _ (by omega) ((n : Int) + 1) (n + 1) gp rfl hs9 (fun j j1 => (hp2 j (by omega)).trans (f3 j j1)) (by omega) hx9 (by omega)
  refine z_lv (lv' := [(2, .int (zI (0))), (0, .ref (ad i)), (1, .ref (ad d))]) [0, 1, 2] rfl ?_
  exact lp1 _ (0) (0) gy15 rfl hs3 hfr (by omega) hx3 (by omega)
end
section
-- 9ma.words.lean.txt
-- words of qim
theorem q_631 : (Jvm.Cond.methodLink "SnowRecorder" (411 : Nat) ({ cls := "SnowRecorder$State", name := "copyFrom", desc := "(LSnowRecorder$State;)V" } : Jvm.MethodName)) ∈ AW := AW_m3 151 (by decide +kernel) (by decide +kernel)
theorem q_632 : (Jvm.Cond.instanceMethod ({ cls := "SnowRecorder$State", name := "copyFrom", desc := "(LSnowRecorder$State;)V" } : Jvm.MethodName)) ∈ AW := AW_m3 152 (by decide +kernel) (by decide +kernel)
theorem q_633 : (Jvm.Cond.selects "SnowRecorder$State" ({ cls := "SnowRecorder$State", name := "copyFrom", desc := "(LSnowRecorder$State;)V" } : Jvm.MethodName) ({ cls := "SnowRecorder$State", name := "copyFrom", desc := "(LSnowRecorder$State;)V" } : Jvm.MethodName)) ∈ AW := AW_m3 153 (by decide +kernel) (by decide +kernel)
theorem q_634 : (Jvm.Cond.code ({ cls := "SnowRecorder$State", name := "copyFrom", desc := "(LSnowRecorder$State;)V" } : Jvm.MethodName) prog_8_method_3_code (3 : Nat) (Option.none : Option Jvm.ClassFile.FieldType)) ∈ AW := AW_m3 154 (by decide +kernel) (by decide +kernel)
theorem hd_yX6_copyFrom : yX6_copyFrom.cls ≠ "java/lang/invoke/MethodHandle" ∧ yX6_copyFrom.cls ≠ "java/lang/invoke/VarHandle" ∧ (parseMethodDescriptor yX6_copyFrom.desc).map (fun d => d.parameters.length) = some 1 := by decide +kernel
theorem mv_yX6_copyFrom : zWv yX6_copyFrom cX6_copyFrom 3 none := ⟨q_632, q_633, q_4, q_634⟩
end
section
-- 9mb.dec.lean.txt
-- decode rows of qim
theorem dX9_image_0 : decode cX9_image 0 = .ok (.aload_n 0, 1) := by decide +kernel
theorem dX9_image_1 : decode cX9_image 1 = .ok (.getfield 41, 3) := by decide +kernel
theorem dX9_image_4 : decode cX9_image 4 = .ok (.aload_n 0, 1) := by decide +kernel
theorem dX9_image_5 : decode cX9_image 5 = .ok (.getfield 37, 3) := by decide +kernel
theorem dX9_image_8 : decode cX9_image 8 = .ok (.invokevirtual 411, 3) := by decide +kernel
theorem dX9_image_11 : decode cX9_image 11 = .ok (.aload_n 0, 1) := by decide +kernel
theorem dX9_image_12 : decode cX9_image 12 = .ok (.iconst 1, 1) := by decide +kernel
theorem dX9_image_13 : decode cX9_image 13 = .ok (.putfield 44, 3) := by decide +kernel
theorem dX9_image_16 : decode cX9_image 16 = .ok (.return_, 1) := by decide +kernel
theorem dX9_restore_0 : decode cX9_restore 0 = .ok (.aload_n 0, 1) := by decide +kernel
theorem dX9_restore_1 : decode cX9_restore 1 = .ok (.getfield 44, 3) := by decide +kernel
theorem dX9_restore_4 : decode cX9_restore 4 = .ok (.ifCond .ne 5, 3) := by decide +kernel
theorem dX9_restore_9 : decode cX9_restore 9 = .ok (.aload_n 0, 1) := by decide +kernel
theorem dX9_restore_10 : decode cX9_restore 10 = .ok (.getfield 37, 3) := by decide +kernel
theorem dX9_restore_13 : decode cX9_restore 13 = .ok (.aload_n 0, 1) := by decide +kernel
theorem dX9_restore_14 : decode cX9_restore 14 = .ok (.getfield 41, 3) := by decide +kernel
theorem dX9_restore_17 : decode cX9_restore 17 = .ok (.invokevirtual 411, 3) := by decide +kernel
theorem dX9_restore_20 : decode cX9_restore 20 = .ok (.iconst 1, 1) := by decide +kernel
theorem dX9_restore_21 : decode cX9_restore 21 = .ok (.ireturn, 1) := by decide +kernel
theorem dX9_restore_7 : decode cX9_restore 7 = .ok (.iconst 0, 1) := by decide +kernel
theorem dX9_restore_8 : decode cX9_restore 8 = .ok (.ireturn, 1) := by decide +kernel
end
section
-- 9mc.qim.lean.txt
theorem okRec.im {cs : Nat → ClassId} {ad : Nat → Nat} {g g' : Nat → va_E} {N : Nat} {t fp im im' nz kz kz' sl ho ua kc' : Int} {st op ai fa mu tb tp : Nat → Int} (h : okRec cs ad g N t fp im nz kz sl ho ua st op ai fa mu tb tp) (h0 : g' 0 = rcC ad t fp im') (him : 0 ≤ im' ∧ im' ≤ 1) (hG : ∀ j, j ≠ 0 → j < 447 ∨ 883 ≤ j → g' j = g j) (hS : okState cs ad g' 447 kc' kz') : okRec cs ad g' N t fp im' nz kz' sl ho ua st op ai fa mu tb tp := by
  obtain ⟨a1, a2, a3, a4, a5, a6, a7, a8, ⟨ac, a9⟩, ⟨kc, a10⟩, a11, a12, a13, a14, a15, a16⟩ := h
  exact ⟨h0, a2, him, by rw [hG 1 (by omega) (by omega)]; exact a4, a5.mv (fun j _ _ => rfl) (fun j _ _ => hG j (by omega) (by omega)), a6.mv (fun j _ _ => rfl) (fun j _ _ => hG j (by omega) (by omega)), a7, a8, ⟨ac, a9.mv (fun j _ _ => rfl) (fun j _ _ => hG j (by omega) (by omega))⟩, ⟨kc', hS⟩, a11.mv (fun j _ _ => rfl) (fun j _ _ => hG j (by omega) (by omega)), a12.mv2 (fun j _ _ => rfl) (fun j _ _ => hG j (by omega) (by omega)), a13.mv2 (fun j _ _ => rfl) (fun j _ _ => hG j (by omega) (by omega)), a14.mv (fun j _ _ => rfl) (fun j _ _ => hG j (by omega) (by omega)), a15.mv (fun j _ _ => rfl) (fun j _ _ => hG j (by omega) (by omega)), a16.mv (fun j _ _ => rfl) (fun j _ h2 => hG j (by omega) (by omega))⟩
theorem xKt.row {cs : Nat → ClassId} {ad : Nat → Nat} {g : Nat → va_E} {i na : Nat} {H : Nat → WL9} {W : WL9} {P : Nat → PT9} {nz : Int} {nu nv nw rf : Nat → Int} (h : xKt cs ad g i na H W P nz nu nv nw rf) : ∃ (b : Nat → Option Nat) (f : Nat → Nat), (g (i + 11) = rA (cs 4) 40 b ∧ ∀ k, k < 40 → f k < 40 ∧ b k = some (ad (i + 18 + 10 * f k))) ∧ ∀ j k, j < 40 → k < 40 → f j = f k → j = k := by
  obtain ⟨b, f, h1, h2, -⟩ := h.2.2.1
  exact ⟨b, f, h1, h2⟩

set_option maxRecDepth 100000 in
set_option maxHeartbeats 4000000 in
theorem c_qImage (l : Launch) (D : va_G) (A : Nat → Prop) (cs : Nat → ClassId) (tt : Nat) (N : Nat) (ad : Nat → Nat) (g : Nat → va_E) (hN : 952 ≤ N) (t fp im nz kz sl ho ua : Int) (st op ai fa mu tb tp : Nat → Int) (hR : okRec cs ad g N t fp im nz kz sl ho ua st op ai fa mu tb tp) (na : Nat) (H : Nat → WL9) (W : WL9) (P : Nat → PT9) (nu nv nw rf : Nat → Int) (hS : okState cs ad g 11 (na : Int) nz) (hXK : xKt cs ad g 11 na H W P nz nu nv nw rf) (hP9 : ∀ k, k < 6 → (0 ≤ (P k).1 ∧ (P k).1 ≤ 3) ∧ (P k).2.2.1 ≤ 12) (hz8 : 0 ≤ nz ∧ nz ≤ 8) (hnt : ∀ k, k < 8 → (0 ≤ nu k ∧ nu k ≤ 3) ∧ 0 ≤ nv k ∧ nv k ≤ 48) (hB : ∃ (b : Nat → Option Nat) (f : Nat → Nat), (g (447 + 11) = rA (cs 4) 40 b ∧ ∀ k, k < 40 → f k < 40 ∧ b k = some (ad (447 + 18 + 10 * f k))) ∧ ∀ j k, j < 40 → k < 40 → f j = f k → j = k) : zM l yX9_image cX9_image 1 none ({ frames := 4, cells := 0, slots := 0, locals := 240 } : Room) D A cs tt N ad g [.ref (ad 0)] (rV0 N ad fun g' => okRec cs ad g' N t fp 1 nz nz sl ho ua st op ai fa mu tb tp ∧ (okState cs ad g' 447 (na : Int) nz ∧ xKt cs ad g' 447 na H W P nz nu nv nw rf) ∧ ∀ j, j ≠ 0 → j < 447 ∨ 883 ≤ j → g' j = g j) := by
  obtain ⟨ra1, ra2, ra3, -, -, ra6, ra7, ra8, -⟩ := id hR
  have hna := hS.2.1
  have hay1 : zAt ad (0) (ad 0) := rfl
  have hay2 : zAt ad (1) (ad 1) := rfl
  have hay3 : zAt ad (2) (ad 2) := rfl
  have hay4 : zAt ad (4) (ad 4) := rfl
  have hay5 : zAt ad (11) (ad 11) := rfl
  have hay6 : zAt ad (447) (ad 447) := rfl
  have hay7 : zAt ad (883) (ad 883) := rfl
  have hay8 : zAt ad (890) (ad 890) := rfl
  have hay9 : zAt ad (900) (ad 900) := rfl
  have hay10 : zAt ad (910) (ad 910) := rfl
  have hay11 : zAt ad (917) (ad 917) := rfl
  have hay12 : zAt ad (919) (ad 919) := rfl
  have hay13 : zAt ad (4 + 1) (ad (4 + 1)) := rfl
  have hay14 : zAt ad (4 + 2) (ad (4 + 2)) := rfl
  have hay15 : zAt ad (4 + 3) (ad (4 + 3)) := rfl
  have hay16 : zAt ad (4 + 4) (ad (4 + 4)) := rfl
  have hay17 : zAt ad (4 + 5) (ad (4 + 5)) := rfl
  have hay18 : zAt ad (4 + 6) (ad (4 + 6)) := rfl
  have hay19 : zAt ad (11 + 1) (ad (11 + 1)) := rfl
  have hay20 : zAt ad (11 + 11) (ad (11 + 11)) := rfl
  have hay21 : zAt ad (11 + 12) (ad (11 + 12)) := rfl
  have hay22 : zAt ad (11 + 13) (ad (11 + 13)) := rfl
  have hay23 : zAt ad (11 + 17) (ad (11 + 17)) := rfl
  obtain ⟨u1, ⟨uu, u2, u3⟩, u4⟩ := id hXK.2.1
  have hay24 : zAt ad (11 + 1) (ad (11 + 1)) := rfl
  have hay25 : zAt ad (11 + 1 + 1) (ad (11 + 1 + 1)) := rfl
  obtain ⟨kc9, hK9⟩ := hR.2.2.2.2.2.2.2.2.2.1
  refine z_of (by decide) (Nat.le_of_ble_eq_true rfl) ?_
  intro pY eY sY mY below meth cY C hr hlk hnm
  refine z_lv (lv' := [(0, .ref (ad 0))]) [0] rfl ?_
  refine z_aload_n C 0 dX9_image_0 rfl ?_
  refine z_get (v := .ref (ad 447)) C (lt_K hN (rfl : Nat.blt (0) 952 = true)) hay1 ra1 rfl inA_X9 6 (by decide) q_355 rfl rfl dX9_image_1 ?_
  refine z_aload_n C 0 dX9_image_4 rfl ?_
  refine z_get (v := .ref (ad 11)) C (lt_K hN (rfl : Nat.blt (0) 952 = true)) hay1 ra1 rfl inA_X9 5 (by decide) q_354 rfl rfl dX9_image_5 ?_
  refine z_cV (As := [.ref (ad 11)]) (rest := []) (ci := 8) C (c_qCopy l D A cs tt N ad _ 447 (by omega) kc9 kz hK9 hB 11 (by omega) na nz H W P nu nv nw rf hS hXK hP9 hz8 hnt (by omega)) (lt_K hN (rfl : Nat.blt (447) 952 = true)) hay6 hK9.1 rfl rfl mv_yX6_copyFrom q_631 hd_yX6_copyFrom (by decide) (Nat.le_of_ble_eq_true rfl) (by decide) dX9_image_8 rfl (kV0 fun gvy26 hvy26 => ?_)
  obtain ⟨hSvy26, hXvy26, hfvy26⟩ := hvy26
  refine z_aload_n C 0 dX9_image_11 rfl ?_
  refine z_iconst (z := 1) C dX9_image_12 rfl ?_
  have hgy27 := (hfvy26 (0) (by omega)).trans ra1
  refine z_put (fs' := [.ref (ad 1), .int (zI (t)), .int (zI (fp)), .ref (ad 2), .ref (ad 4), .ref (ad 11), .ref (ad 447), .int (zI (1)), .ref (ad 883), .ref (ad 890), .ref (ad 900), .ref (ad 910), .ref (ad 917), .ref (ad 919)]) C (lt_K hN (rfl : Nat.blt (0) 952 = true)) hay1 hgy27 tyX9 tyX9_ok nmX9 rfl inA_X9 7 (by decide) q_356 rfl rfl (by decide) rfl (Nat.le_of_ble_eq_true rfl) rfl dX9_image_13 (fun gy28 egy29 => ?_)
  have hgy30 := up_s egy29
  have hS9 : okState cs ad gy28 447 (na : Int) nz := hSvy26.mv (fun _ _ _ => rfl) (fun j _ _ => by rw [egy29, va_up_ne _ _ (by omega)])
  have hX9 := xKt.mv (g' := gy28) (fun j _ _ => by rw [egy29, va_up_ne _ _ (by omega)]) (by omega) hXvy26
  have hF9 : ∀ j, j ≠ 0 → j < 447 ∨ 883 ≤ j → gy28 j = g j := fun j j1 j2 => by rw [egy29, va_up_ne _ _ (by omega)]; rw [hfvy26 _ (by omega)]
  exact z_vret C hr hlk dX9_image_16 (by decide) (by decide) ⟨rfl, rfl, rfl, okRec.im hR hgy30 (by omega) hF9 hS9, ⟨hS9, hX9⟩, hF9⟩

set_option maxRecDepth 100000 in
set_option maxHeartbeats 4000000 in
theorem c_qRestore (l : Launch) (D : va_G) (A : Nat → Prop) (cs : Nat → ClassId) (tt : Nat) (N : Nat) (ad : Nat → Nat) (g : Nat → va_E) (hN : 952 ≤ N) (t fp im nz kz sl ho ua : Int) (st op ai fa mu tb tp : Nat → Int) (hR : okRec cs ad g N t fp im nz kz sl ho ua st op ai fa mu tb tp) (na : Nat) (H : Nat → WL9) (W : WL9) (P : Nat → PT9) (nu nv nw rf : Nat → Int) (hS : okState cs ad g 11 (na : Int) nz) (hXK : xKt cs ad g 11 na H W P nz nu nv nw rf) (nak : Nat) (Hk : Nat → WL9) (Wk : WL9) (Pk : Nat → PT9) (nuk nvk nwk rfk : Nat → Int) (hI : im = 1 → okState cs ad g 447 (nak : Int) kz ∧ xKt cs ad g 447 nak Hk Wk Pk kz nuk nvk nwk rfk ∧ (∀ k, k < 6 → (0 ≤ (Pk k).1 ∧ (Pk k).1 ≤ 3) ∧ (Pk k).2.2.1 ≤ 12) ∧ (0 ≤ kz ∧ kz ≤ 8) ∧ ∀ k, k < 8 → (0 ≤ nuk k ∧ nuk k ≤ 3) ∧ 0 ≤ nvk k ∧ nvk k ≤ 48) : zM l yX9_restore cX9_restore 1 (some .boolean) ({ frames := 4, cells := 0, slots := 0, locals := 240 } : Room) D A cs tt N ad g [.ref (ad 0)] (rI0 N ad fun q g' => (im = 0 ∧ q = 0 ∧ g = g') ∨ (im = 1 ∧ q = 1 ∧ okRec cs ad g' N t fp im kz kz sl ho ua st op ai fa mu tb tp ∧ (okState cs ad g' 11 (nak : Int) kz ∧ xKt cs ad g' 11 nak Hk Wk Pk kz nuk nvk nwk rfk) ∧ ∀ j, j < 11 ∨ 447 ≤ j → g' j = g j)) := by
  obtain ⟨ra1, ra2, ra3, -, -, ra6, ra7, ra8, -⟩ := id hR
  have hna := hS.2.1
  have hay1 : zAt ad (0) (ad 0) := rfl
  have hay2 : zAt ad (1) (ad 1) := rfl
  have hay3 : zAt ad (2) (ad 2) := rfl
  have hay4 : zAt ad (4) (ad 4) := rfl
  have hay5 : zAt ad (11) (ad 11) := rfl
  have hay6 : zAt ad (447) (ad 447) := rfl
  have hay7 : zAt ad (883) (ad 883) := rfl
  have hay8 : zAt ad (890) (ad 890) := rfl
  have hay9 : zAt ad (900) (ad 900) := rfl
  have hay10 : zAt ad (910) (ad 910) := rfl
  have hay11 : zAt ad (917) (ad 917) := rfl
  have hay12 : zAt ad (919) (ad 919) := rfl
  have hay13 : zAt ad (4 + 1) (ad (4 + 1)) := rfl
  have hay14 : zAt ad (4 + 2) (ad (4 + 2)) := rfl
  have hay15 : zAt ad (4 + 3) (ad (4 + 3)) := rfl
  have hay16 : zAt ad (4 + 4) (ad (4 + 4)) := rfl
  have hay17 : zAt ad (4 + 5) (ad (4 + 5)) := rfl
  have hay18 : zAt ad (4 + 6) (ad (4 + 6)) := rfl
  have hay19 : zAt ad (11 + 1) (ad (11 + 1)) := rfl
  have hay20 : zAt ad (11 + 11) (ad (11 + 11)) := rfl
  have hay21 : zAt ad (11 + 12) (ad (11 + 12)) := rfl
  have hay22 : zAt ad (11 + 13) (ad (11 + 13)) := rfl
  have hay23 : zAt ad (11 + 17) (ad (11 + 17)) := rfl
  obtain ⟨kc9, hK9⟩ := hR.2.2.2.2.2.2.2.2.2.1
  refine z_of (by decide) (Nat.le_of_ble_eq_true rfl) ?_
  intro pY eY sY mY below meth cY C hr hlk hnm
  refine z_lv (lv' := [(0, .ref (ad 0))]) [0] rfl ?_
  refine z_aload_n C 0 dX9_restore_0 rfl ?_
  refine z_get (v := .int (zI (im))) C (lt_K hN (rfl : Nat.blt (0) 952 = true)) hay1 ra1 rfl inA_X9 7 (by decide) q_356 rfl rfl dX9_restore_1 ?_
  refine z_if_ne (tgt := 9) C dX9_restore_4 (by decide) (by omega) (fun hby24 => ?_) (fun hby24 => ?_)
  · refine z_aload_n C 0 dX9_restore_9 rfl ?_
    refine z_get (v := .ref (ad 11)) C (lt_K hN (rfl : Nat.blt (0) 952 = true)) hay1 ra1 rfl inA_X9 5 (by decide) q_354 rfl rfl dX9_restore_10 ?_
    refine z_aload_n C 0 dX9_restore_13 rfl ?_
    refine z_get (v := .ref (ad 447)) C (lt_K hN (rfl : Nat.blt (0) 952 = true)) hay1 ra1 rfl inA_X9 6 (by decide) q_355 rfl rfl dX9_restore_14 ?_
    have him1 : im = 1 := by omega
    obtain ⟨hSk, hXk, hPk, hz8, hnk⟩ := hI him1
    refine z_cV (As := [.ref (ad 447)]) (rest := []) (ci := 8) C (c_qCopy l D A cs tt N ad _ 11 (by omega) (na : Int) nz hS hXK.row 447 (by omega) nak kz Hk Wk Pk nuk nvk nwk rfk hSk hXk hPk hz8 hnk (by omega)) (lt_K hN (rfl : Nat.blt (11) 952 = true)) hay5 hXK.1 rfl rfl mv_yX6_copyFrom q_631 hd_yX6_copyFrom (by decide) (Nat.le_of_ble_eq_true rfl) (by decide) dX9_restore_17 rfl (kV0 fun gvy25 hvy25 => ?_)
    obtain ⟨hSvy25, hXvy25, hfvy25⟩ := hvy25
    refine z_iconst (z := 1) C dX9_restore_20 rfl ?_
    have hF9 : ∀ j, j < 11 ∨ 447 ≤ j → gvy25 j = g j := fun j j1 => hfvy25 j (by omega)
    exact z_zret C hr hlk dX9_restore_21 (by decide) (by decide) (by decide) ⟨1, rfl, rfl, rfl, Or.inr ⟨him1, rfl, okRec.st hR hF9 hSvy25, ⟨hSvy25, hXvy25⟩, hF9⟩⟩
  · refine z_iconst (z := 0) C dX9_restore_7 rfl ?_
    exact z_zret C hr hlk dX9_restore_8 (by decide) (by decide) (by decide) ⟨0, rfl, rfl, rfl, Or.inl ⟨by omega, rfl, rfl⟩⟩
end
section
-- 9md.words.lean.txt
-- words of uim
theorem q_1477 : (Jvm.Cond.fieldLink "SnowRecorderModel" (469 : Nat) "SnowRecorderModel" "imageActs" "I") ∈ AW := AW_m7 37 (by decide +kernel) (by decide +kernel)
theorem q_1478 : (Jvm.Cond.fieldLink "SnowRecorderModel" (472 : Nat) "SnowRecorderModel" "imageFirst" "I") ∈ AW := AW_m7 38 (by decide +kernel) (by decide +kernel)
theorem q_1479 : (Jvm.Cond.fieldLink "SnowRecorderModel" (475 : Nat) "SnowRecorderModel" "imageNotes" "I") ∈ AW := AW_m7 39 (by decide +kernel) (by decide +kernel)
end
section
-- 9me.dec.lean.txt
-- decode rows of uim
theorem dX10_image_0 : decode cX10_image 0 = .ok (.aload_n 0, 1) := by decide +kernel
theorem dX10_image_1 : decode cX10_image 1 = .ok (.iconst 0, 1) := by decide +kernel
theorem dX10_image_2 : decode cX10_image 2 = .ok (.putfield 110, 3) := by decide +kernel
theorem dX10_image_5 : decode cX10_image 5 = .ok (.aload_n 0, 1) := by decide +kernel
theorem dX10_image_6 : decode cX10_image 6 = .ok (.iconst 0, 1) := by decide +kernel
theorem dX10_image_7 : decode cX10_image 7 = .ok (.sipush 14700, 3) := by decide +kernel
theorem dX10_image_10 : decode cX10_image 10 = .ok (.sipush 350, 3) := by decide +kernel
theorem dX10_image_13 : decode cX10_image 13 = .ok (.invokevirtual 391, 3) := by decide +kernel
theorem dX10_image_16 : decode cX10_image 16 = .ok (.aload_n 0, 1) := by decide +kernel
theorem dX10_image_17 : decode cX10_image 17 = .ok (.sipush 700, 3) := by decide +kernel
theorem dX10_image_20 : decode cX10_image 20 = .ok (.sipush 15050, 3) := by decide +kernel
theorem dX10_image_23 : decode cX10_image 23 = .ok (.sipush 14000, 3) := by decide +kernel
theorem dX10_image_26 : decode cX10_image 26 = .ok (.invokevirtual 391, 3) := by decide +kernel
theorem dX10_image_29 : decode cX10_image 29 = .ok (.aload_n 0, 1) := by decide +kernel
theorem dX10_image_30 : decode cX10_image 30 = .ok (.aload_n 0, 1) := by decide +kernel
theorem dX10_image_31 : decode cX10_image 31 = .ok (.getfield 342, 3) := by decide +kernel
theorem dX10_image_34 : decode cX10_image 34 = .ok (.putfield 469, 3) := by decide +kernel
theorem dX10_image_37 : decode cX10_image 37 = .ok (.aload_n 0, 1) := by decide +kernel
theorem dX10_image_38 : decode cX10_image 38 = .ok (.aload_n 0, 1) := by decide +kernel
theorem dX10_image_39 : decode cX10_image 39 = .ok (.getfield 339, 3) := by decide +kernel
theorem dX10_image_42 : decode cX10_image 42 = .ok (.putfield 472, 3) := by decide +kernel
theorem dX10_image_45 : decode cX10_image 45 = .ok (.aload_n 0, 1) := by decide +kernel
theorem dX10_image_46 : decode cX10_image 46 = .ok (.aload_n 0, 1) := by decide +kernel
theorem dX10_image_47 : decode cX10_image 47 = .ok (.getfield 336, 3) := by decide +kernel
theorem dX10_image_50 : decode cX10_image 50 = .ok (.putfield 475, 3) := by decide +kernel
theorem dX10_image_53 : decode cX10_image 53 = .ok (.iconst 0, 1) := by decide +kernel
theorem dX10_image_54 : decode cX10_image 54 = .ok (.istore_n 1, 1) := by decide +kernel
theorem dX10_image_55 : decode cX10_image 55 = .ok (.iload_n 1, 1) := by decide +kernel
theorem dX10_image_56 : decode cX10_image 56 = .ok (.sipush 540, 3) := by decide +kernel
theorem dX10_image_59 : decode cX10_image 59 = .ok (.if_icmp .ge 25, 3) := by decide +kernel
theorem dX10_image_84 : decode cX10_image 84 = .ok (.iconst 0, 1) := by decide +kernel
theorem dX10_image_85 : decode cX10_image 85 = .ok (.istore_n 1, 1) := by decide +kernel
theorem dX10_image_86 : decode cX10_image 86 = .ok (.iload_n 1, 1) := by decide +kernel
theorem dX10_image_87 : decode cX10_image 87 = .ok (.bipush 8, 2) := by decide +kernel
theorem dX10_image_89 : decode cX10_image 89 = .ok (.if_icmp .ge 54, 3) := by decide +kernel
theorem dX10_image_143 : decode cX10_image 143 = .ok (.iconst 0, 1) := by decide +kernel
theorem dX10_image_144 : decode cX10_image 144 = .ok (.istore_n 1, 1) := by decide +kernel
theorem dX10_image_145 : decode cX10_image 145 = .ok (.iload_n 1, 1) := by decide +kernel
theorem dX10_image_146 : decode cX10_image 146 = .ok (.iconst 3, 1) := by decide +kernel
theorem dX10_image_147 : decode cX10_image 147 = .ok (.if_icmp .ge 23, 3) := by decide +kernel
theorem dX10_image_170 : decode cX10_image 170 = .ok (.aload_n 0, 1) := by decide +kernel
theorem dX10_image_171 : decode cX10_image 171 = .ok (.iconst 1, 1) := by decide +kernel
theorem dX10_image_172 : decode cX10_image 172 = .ok (.putfield 333, 3) := by decide +kernel
theorem dX10_image_175 : decode cX10_image 175 = .ok (.return_, 1) := by decide +kernel
theorem dX10_image_150 : decode cX10_image 150 = .ok (.aload_n 0, 1) := by decide +kernel
theorem dX10_image_151 : decode cX10_image 151 = .ok (.getfield 40, 3) := by decide +kernel
theorem dX10_image_154 : decode cX10_image 154 = .ok (.iconst 3, 1) := by decide +kernel
theorem dX10_image_155 : decode cX10_image 155 = .ok (.iload_n 1, 1) := by decide +kernel
theorem dX10_image_156 : decode cX10_image 156 = .ok (.iadd, 1) := by decide +kernel
theorem dX10_image_157 : decode cX10_image 157 = .ok (.aload_n 0, 1) := by decide +kernel
theorem dX10_image_158 : decode cX10_image 158 = .ok (.getfield 40, 3) := by decide +kernel
theorem dX10_image_161 : decode cX10_image 161 = .ok (.iload_n 1, 1) := by decide +kernel
theorem dX10_image_162 : decode cX10_image 162 = .ok (.iaload, 1) := by decide +kernel
theorem dX10_image_163 : decode cX10_image 163 = .ok (.iastore, 1) := by decide +kernel
theorem dX10_image_164 : decode cX10_image 164 = .ok (.iinc 1 1, 3) := by decide +kernel
theorem dX10_image_167 : decode cX10_image 167 = .ok (.goto (-22), 3) := by decide +kernel
theorem dX10_image_92 : decode cX10_image 92 = .ok (.aload_n 0, 1) := by decide +kernel
theorem dX10_image_93 : decode cX10_image 93 = .ok (.getfield 31, 3) := by decide +kernel
theorem dX10_image_96 : decode cX10_image 96 = .ok (.bipush 8, 2) := by decide +kernel
theorem dX10_image_98 : decode cX10_image 98 = .ok (.iload_n 1, 1) := by decide +kernel
theorem dX10_image_99 : decode cX10_image 99 = .ok (.iadd, 1) := by decide +kernel
theorem dX10_image_100 : decode cX10_image 100 = .ok (.aload_n 0, 1) := by decide +kernel
theorem dX10_image_101 : decode cX10_image 101 = .ok (.getfield 31, 3) := by decide +kernel
theorem dX10_image_104 : decode cX10_image 104 = .ok (.iload_n 1, 1) := by decide +kernel
theorem dX10_image_105 : decode cX10_image 105 = .ok (.iaload, 1) := by decide +kernel
theorem dX10_image_106 : decode cX10_image 106 = .ok (.iastore, 1) := by decide +kernel
theorem dX10_image_107 : decode cX10_image 107 = .ok (.aload_n 0, 1) := by decide +kernel
theorem dX10_image_108 : decode cX10_image 108 = .ok (.getfield 34, 3) := by decide +kernel
theorem dX10_image_111 : decode cX10_image 111 = .ok (.bipush 8, 2) := by decide +kernel
theorem dX10_image_113 : decode cX10_image 113 = .ok (.iload_n 1, 1) := by decide +kernel
theorem dX10_image_114 : decode cX10_image 114 = .ok (.iadd, 1) := by decide +kernel
theorem dX10_image_115 : decode cX10_image 115 = .ok (.aload_n 0, 1) := by decide +kernel
theorem dX10_image_116 : decode cX10_image 116 = .ok (.getfield 34, 3) := by decide +kernel
theorem dX10_image_119 : decode cX10_image 119 = .ok (.iload_n 1, 1) := by decide +kernel
theorem dX10_image_120 : decode cX10_image 120 = .ok (.iaload, 1) := by decide +kernel
theorem dX10_image_121 : decode cX10_image 121 = .ok (.iastore, 1) := by decide +kernel
theorem dX10_image_122 : decode cX10_image 122 = .ok (.aload_n 0, 1) := by decide +kernel
theorem dX10_image_123 : decode cX10_image 123 = .ok (.getfield 37, 3) := by decide +kernel
theorem dX10_image_126 : decode cX10_image 126 = .ok (.bipush 8, 2) := by decide +kernel
theorem dX10_image_128 : decode cX10_image 128 = .ok (.iload_n 1, 1) := by decide +kernel
theorem dX10_image_129 : decode cX10_image 129 = .ok (.iadd, 1) := by decide +kernel
theorem dX10_image_130 : decode cX10_image 130 = .ok (.aload_n 0, 1) := by decide +kernel
theorem dX10_image_131 : decode cX10_image 131 = .ok (.getfield 37, 3) := by decide +kernel
theorem dX10_image_134 : decode cX10_image 134 = .ok (.iload_n 1, 1) := by decide +kernel
theorem dX10_image_135 : decode cX10_image 135 = .ok (.iaload, 1) := by decide +kernel
theorem dX10_image_136 : decode cX10_image 136 = .ok (.iastore, 1) := by decide +kernel
theorem dX10_image_137 : decode cX10_image 137 = .ok (.iinc 1 1, 3) := by decide +kernel
theorem dX10_image_140 : decode cX10_image 140 = .ok (.goto (-54), 3) := by decide +kernel
theorem dX10_image_62 : decode cX10_image 62 = .ok (.aload_n 0, 1) := by decide +kernel
theorem dX10_image_63 : decode cX10_image 63 = .ok (.getfield 43, 3) := by decide +kernel
theorem dX10_image_66 : decode cX10_image 66 = .ok (.sipush 540, 3) := by decide +kernel
theorem dX10_image_69 : decode cX10_image 69 = .ok (.iload_n 1, 1) := by decide +kernel
theorem dX10_image_70 : decode cX10_image 70 = .ok (.iadd, 1) := by decide +kernel
theorem dX10_image_71 : decode cX10_image 71 = .ok (.aload_n 0, 1) := by decide +kernel
theorem dX10_image_72 : decode cX10_image 72 = .ok (.getfield 43, 3) := by decide +kernel
theorem dX10_image_75 : decode cX10_image 75 = .ok (.iload_n 1, 1) := by decide +kernel
theorem dX10_image_76 : decode cX10_image 76 = .ok (.iaload, 1) := by decide +kernel
theorem dX10_image_77 : decode cX10_image 77 = .ok (.iastore, 1) := by decide +kernel
theorem dX10_image_78 : decode cX10_image 78 = .ok (.iinc 1 1, 3) := by decide +kernel
theorem dX10_image_81 : decode cX10_image 81 = .ok (.goto (-26), 3) := by decide +kernel
theorem dX10_restore_0 : decode cX10_restore 0 = .ok (.aload_n 0, 1) := by decide +kernel
theorem dX10_restore_1 : decode cX10_restore 1 = .ok (.iconst 0, 1) := by decide +kernel
theorem dX10_restore_2 : decode cX10_restore 2 = .ok (.putfield 110, 3) := by decide +kernel
theorem dX10_restore_5 : decode cX10_restore 5 = .ok (.aload_n 0, 1) := by decide +kernel
theorem dX10_restore_6 : decode cX10_restore 6 = .ok (.getfield 333, 3) := by decide +kernel
theorem dX10_restore_9 : decode cX10_restore 9 = .ok (.ifCond .ne 5, 3) := by decide +kernel
theorem dX10_restore_14 : decode cX10_restore 14 = .ok (.aload_n 0, 1) := by decide +kernel
theorem dX10_restore_15 : decode cX10_restore 15 = .ok (.sipush 14700, 3) := by decide +kernel
theorem dX10_restore_18 : decode cX10_restore 18 = .ok (.iconst 0, 1) := by decide +kernel
theorem dX10_restore_19 : decode cX10_restore 19 = .ok (.sipush 350, 3) := by decide +kernel
theorem dX10_restore_22 : decode cX10_restore 22 = .ok (.invokevirtual 391, 3) := by decide +kernel
theorem dX10_restore_25 : decode cX10_restore 25 = .ok (.aload_n 0, 1) := by decide +kernel
theorem dX10_restore_26 : decode cX10_restore 26 = .ok (.sipush 15050, 3) := by decide +kernel
theorem dX10_restore_29 : decode cX10_restore 29 = .ok (.sipush 700, 3) := by decide +kernel
theorem dX10_restore_32 : decode cX10_restore 32 = .ok (.sipush 14000, 3) := by decide +kernel
theorem dX10_restore_35 : decode cX10_restore 35 = .ok (.invokevirtual 391, 3) := by decide +kernel
theorem dX10_restore_38 : decode cX10_restore 38 = .ok (.aload_n 0, 1) := by decide +kernel
theorem dX10_restore_39 : decode cX10_restore 39 = .ok (.aload_n 0, 1) := by decide +kernel
theorem dX10_restore_40 : decode cX10_restore 40 = .ok (.getfield 469, 3) := by decide +kernel
theorem dX10_restore_43 : decode cX10_restore 43 = .ok (.putfield 342, 3) := by decide +kernel
theorem dX10_restore_46 : decode cX10_restore 46 = .ok (.aload_n 0, 1) := by decide +kernel
theorem dX10_restore_47 : decode cX10_restore 47 = .ok (.aload_n 0, 1) := by decide +kernel
theorem dX10_restore_48 : decode cX10_restore 48 = .ok (.getfield 472, 3) := by decide +kernel
theorem dX10_restore_51 : decode cX10_restore 51 = .ok (.putfield 339, 3) := by decide +kernel
theorem dX10_restore_54 : decode cX10_restore 54 = .ok (.aload_n 0, 1) := by decide +kernel
theorem dX10_restore_55 : decode cX10_restore 55 = .ok (.aload_n 0, 1) := by decide +kernel
theorem dX10_restore_56 : decode cX10_restore 56 = .ok (.getfield 475, 3) := by decide +kernel
theorem dX10_restore_59 : decode cX10_restore 59 = .ok (.putfield 336, 3) := by decide +kernel
theorem dX10_restore_62 : decode cX10_restore 62 = .ok (.iconst 0, 1) := by decide +kernel
theorem dX10_restore_63 : decode cX10_restore 63 = .ok (.istore_n 1, 1) := by decide +kernel
theorem dX10_restore_64 : decode cX10_restore 64 = .ok (.iload_n 1, 1) := by decide +kernel
theorem dX10_restore_65 : decode cX10_restore 65 = .ok (.sipush 540, 3) := by decide +kernel
theorem dX10_restore_68 : decode cX10_restore 68 = .ok (.if_icmp .ge 25, 3) := by decide +kernel
theorem dX10_restore_93 : decode cX10_restore 93 = .ok (.iconst 0, 1) := by decide +kernel
theorem dX10_restore_94 : decode cX10_restore 94 = .ok (.istore_n 1, 1) := by decide +kernel
theorem dX10_restore_95 : decode cX10_restore 95 = .ok (.iload_n 1, 1) := by decide +kernel
theorem dX10_restore_96 : decode cX10_restore 96 = .ok (.bipush 8, 2) := by decide +kernel
theorem dX10_restore_98 : decode cX10_restore 98 = .ok (.if_icmp .ge 54, 3) := by decide +kernel
theorem dX10_restore_152 : decode cX10_restore 152 = .ok (.iconst 0, 1) := by decide +kernel
theorem dX10_restore_153 : decode cX10_restore 153 = .ok (.istore_n 1, 1) := by decide +kernel
theorem dX10_restore_154 : decode cX10_restore 154 = .ok (.iload_n 1, 1) := by decide +kernel
theorem dX10_restore_155 : decode cX10_restore 155 = .ok (.iconst 3, 1) := by decide +kernel
theorem dX10_restore_156 : decode cX10_restore 156 = .ok (.if_icmp .ge 23, 3) := by decide +kernel
theorem dX10_restore_179 : decode cX10_restore 179 = .ok (.iconst 1, 1) := by decide +kernel
theorem dX10_restore_180 : decode cX10_restore 180 = .ok (.ireturn, 1) := by decide +kernel
theorem dX10_restore_159 : decode cX10_restore 159 = .ok (.aload_n 0, 1) := by decide +kernel
theorem dX10_restore_160 : decode cX10_restore 160 = .ok (.getfield 40, 3) := by decide +kernel
theorem dX10_restore_163 : decode cX10_restore 163 = .ok (.iload_n 1, 1) := by decide +kernel
theorem dX10_restore_164 : decode cX10_restore 164 = .ok (.aload_n 0, 1) := by decide +kernel
theorem dX10_restore_165 : decode cX10_restore 165 = .ok (.getfield 40, 3) := by decide +kernel
theorem dX10_restore_168 : decode cX10_restore 168 = .ok (.iconst 3, 1) := by decide +kernel
theorem dX10_restore_169 : decode cX10_restore 169 = .ok (.iload_n 1, 1) := by decide +kernel
theorem dX10_restore_170 : decode cX10_restore 170 = .ok (.iadd, 1) := by decide +kernel
theorem dX10_restore_171 : decode cX10_restore 171 = .ok (.iaload, 1) := by decide +kernel
theorem dX10_restore_172 : decode cX10_restore 172 = .ok (.iastore, 1) := by decide +kernel
theorem dX10_restore_173 : decode cX10_restore 173 = .ok (.iinc 1 1, 3) := by decide +kernel
theorem dX10_restore_176 : decode cX10_restore 176 = .ok (.goto (-22), 3) := by decide +kernel
theorem dX10_restore_101 : decode cX10_restore 101 = .ok (.aload_n 0, 1) := by decide +kernel
theorem dX10_restore_102 : decode cX10_restore 102 = .ok (.getfield 31, 3) := by decide +kernel
theorem dX10_restore_105 : decode cX10_restore 105 = .ok (.iload_n 1, 1) := by decide +kernel
theorem dX10_restore_106 : decode cX10_restore 106 = .ok (.aload_n 0, 1) := by decide +kernel
theorem dX10_restore_107 : decode cX10_restore 107 = .ok (.getfield 31, 3) := by decide +kernel
theorem dX10_restore_110 : decode cX10_restore 110 = .ok (.bipush 8, 2) := by decide +kernel
theorem dX10_restore_112 : decode cX10_restore 112 = .ok (.iload_n 1, 1) := by decide +kernel
theorem dX10_restore_113 : decode cX10_restore 113 = .ok (.iadd, 1) := by decide +kernel
theorem dX10_restore_114 : decode cX10_restore 114 = .ok (.iaload, 1) := by decide +kernel
theorem dX10_restore_115 : decode cX10_restore 115 = .ok (.iastore, 1) := by decide +kernel
theorem dX10_restore_116 : decode cX10_restore 116 = .ok (.aload_n 0, 1) := by decide +kernel
theorem dX10_restore_117 : decode cX10_restore 117 = .ok (.getfield 34, 3) := by decide +kernel
theorem dX10_restore_120 : decode cX10_restore 120 = .ok (.iload_n 1, 1) := by decide +kernel
theorem dX10_restore_121 : decode cX10_restore 121 = .ok (.aload_n 0, 1) := by decide +kernel
theorem dX10_restore_122 : decode cX10_restore 122 = .ok (.getfield 34, 3) := by decide +kernel
theorem dX10_restore_125 : decode cX10_restore 125 = .ok (.bipush 8, 2) := by decide +kernel
theorem dX10_restore_127 : decode cX10_restore 127 = .ok (.iload_n 1, 1) := by decide +kernel
theorem dX10_restore_128 : decode cX10_restore 128 = .ok (.iadd, 1) := by decide +kernel
theorem dX10_restore_129 : decode cX10_restore 129 = .ok (.iaload, 1) := by decide +kernel
theorem dX10_restore_130 : decode cX10_restore 130 = .ok (.iastore, 1) := by decide +kernel
theorem dX10_restore_131 : decode cX10_restore 131 = .ok (.aload_n 0, 1) := by decide +kernel
theorem dX10_restore_132 : decode cX10_restore 132 = .ok (.getfield 37, 3) := by decide +kernel
theorem dX10_restore_135 : decode cX10_restore 135 = .ok (.iload_n 1, 1) := by decide +kernel
theorem dX10_restore_136 : decode cX10_restore 136 = .ok (.aload_n 0, 1) := by decide +kernel
theorem dX10_restore_137 : decode cX10_restore 137 = .ok (.getfield 37, 3) := by decide +kernel
theorem dX10_restore_140 : decode cX10_restore 140 = .ok (.bipush 8, 2) := by decide +kernel
theorem dX10_restore_142 : decode cX10_restore 142 = .ok (.iload_n 1, 1) := by decide +kernel
theorem dX10_restore_143 : decode cX10_restore 143 = .ok (.iadd, 1) := by decide +kernel
theorem dX10_restore_144 : decode cX10_restore 144 = .ok (.iaload, 1) := by decide +kernel
theorem dX10_restore_145 : decode cX10_restore 145 = .ok (.iastore, 1) := by decide +kernel
theorem dX10_restore_146 : decode cX10_restore 146 = .ok (.iinc 1 1, 3) := by decide +kernel
theorem dX10_restore_149 : decode cX10_restore 149 = .ok (.goto (-54), 3) := by decide +kernel
theorem dX10_restore_71 : decode cX10_restore 71 = .ok (.aload_n 0, 1) := by decide +kernel
theorem dX10_restore_72 : decode cX10_restore 72 = .ok (.getfield 43, 3) := by decide +kernel
theorem dX10_restore_75 : decode cX10_restore 75 = .ok (.iload_n 1, 1) := by decide +kernel
theorem dX10_restore_76 : decode cX10_restore 76 = .ok (.aload_n 0, 1) := by decide +kernel
theorem dX10_restore_77 : decode cX10_restore 77 = .ok (.getfield 43, 3) := by decide +kernel
theorem dX10_restore_80 : decode cX10_restore 80 = .ok (.sipush 540, 3) := by decide +kernel
theorem dX10_restore_83 : decode cX10_restore 83 = .ok (.iload_n 1, 1) := by decide +kernel
theorem dX10_restore_84 : decode cX10_restore 84 = .ok (.iadd, 1) := by decide +kernel
theorem dX10_restore_85 : decode cX10_restore 85 = .ok (.iaload, 1) := by decide +kernel
theorem dX10_restore_86 : decode cX10_restore 86 = .ok (.iastore, 1) := by decide +kernel
theorem dX10_restore_87 : decode cX10_restore 87 = .ok (.iinc 1 1, 3) := by decide +kernel
theorem dX10_restore_90 : decode cX10_restore 90 = .ok (.goto (-26), 3) := by decide +kernel
theorem dX10_restore_12 : decode cX10_restore 12 = .ok (.iconst 0, 1) := by decide +kernel
theorem dX10_restore_13 : decode cX10_restore 13 = .ok (.ireturn, 1) := by decide +kernel
end
