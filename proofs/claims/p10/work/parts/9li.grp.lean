section
-- 9li.uk.lean.txt
theorem isWr.cp {r r' : Nat → Int} {b b' : Nat} {W : WL9} (h : isWr r b W) (hn : ∀ s, s < 4 → (W.2 s).1 ≤ 12) (e : ∀ q, q < 350 → r' (b' + q) = r (b + q)) : isWr r' b' W := by
  refine ⟨fun k hk => (e k (by omega)).trans (h.1 k hk), fun s hs => ?_⟩
  obtain ⟨h1, h2, h3⟩ := h.2 s hs
  have hn9 := hn s hs
  have e2 : ∀ q, q < 86 → r' (b' + 6 + 86 * s + q) = r (b + 6 + 86 * s + q) := fun q hq => by
    have h9 := e (6 + 86 * s + q) (by omega)
    rw [show b' + (6 + 86 * s + q) = b' + 6 + 86 * s + q by omega, show b + (6 + 86 * s + q) = b + 6 + 86 * s + q by omega] at h9
    exact h9
  refine ⟨(e2 0 (by omega)).trans h1, (e2 1 (by omega)).trans h2, fun q hq => ?_⟩
  have h9 := e2 (2 + q) (by omega)
  rw [show b' + 6 + 86 * s + (2 + q) = b' + 6 + 86 * s + 2 + q by omega, show b + 6 + 86 * s + (2 + q) = b + 6 + 86 * s + 2 + q by omega] at h9
  exact h9.trans (h3 q hq)
/-- where the k-th of the kept worlds lies in the ring that begins at fi -/
def kA (fi k : Nat) : Nat := 700 + 350 * ((fi + k) % 40)
/-- the ring says what is kept -/
def xHr (r : Nat → Int) (fi na : Nat) (H : Nat → WL9) : Prop := ∀ k, k < na → isWr r (kA fi k) (H k)
def n12 (W : WL9) : Prop := ∀ s, s < 4 → (W.2 s).1 ≤ 12
theorem xHr.keep {r r' : Nat → Int} {fi na : Nat} {H : Nat → WL9} {W : WL9} (h : xHr r fi na H) (hn : na ≤ 40) (hH : ∀ k, k < na → n12 (H k)) (hw : isWr r 0 W) (hW : n12 W) {fi' m : Nat} (hfi : fi' = if na = 40 then (fi + 1) % 40 else fi) (hm : m = if na = 40 then 39 else na) (hcp : ∀ q, q < 350 → r' (kA fi' m + q) = r q) (hfr : ∀ j, j < kA fi' m ∨ kA fi' m + 350 ≤ j → r' j = r j) : xHr r' fi' (kpN na) (kpH na H W) := by
  intro k hk
  unfold kpN at hk
  have hnew : isWr r' (kA fi' m) W := hw.cp hW (fun q hq => by rw [Nat.zero_add]; exact hcp q hq)
  by_cases e : na = 40
  · rw [if_pos e] at hk hfi hm
    subst hfi hm
    unfold kpH
    rw [if_pos e]
    by_cases e2 : k = 39
    · subst e2
      show isWr r' _ (if (39 : Nat) = 39 then W else H (39 + 1))
      rw [if_pos rfl]
      exact hnew
    · show isWr r' _ (if k = 39 then W else H (k + 1))
      rw [if_neg e2]
      have h1 := h (k + 1) (by omega)
      have e3 : kA ((fi + 1) % 40) k = kA fi (k + 1) := by unfold kA; omega
      rw [e3]
      refine h1.ext (hH (k + 1) (by omega)) (fun j a b => hfr j ?_)
      unfold kA at *
      omega
  · rw [if_neg e] at hk hfi hm
    subst hfi hm
    unfold kpH
    rw [if_neg e]
    by_cases e2 : k = m
    · subst e2
      show isWr r' _ (if k = k then W else H k)
      rw [if_pos rfl]
      exact hnew
    · show isWr r' _ (if k = m then W else H k)
      rw [if_neg e2]
      refine (h k (by omega)).ext (hH k (by omega)) (fun j a b => hfr j ?_)
      unfold kA at *
      omega
theorem xHr.ext {r r' : Nat → Int} {fi na : Nat} {H : Nat → WL9} (h : xHr r fi na H) (hn : na ≤ 40) (hH : ∀ k, k < na → n12 (H k)) (e : ∀ j, 700 ≤ j → j < 14700 → r' j = r j) : xHr r' fi na H := fun k hk => (h k hk).ext (hH k hk) (fun j a b => e j (by unfold kA at *; omega) (by unfold kA at *; omega))

set_option maxRecDepth 100000 in
set_option maxHeartbeats 4000000 in
theorem c_uKeptAt (l : Launch) (D : va_G) (A : Nat → Prop) (cs : Nat → ClassId) (tt : Nat) (N : Nat) (ad : Nat → Nat) (g : Nat → va_E) (fi k : Nat) (hz : fi < 40) (hz1 : k ≤ 40) : zM l yX10_keptAt cX10_keptAt 2 (some .int) ({ frames := 1, cells := 0, slots := 0, locals := 60 } : Room) D A cs tt N ad g [.int (zI ((fi : Int))), .int (zI ((k : Int)))] (rI0 N ad fun r g' => r = ((kA fi k : Nat) : Int) ∧ g = g') := by
  refine z_of (by decide) (Nat.le_of_ble_eq_true rfl) ?_
  intro pY eY sY mY below meth cY C hr hlk hnm
  refine z_lv (lv' := [(0, .int (zI ((fi : Int)))), (1, .int (zI ((k : Int))))]) [0, 1] rfl ?_
  refine z_sipush (z := 700) C dX10_keptAt_0 (by decide) ?_
  refine z_sipush (z := 350) C dX10_keptAt_3 (by decide) ?_
  refine z_iload_n C 0 dX10_keptAt_6 rfl ?_
  refine z_iload_n C 1 dX10_keptAt_7 rfl ?_
  refine z_iadd C dX10_keptAt_8 ?_
  refine z_bipush (z := 40) C dX10_keptAt_9 (by decide) ?_
  refine z_irem C dX10_keptAt_11 (by omega) (by omega) (by omega) ?_
  rw [show (((fi : Int)) + ((k : Int))).tmod 40 = (((fi + k) % 40 : Nat) : Int) by rw [Int.tmod_eq_emod_of_nonneg (by omega)]; omega]
  refine z_imul C dX10_keptAt_12 ?_
  refine z_iadd C dX10_keptAt_13 ?_
  exact z_iret C hr hlk dX10_keptAt_14 (by decide) (by decide) ⟨_, rfl, rfl, rfl, (by unfold kA; omega), rfl⟩

set_option maxRecDepth 100000 in
set_option maxHeartbeats 4000000 in
theorem c_uKeeps (l : Launch) (D : va_G) (A : Nat → Prop) (cs : Nat → ClassId) (tt : Nat) (N : Nat) (ad : Nat → Nat) (g : Nat → va_E) (i : Nat) (hN : i + 30 ≤ N) (F : Nat → Int) (hg : g i = mC ad i F) (r : Nat → Int) (ha1 : g (i + 1) = iA cs 29200 r) (na fi : Nat) (h15 : F 15 = (na : Int)) (h16 : F 16 = (fi : Int)) (hna : na ≤ 40) (hfi : fi < 40) : zM l yX10_keeps cX10_keeps 1 none ({ frames := 2, cells := 0, slots := 0, locals := 120 } : Room) D A cs tt N ad g [.ref (ad i)] (rV0 N ad fun g' => (∃ F' : Nat → Int, g' i = mC ad i F' ∧ (F' 15 = ((kpN na : Nat) : Int) ∧ F' 16 = (((if na = 40 then (fi + 1) % 40 else fi) : Nat) : Int)) ∧ (∀ f, f ≠ 15 → f ≠ 16 → F' f = F f)) ∧ (∃ r' : Nat → Int, g' (i + 1) = iA cs 29200 r' ∧ (∀ q, q < 350 → r' (kA (if na = 40 then (fi + 1) % 40 else fi) (if na = 40 then 39 else na) + q) = r q) ∧ ∀ j, j < kA (if na = 40 then (fi + 1) % 40 else fi) (if na = 40 then 39 else na) ∨ kA (if na = 40 then (fi + 1) % 40 else fi) (if na = 40 then 39 else na) + 350 ≤ j → r' j = r j) ∧ ∀ j, j ≠ i → j ≠ i + 1 → g' j = g j) := by
  have hay1 : zAt ad (i) (ad i) := rfl
  have hay2 : zAt ad (i + 1) (ad (i + 1)) := rfl
  refine z_of (by decide) (Nat.le_of_ble_eq_true rfl) ?_
  intro pY eY sY mY below meth cY C hr hlk hnm
  refine z_lv (lv' := [(0, .ref (ad i))]) [0] rfl ?_
  refine z_aload_n C 0 dX10_keeps_0 rfl ?_
  refine z_get (v := .int (zI (F 15))) C (lt_A0 hN rfl) hay1 hg rfl inA_X10 15 (by decide) q_1474 rfl (fv (F := F) (f := 15) rfl) dX10_keeps_1 ?_
  refine z_bipush (z := 40) C dX10_keeps_4 (by decide) ?_
  refine z_icmp_ne (tgt := 32) C dX10_keeps_6 (by decide) (by omega) (by omega) (fun hby3 => ?_) (fun hby3 => ?_)
  · refine z_aload_n C 0 dX10_keeps_32 rfl ?_
    refine z_iconst (z := 0) C dX10_keeps_33 rfl ?_
    refine z_aload_n C 0 dX10_keeps_34 rfl ?_
    refine z_get (v := .int (zI (F 16))) C (lt_A0 hN rfl) hay1 hg rfl inA_X10 16 (by decide) q_1475 rfl (fv (F := F) (f := 16) rfl) dX10_keeps_35 ?_
    refine z_aload_n C 0 dX10_keeps_38 rfl ?_
    refine z_get (v := .int (zI (F 15))) C (lt_A0 hN rfl) hay1 hg rfl inA_X10 15 (by decide) q_1474 rfl (fv (F := F) (f := 15) rfl) dX10_keeps_39 ?_
    rw [h16]
    rw [h15]
    refine z_cS (As := [.int (zI ((fi : Int))), .int (zI ((na : Int)))]) (rest := [.int (zI (0)), .ref (ad i)]) C (c_uKeptAt l D A cs tt N ad _ fi na (by omega) (by omega)) ms_yX10_keptAt q_1874 hd_yX10_keptAt (by decide) (Nat.le_of_ble_eq_true rfl) (by decide) dX10_keeps_42 rfl (kI0 fun vy4 gvy4 hvy4 => ?_)
    obtain ⟨rfl, rfl⟩ := hvy4
    obtain ⟨bvy4, hbvy4⟩ : ∃ b9 : Nat, b9 = kA fi na := ⟨_, rfl⟩
    have hbrvy4 : 700 ≤ bvy4 ∧ bvy4 ≤ 14350 := by rw [hbvy4]; unfold kA; omega
    rw [← hbvy4]
    refine z_sipush (z := 350) C dX10_keeps_45 (by decide) ?_
    refine z_cV (As := [.int (zI (0)), .int (zI ((bvy4 : Int))), .int (zI (350))]) (rest := []) (ci := 12) C (c_X10_copies l D A cs tt N ad _ i hN _ hg _ ha1 0 bvy4 350 (by omega) (by omega) (by omega)) (lt_A0 hN rfl) hay1 hg rfl rfl mv_yX10_copies q_1877 hd_yX10_copies (by decide) (Nat.le_of_ble_eq_true rfl) (by decide) dX10_keeps_48 rfl (kV0 fun gvy5 hvy5 => ?_)
    obtain ⟨⟨rvy5, hcvy5, hevy5, hovy5⟩, hfvy5⟩ := hvy5
    refine z_aload_n C 0 dX10_keeps_51 rfl ?_
    refine z_dup C dX10_keeps_52 rfl ?_
    have hgy6 := (hfvy5 (i) (ne_o (i := i) (c := 0) (d := 1) rfl)).trans hg
    refine z_get (v := .int (zI (F 15))) C (lt_A0 hN rfl) hay1 hgy6 rfl inA_X10 15 (by decide) q_1474 rfl (fv (F := F) (f := 15) rfl) dX10_keeps_53 ?_
    refine z_iconst (z := 1) C dX10_keeps_56 rfl ?_
    refine z_iadd C dX10_keeps_57 ?_
    refine z_put (fs' := mF ad (i) (uZ F 15 ((F 15) + 1))) C (lt_A0 hN rfl) hay1 hgy6 tyX10 tyX10_ok nmX10 rfl inA_X10 15 (by decide) q_1474 rfl rfl rfl rfl (Nat.le_of_ble_eq_true rfl) rfl dX10_keeps_58 (fun gy7 egy8 => ?_)
    have hgy9 := up_s egy8
    have hFy10 : ∀ f, f ≠ 15 → f ≠ 16 → (uZ F 15 ((F 15) + 1)) f = F f := fun f n15 n16 => ((uZ_n _ _ n15).trans rfl)
    have hey11 : (uZ F 15 ((F 15) + 1)) 15 = (F 15) + 1 := (uZ_s _ _ _)
    have hey12 : (uZ F 15 ((F 15) + 1)) 16 = F 16 := (fn rfl (by decide))
    have hn9 : ¬ na = 40 := by omega
    have hk9 : kpN na = na + 1 := if_neg hn9
    have hi9 : (if na = 40 then (fi + 1) % 40 else fi) = fi := if_neg hn9
    have hm9 : (if na = 40 then 39 else na) = na := if_neg hn9
    rw [hk9, hi9, hm9]
    rw [← hbvy4]
    have hgy13 := up_n egy8 hcvy5 (ne_o (i := i) (c := 1) (d := 0) rfl)
    exact z_vret C hr hlk dX10_keeps_61 (by decide) (by decide) ⟨rfl, rfl, rfl, ⟨_, hgy9, by omega, hFy10⟩, ⟨_, hgy13, fun q hq => (hevy5 q (by omega)).trans (by rw [Nat.zero_add]), fun j a1 => hovy5 j (by omega)⟩, fun j j1 j2 => by rw [egy8, va_up_ne _ _ (by omega)]; rw [hfvy5 _ (by omega)]⟩
  · refine z_aload_n C 0 dX10_keeps_9 rfl ?_
    refine z_aload_n C 0 dX10_keeps_10 rfl ?_
    refine z_get (v := .int (zI (F 16))) C (lt_A0 hN rfl) hay1 hg rfl inA_X10 16 (by decide) q_1475 rfl (fv (F := F) (f := 16) rfl) dX10_keeps_11 ?_
    refine z_iconst (z := 1) C dX10_keeps_14 rfl ?_
    refine z_iadd C dX10_keeps_15 ?_
    refine z_bipush (z := 40) C dX10_keeps_16 (by decide) ?_
    refine z_irem C dX10_keeps_18 (by omega) (by omega) (by omega) ?_
    obtain ⟨fj, hfj⟩ : ∃ f9 : Nat, f9 = (fi + 1) % 40 := ⟨_, rfl⟩
    rw [show ((F 16) + 1).tmod 40 = (fj : Int) by rw [Int.tmod_eq_emod_of_nonneg (by omega), h16]; omega]
    refine z_put (fs' := mF ad (i) (uZ F 16 ((fj : Int)))) C (lt_A0 hN rfl) hay1 hg tyX10 tyX10_ok nmX10 rfl inA_X10 16 (by decide) q_1475 rfl rfl rfl rfl (Nat.le_of_ble_eq_true rfl) rfl dX10_keeps_19 (fun gy14 egy15 => ?_)
    have hgy16 := up_s egy15
    refine z_aload_n C 0 dX10_keeps_22 rfl ?_
    refine z_dup C dX10_keeps_23 rfl ?_
    refine z_get (v := .int (zI (F 15))) C (lt_A0 hN rfl) hay1 hgy16 rfl inA_X10 15 (by decide) q_1474 rfl (fv (F := (uZ F 16 ((fj : Int)))) (f := 15) (fn rfl (by decide))) dX10_keeps_24 ?_
    refine z_iconst (z := 1) C dX10_keeps_27 rfl ?_
    refine z_isub C dX10_keeps_28 ?_
    refine z_put (fs' := mF ad (i) (uZ (uZ F 16 ((fj : Int))) 15 ((F 15) - 1))) C (lt_A0 hN rfl) hay1 hgy16 tyX10 tyX10_ok nmX10 rfl inA_X10 15 (by decide) q_1474 rfl rfl rfl rfl (Nat.le_of_ble_eq_true rfl) rfl dX10_keeps_29 (fun gy17 egy18 => ?_)
    have hgy19 := up_s egy18
    refine z_aload_n C 0 dX10_keeps_32 rfl ?_
    refine z_iconst (z := 0) C dX10_keeps_33 rfl ?_
    refine z_aload_n C 0 dX10_keeps_34 rfl ?_
    refine z_get (v := .int (zI ((fj : Int)))) C (lt_A0 hN rfl) hay1 hgy19 rfl inA_X10 16 (by decide) q_1475 rfl (fv (F := (uZ (uZ F 16 ((fj : Int))) 15 ((F 15) - 1))) (f := 16) (fn (uZ_s _ _ _) (by decide))) dX10_keeps_35 ?_
    refine z_aload_n C 0 dX10_keeps_38 rfl ?_
    refine z_get (v := .int (zI ((F 15) - 1))) C (lt_A0 hN rfl) hay1 hgy19 rfl inA_X10 15 (by decide) q_1474 rfl (fv (F := (uZ (uZ F 16 ((fj : Int))) 15 ((F 15) - 1))) (f := 15) (uZ_s _ _ _)) dX10_keeps_39 ?_
    rw [show (F 15) - 1 = ((39 : Nat) : Int) by omega]
    refine z_cS (As := [.int (zI ((fj : Int))), .int (zI ((39 : Int)))]) (rest := [.int (zI (0)), .ref (ad i)]) C (c_uKeptAt l D A cs tt N ad _ fj 39 (by omega) (by omega)) ms_yX10_keptAt q_1874 hd_yX10_keptAt (by decide) (Nat.le_of_ble_eq_true rfl) (by decide) dX10_keeps_42 rfl (kI0 fun vy20 gvy20 hvy20 => ?_)
    obtain ⟨rfl, rfl⟩ := hvy20
    obtain ⟨bvy20, hbvy20⟩ : ∃ b9 : Nat, b9 = kA fj 39 := ⟨_, rfl⟩
    have hbrvy20 : 700 ≤ bvy20 ∧ bvy20 ≤ 14350 := by rw [hbvy20]; unfold kA; omega
    rw [← hbvy20]
    refine z_sipush (z := 350) C dX10_keeps_45 (by decide) ?_
    have hgy21 := up_n egy15 ha1 (ne_o (i := i) (c := 1) (d := 0) rfl)
    have hgy22 := up_n egy18 hgy21 (ne_o (i := i) (c := 1) (d := 0) rfl)
    refine z_cV (As := [.int (zI (0)), .int (zI ((bvy20 : Int))), .int (zI (350))]) (rest := []) (ci := 12) C (c_X10_copies l D A cs tt N ad _ i hN _ hgy19 _ hgy22 0 bvy20 350 (by omega) (by omega) (by omega)) (lt_A0 hN rfl) hay1 hgy19 rfl rfl mv_yX10_copies q_1877 hd_yX10_copies (by decide) (Nat.le_of_ble_eq_true rfl) (by decide) dX10_keeps_48 rfl (kV0 fun gvy23 hvy23 => ?_)
    obtain ⟨⟨rvy23, hcvy23, hevy23, hovy23⟩, hfvy23⟩ := hvy23
    refine z_aload_n C 0 dX10_keeps_51 rfl ?_
    refine z_dup C dX10_keeps_52 rfl ?_
    have hgy24 := (hfvy23 (i) (ne_o (i := i) (c := 0) (d := 1) rfl)).trans hgy19
    refine z_get (v := .int (zI ((F 15) - 1))) C (lt_A0 hN rfl) hay1 hgy24 rfl inA_X10 15 (by decide) q_1474 rfl (fv (F := (uZ (uZ F 16 ((fj : Int))) 15 ((F 15) - 1))) (f := 15) (uZ_s _ _ _)) dX10_keeps_53 ?_
    refine z_iconst (z := 1) C dX10_keeps_56 rfl ?_
    refine z_iadd C dX10_keeps_57 ?_
    refine z_put (fs' := mF ad (i) (uZ (uZ (uZ F 16 ((fj : Int))) 15 ((F 15) - 1)) 15 (((F 15) - 1) + 1))) C (lt_A0 hN rfl) hay1 hgy24 tyX10 tyX10_ok nmX10 rfl inA_X10 15 (by decide) q_1474 rfl rfl rfl rfl (Nat.le_of_ble_eq_true rfl) rfl dX10_keeps_58 (fun gy25 egy26 => ?_)
    have hgy27 := up_s egy26
    have hFy28 : ∀ f, f ≠ 15 → f ≠ 16 → (uZ (uZ (uZ F 16 ((fj : Int))) 15 ((F 15) - 1)) 15 (((F 15) - 1) + 1)) f = F f := fun f n15 n16 => ((uZ_n _ _ n15).trans ((uZ_n _ _ n15).trans ((uZ_n _ _ n16).trans rfl)))
    have hey29 : (uZ (uZ (uZ F 16 ((fj : Int))) 15 ((F 15) - 1)) 15 (((F 15) - 1) + 1)) 15 = ((F 15) - 1) + 1 := (uZ_s _ _ _)
    have hey30 : (uZ (uZ (uZ F 16 ((fj : Int))) 15 ((F 15) - 1)) 15 (((F 15) - 1) + 1)) 16 = (fj : Int) := (fn (fn (uZ_s _ _ _) (by decide)) (by decide))
    have hn9 : na = 40 := by omega
    have hk9 : kpN na = 40 := if_pos hn9
    have hi9 : (if na = 40 then (fi + 1) % 40 else fi) = fj := (if_pos hn9).trans hfj.symm
    have hm9 : (if na = 40 then 39 else na) = 39 := if_pos hn9
    rw [hk9, hi9, hm9]
    rw [← hbvy20]
    have hgy31 := up_n egy26 hcvy23 (ne_o (i := i) (c := 1) (d := 0) rfl)
    exact z_vret C hr hlk dX10_keeps_61 (by decide) (by decide) ⟨rfl, rfl, rfl, ⟨_, hgy27, by omega, hFy28⟩, ⟨_, hgy31, fun q hq => (hevy23 q (by omega)).trans (by rw [Nat.zero_add]), fun j a1 => hovy23 j (by omega)⟩, fun j j1 j2 => by rw [egy26, va_up_ne _ _ (by omega)]; rw [hfvy23 _ (by omega)]; rw [egy18, va_up_ne _ _ (by omega)]; rw [egy15, va_up_ne _ _ (by omega)]⟩
end
section
-- 9ll.uw.lean.txt
/-- an HOUR of the reference's fields; n of them -/
def hwR (F op ai fa mu tb : Nat → Int) (ns : Nat) (W : WL9) : WL9 := hoW tb op (rAi F ai (W.1 0)) (rWh F fa (W.1 0)) (rMu F mu (W.1 0)) 15 ns W
def gwR (F op ai fa mu tb : Nat → Int) (ns : Nat) : Nat → WL9 → WL9
  | 0, W => W
  | k + 1, W => hwR F op ai fa mu tb ns (gwR F op ai fa mu tb ns k W)
theorem ho_hd {tb op : Nat → Int} {air what much : Int} {z sl : Nat} {W : WL9} : (hoW tb op air what much z sl W).1 0 = W.1 0 + 1 ∧ ∀ j, 2 ≤ j → (hoW tb op air what much z sl W).1 j = W.1 j := by
  have hh := hoS_h (tb := tb) (op := op) (air := air) (what := what) (much := much) (z := z) (W := W) sl
  refine ⟨?_, fun j hj => ?_⟩
  · show uZ (hoS tb op air what much z sl W).1 0 ((hoS tb op air what much z sl W).1 0 + 1) 0 = _
    rw [uZ_s, hh.1 0 (by decide)]
  · show uZ (hoS tb op air what much z sl W).1 0 ((hoS tb op air what much z sl W).1 0 + 1) j = _
    rw [uZ_n _ _ (by omega)]
    exact hh.1 j (by omega)
theorem gw_ok {F op ai fa mu tb : Nat → Int} {ns : Nat} {x X : Int} {W : WL9} (hf : okFr F op ai fa mu tb) (h : okWl x X W) (hns : ns ≤ 4) (hX : 0 ≤ X) (hx : 0 ≤ x) : ∀ k : Nat, W.1 0 + (k : Int) + x ≤ 2722 → W.1 0 + (k : Int) ≤ 2180 → okWl x X (gwR F op ai fa mu tb ns k W) ∧ (gwR F op ai fa mu tb ns k W).1 0 = W.1 0 + (k : Int) ∧ ∀ j, 2 ≤ j → (gwR F op ai fa mu tb ns k W).1 j = W.1 j := by
  intro k
  induction k with
  | zero => exact fun _ _ => ⟨h, (Int.add_zero _).symm, fun _ _ => rfl⟩
  | succ k ih =>
    intro h1 h2
    obtain ⟨a, b, c⟩ := ih (by omega) (by omega)
    have hd := ho_hd (tb := tb) (op := op) (air := rAi F ai ((gwR F op ai fa mu tb ns k W).1 0)) (what := rWh F fa ((gwR F op ai fa mu tb ns k W).1 0)) (much := rMu F mu ((gwR F op ai fa mu tb ns k W).1 0)) (z := 15) (sl := ns) (W := gwR F op ai fa mu tb ns k W)
    refine ⟨ho_wl hf.2.2.2.2 a hns hX hx (by omega) (by omega) (rWM_b hf).2.2 (rAi_b hf) (fun k hk => hf.2.1 k (by omega)), ?_, fun j hj => (hd.2 j hj).trans (c j hj)⟩
    exact hd.1.trans (by omega)
theorem okWl.n12 {x X : Int} {W : WL9} (h : okWl x X W) : ∀ s, s < 4 → (W.2 s).1 ≤ 12 := fun s hs => (h.1 s hs).1.1.1
/-- what falls on one slope of a world -/
def foW (what much air : Int) (s : Nat) (W : WL9) : WL9 := (uZ W.1 1 (W.1 1 + foN what air), uS W.2 s (foZ what much air (W.1 1) (W.2 s)))
theorem isWr.fo {r r' : Nat → Int} {b s p : Nat} {W : WL9} {what much air : Int} (h : isWr r b W) (hs : s < 4) (hn : ∀ s, s < 4 → (W.2 s).1 ≤ 12) (hp : b + 6 + 86 * s = p) (hS : isS r' p (foZ what much air (W.1 1) (W.2 s))) (h1 : r' (b + 1) = W.1 1 + foN what air) (e : ∀ j, j < p ∨ p + 86 ≤ j → j ≠ b + 1 → r' j = r j) : isWr r' b (foW what much air s W) := by
  refine isWr.sl _ _ h hs hn (fun j a1 a2 => e j (by omega) (by omega)) (fun k9 h9 => ?_) (by rw [hp]; exact hS)
  by_cases e9 : k9 = 1
  · subst e9; rw [uZ_s]; exact h1
  · rw [uZ_n _ _ e9]; exact (e _ (by omega) (by omega)).trans (h.1 k9 h9)

set_option maxRecDepth 100000 in
set_option maxHeartbeats 4000000 in
theorem c_uDigs (l : Launch) (D : va_G) (A : Nat → Prop) (cs : Nat → ClassId) (tt : Nat) (N : Nat) (ad : Nat → Nat) (g : Nat → va_E) (i : Nat) (hN : i + 30 ≤ N) (F : Nat → Int) (hg : g i = mC ad i F) (r : Nat → Int) (ha1 : g (i + 1) = iA cs 29200 r) (b s p : Nat) (hp : b + 6 + 86 * s = p) (hb : b + 350 ≤ 29200) (hs : s < 4) (W : WL9) (hW : isWr r b W) (hn9 : ∀ s, s < 4 → (W.2 s).1 ≤ 12) (m9 e9 g9 : Int) (hok : okSl m9 e9 g9 (W.2 s)) (h1 : 1 ≤ (W.2 s).1) : zM l yX10_digs cX10_digs 4 none ({ frames := 4, cells := 0, slots := 0, locals := 240 } : Room) D A cs tt N ad g [.ref (ad i), .int (zI ((b : Int))), .int (zI ((s : Int)))] (rV0 N ad fun g' => (∃ r' : Nat → Int, g' (i + 1) = iA cs 29200 r' ∧ isWr r' b (dgW W s) ∧ ∀ j, j < b ∨ b + 350 ≤ j → r' j = r j) ∧ ∀ j, j ≠ i + 1 → g' j = g j) := by
  have hay1 : zAt ad (i) (ad i) := rfl
  have hay2 : zAt ad (i + 1) (ad (i + 1)) := rfl
  have hS0 : isS r p (W.2 s) := by rw [← hp]; exact hW.2 s hs
  obtain ⟨⟨ny3, Ky4, roy5⟩, hSy6⟩ : ∃ S9 : SL9, S9 = W.2 s := ⟨_, rfl⟩
  obtain ⟨hny7, hry8, hCy9⟩ := (show isS r p (ny3, Ky4, roy5) by rw [hSy6]; exact hS0)
  have hny7 : r p = (ny3 : Int) := hny7
  have hry8 : r (p + 1) = roy5 := hry8
  have hCy9 : ∀ q, q < 7 * ny3 → r (p + 2 + q) = Ky4 q := hCy9
  have hOy109 := hok
  rw [← hSy6] at hOy109
  obtain ⟨hOy10, hpy11, hmy12, hdy13, hagy14⟩ := id hOy109
  have hpy11 : 0 ≤ roy5 := hpy11
  have hmy12 : roy5 + sZ Ky4 ny3 ≤ _ := hmy12
  have hdy13 : dZ Ky4 ny3 ≤ _ := hdy13
  have hOy10 : okP Ky4 ny3 := hOy10
  have hsy15 := sZ_n hOy10 (k := ny3) (Nat.le_refl _)
  have hsy15n : ny3 ≤ 12 := hOy10.1
  have hagy14 : ∀ l, l < ny3 → Ky4 (7 * l + 5) ≤ _ := hagy14
  have h19 : 1 ≤ ny3 := by have h9 := h1; rw [← hSy6] at h9; exact h9
  obtain ⟨j, hj9⟩ : ∃ j, ny3 = j + 1 := ⟨ny3 - 1, by omega⟩
  refine z_of (by decide) (Nat.le_of_ble_eq_true rfl) ?_
  intro pY eY sY mY below meth cY C hr hlk hnm
  refine z_lv (lv' := [(0, .ref (ad i)), (1, .int (zI ((b : Int)))), (2, .int (zI ((s : Int))))]) [0, 1, 2] rfl ?_
  refine z_aload_n C 0 dX10_digs_0 rfl ?_
  refine z_iload_n C 1 dX10_digs_1 rfl ?_
  refine z_iload_n C 2 dX10_digs_2 rfl ?_
  refine z_cV (As := [.int (zI ((b : Int))), .int (zI ((s : Int)))]) (rest := []) (ci := 12) C (c_X10_many l D A cs tt N ad _ i hN _ hg _ ha1 b s p hp (by omega) (by omega)) (lt_A0 hN rfl) hay1 hg rfl rfl mv_yX10_many q_1733 hd_yX10_many (by decide) (Nat.le_of_ble_eq_true rfl) (by decide) dX10_digs_3 rfl (kI0 fun vy16 gvy16 hvy16 => ?_)
  obtain ⟨rfl, rfl⟩ := hvy16
  rw [show r (p) = (ny3 : Int) from hny7]
  refine z_iconst (z := 1) C dX10_digs_6 rfl ?_
  refine z_isub C dX10_digs_7 ?_
  rw [show ((ny3 : Int)) - 1 = (j : Int) by omega]
  refine z_istore_n (lv' := [(3, .int (zI ((j : Int)))), (0, .ref (ad i)), (1, .int (zI ((b : Int)))), (2, .int (zI ((s : Int))))]) C dX10_digs_8 rfl (by decide) rfl ?_
  refine z_aload_n C 1 dX10_digs_9 rfl ?_
  refine z_get (v := .ref (ad (i + 1))) C (lt_A0 hN rfl) hay1 hg rfl inA_X10 0 (by decide) q_1459 rfl rfl dX10_digs_10 ?_
  refine z_iload_n C 2 dX10_digs_13 rfl ?_
  refine z_iconst (z := 2) C dX10_digs_14 rfl ?_
  refine z_iadd C dX10_digs_15 ?_
  refine z_dup2 C dX10_digs_16 rfl rfl ?_
  refine z_iald C (lt_A (c := 1) hN rfl) hay2 ha1 (b + 2) (by omega) (by omega) (by decide) dX10_digs_17 ?_
  refine z_aload_n C 1 dX10_digs_18 rfl ?_
  refine z_iload_n C 2 dX10_digs_19 rfl ?_
  refine z_iload_n C 3 dX10_digs_20 rfl ?_
  refine z_iload_n C 0 dX10_digs_21 rfl ?_
  have hqy18k : ((j : Int) : Int) = ((j : Nat) : Int) := by omega
  obtain ⟨qy18, hqy18⟩ : ∃ q9 : Nat, p + 2 + 7 * j = q9 := ⟨_, rfl⟩
  refine z_cV (As := [.int (zI ((b : Int))), .int (zI ((s : Int))), .int (zI ((j : Int)))]) (rest := [.int (zI (r (b + 2))), .int (zI (((b : Int)) + 2)), .ref (ad (i + 1))]) (ci := 12) C (c_uWeight l D A cs tt N ad _ i hN _ hg _ ha1 b s p hp (by omega) (by omega) ny3 Ky4 hny7 hCy9 hOy10 ((j : Int)) j qy18 (by omega) hqy18 (by omega)) (lt_A0 hN rfl) hay1 hg rfl rfl mv_yX10_weight q_1784 hd_yX10_weight (by decide) (Nat.le_of_ble_eq_true rfl) (by decide) dX10_digs_22 rfl (kI0 fun vy17 gvy17 hvy17 => ?_)
  obtain ⟨rfl, rfl⟩ := hvy17
  have hmy19 := hOy10.mz (l := j) (by omega)
  refine z_iadd C dX10_digs_25 ?_
  refine z_iast C (lt_A (c := 1) hN rfl) hay2 ha1 (b + 2) (by omega) (by omega) (by decide) dX10_digs_26 (fun gy20 egy21 => ?_)
  have hgy22 := up_s egy21
  obtain ⟨ry23, hvy24⟩ : ∃ rZ9 : Nat → Int, rZ9 = uZ r (b + 2) ((r (b + 2)) + (mZ Ky4 j)) := ⟨_, rfl⟩
  rw [← hvy24] at hgy22
  have hCy25 := lay_n hCy9 hvy24 (by omega)
  refine z_aload_n C 1 dX10_digs_27 rfl ?_
  refine z_iload_n C 2 dX10_digs_28 rfl ?_
  refine z_iload_n C 3 dX10_digs_29 rfl ?_
  refine z_iload_n C 0 dX10_digs_30 rfl ?_
  have hgy26 := up_n egy21 hg (ne_o (i := i) (c := 0) (d := 1) rfl)
  refine z_cV (As := [.int (zI ((b : Int))), .int (zI ((s : Int))), .int (zI ((j : Int)))]) (rest := []) (ci := 12) C (c_X10_setsMany l D A cs tt N ad _ i hN _ hgy26 _ hgy22 b s p hp (by omega) (by omega) ((j : Int))) (lt_A0 hN rfl) hay1 hgy26 rfl rfl mv_yX10_setsMany q_1717 hd_yX10_setsMany (by decide) (Nat.le_of_ble_eq_true rfl) (by decide) dX10_digs_31 rfl (kV0 fun gvy27 hvy27 => ?_)
  obtain ⟨hcvy27, hfvy27⟩ := hvy27
  obtain ⟨ry28, hvy29⟩ : ∃ rZ9 : Nat → Int, rZ9 = uZ ry23 (p) ((j : Int)) := ⟨_, rfl⟩
  rw [← hvy29] at hcvy27
  have hCy30 := lay_n hCy25 hvy29 (by omega)
  have hfry31 : ∀ j, j ≠ p → j ≠ b + 2 → ry28 j = r j := fun j n0 n1 => (congrFun hvy29 _).trans ((uZ_n _ _ n0).trans ((congrFun hvy24 _).trans ((uZ_n _ _ n1).trans (rfl))))
  have hh9 : ∀ k9, k9 < 6 → ry28 (b + k9) = (uZ W.1 2 (W.1 2 + mZ Ky4 j)) k9 := by
    intro k9 h9
    by_cases e2 : k9 = 2
    · subst e2; rw [uZ_s]; exact ((congrFun hvy29 _).trans ((uZ_n _ _ (by omega)).trans ((congrFun hvy24 _).trans (uZ_s _ _ _)))).trans (by rw [show r (b + 2) = W.1 2 from hW.1 2 (by decide)])
    rw [uZ_n _ _ e2]; exact (hfry31 _ (by omega) (by omega)).trans (hW.1 k9 h9)
  have hfin : isWr ry28 b (dgW W s) := by
    unfold dgW
    rw [← hSy6, show ((ny3, Ky4, roy5) : SL9).1 - 1 = j from (by omega : ny3 - 1 = j)]
    exact isWr.sl (uZ W.1 2 (W.1 2 + mZ Ky4 j)) (j, Ky4, roy5) hW hs hn9 (fun j a1 a2 => hfry31 j (by omega) (by omega)) hh9 (by rw [hp]; exact ⟨(congrFun hvy29 _).trans (uZ_s _ _ _), (hfry31 (p + 1) (by omega) (by omega)).trans hry8, fun q hq => (hfry31 _ (by omega) (by omega)).trans (hCy9 q (by have h7 : q < 7 * j := hq; omega))⟩)
  exact z_vret C hr hlk dX10_digs_34 (by decide) (by decide) ⟨rfl, rfl, rfl, ⟨_, hcvy27, hfin, fun j a1 => hfry31 j (by omega) (by omega)⟩, fun j j1 => by rw [hfvy27 _ (by omega)]; rw [egy21, va_up_ne _ _ (by omega)]⟩

set_option maxRecDepth 100000 in
set_option maxHeartbeats 4000000 in
theorem c_uSlides (l : Launch) (D : va_G) (A : Nat → Prop) (cs : Nat → ClassId) (tt : Nat) (N : Nat) (ad : Nat → Nat) (g : Nat → va_E) (i : Nat) (hN : i + 30 ≤ N) (F : Nat → Int) (hg : g i = mC ad i F) (r : Nat → Int) (ha1 : g (i + 1) = iA cs 29200 r) (st : Nat → Int) (ha2 : g (i + 2) = iA cs 4 st) (tb : Nat → Int) (ha7 : g (i + 7) = iA cs 15 tb) (b s p : Nat) (hp : b + 6 + 86 * s = p) (hb : b + 350 ≤ 29200) (hs : s < 4) (W : WL9) (hW : isWr r b W) (hn9 : ∀ s, s < 4 → (W.2 s).1 ≤ 12) (m9 e9 g9 : Int) (hok : okSl m9 e9 g9 (W.2 s)) (ht : okTb tb) (hX0 : okX (W.2 s).2.1 (W.2 s).1) (hst : 0 ≤ st s ∧ st s ≤ 90) (wk : Nat) (hwk : isWk tb (W.2 s).2.1 (W.2 s).1 0 (st s) (wk : Int)) : zM l yX10_slides cX10_slides 5 (some .int) ({ frames := 9, cells := 0, slots := 0, locals := 540 } : Room) D A cs tt N ad g [.ref (ad i), .int (zI ((b : Int))), .int (zI ((s : Int)))] (rI0 N ad fun q g' => q = ((W.2 s).1 : Int) - 1 - (wk : Int) ∧ (∃ r' : Nat → Int, g' (i + 1) = iA cs 29200 r' ∧ isWr r' b (slW W s wk) ∧ ∀ j, j < b ∨ b + 350 ≤ j → r' j = r j) ∧ ∀ j, j ≠ i + 1 → g' j = g j) := by
  have hay1 : zAt ad (i) (ad i) := rfl
  have hay2 : zAt ad (i + 1) (ad (i + 1)) := rfl
  have hay3 : zAt ad (i + 2) (ad (i + 2)) := rfl
  have hay4 : zAt ad (i + 7) (ad (i + 7)) := rfl
  have hS0 : isS r p (W.2 s) := by rw [← hp]; exact hW.2 s hs
  obtain ⟨⟨ny5, Ky6, roy7⟩, hSy8⟩ : ∃ S9 : SL9, S9 = W.2 s := ⟨_, rfl⟩
  obtain ⟨hny9, hry10, hCy11⟩ := (show isS r p (ny5, Ky6, roy7) by rw [hSy8]; exact hS0)
  have hny9 : r p = (ny5 : Int) := hny9
  have hry10 : r (p + 1) = roy7 := hry10
  have hCy11 : ∀ q, q < 7 * ny5 → r (p + 2 + q) = Ky6 q := hCy11
  have hOy129 := hok
  rw [← hSy8] at hOy129
  obtain ⟨hOy12, hpy13, hmy14, hdy15, hagy16⟩ := id hOy129
  have hpy13 : 0 ≤ roy7 := hpy13
  have hmy14 : roy7 + sZ Ky6 ny5 ≤ _ := hmy14
  have hdy15 : dZ Ky6 ny5 ≤ _ := hdy15
  have hOy12 : okP Ky6 ny5 := hOy12
  have hsy17 := sZ_n hOy12 (k := ny5) (Nat.le_refl _)
  have hsy17n : ny5 ≤ 12 := hOy12.1
  have hagy16 : ∀ l, l < ny5 → Ky6 (7 * l + 5) ≤ _ := hagy16
  have hX : okX Ky6 ny5 := by have h9 := hX0; rw [← hSy8] at h9; exact h9
  have hwd : isWk tb Ky6 ny5 0 (st s) (wk : Int) := by have h9 := hwk; rw [← hSy8] at h9; exact h9
  have hwn : wk < ny5 := by rcases hwd with ⟨a9, b9⟩ | ⟨k9, a9, b9, -⟩ <;> omega
  refine z_of (by decide) (Nat.le_of_ble_eq_true rfl) ?_
  intro pY eY sY mY below meth cY C hr hlk hnm
  refine z_lv (lv' := [(0, .ref (ad i)), (1, .int (zI ((b : Int)))), (2, .int (zI ((s : Int))))]) [0, 1, 2] rfl ?_
  refine z_aload_n C 0 dX10_slides_0 rfl ?_
  refine z_iload_n C 1 dX10_slides_1 rfl ?_
  refine z_iload_n C 2 dX10_slides_2 rfl ?_
  refine z_cV (As := [.int (zI ((b : Int))), .int (zI ((s : Int)))]) (rest := []) (ci := 12) C (c_uWk l D A cs tt N ad _ i hN _ hg _ ha1 _ ha2 _ ha7 b s p hp (by omega) (by omega) ny5 Ky6 hny9 hCy11 hOy12 ht hX hst) (lt_A0 hN rfl) hay1 hg rfl rfl mv_yX10_weakest q_1807 hd_yX10_weakest (by decide) (Nat.le_of_ble_eq_true rfl) (by decide) dX10_slides_3 rfl (kI0 fun vy18 gvy18 hvy18 => ?_)
  obtain ⟨hkvy18, rfl⟩ := hvy18
  have hbvy18 : -1 ≤ vy18 ∧ vy18 ≤ 11 := by rcases hkvy18 with ⟨a9, b9⟩ | ⟨k9, a9, b9, -⟩ <;> omega
  obtain rfl := isWk_u hkvy18 hwd
  refine z_istore_n (lv' := [(3, .int (zI ((wk : Int)))), (0, .ref (ad i)), (1, .int (zI ((b : Int)))), (2, .int (zI ((s : Int))))]) C dX10_slides_6 rfl (by decide) rfl ?_
  refine z_aload_n C 1 dX10_slides_7 rfl ?_
  refine z_iload_n C 2 dX10_slides_8 rfl ?_
  refine z_iload_n C 3 dX10_slides_9 rfl ?_
  refine z_cV (As := [.int (zI ((b : Int))), .int (zI ((s : Int)))]) (rest := []) (ci := 12) C (c_X10_many l D A cs tt N ad _ i hN _ hg _ ha1 b s p hp (by omega) (by omega)) (lt_A0 hN rfl) hay1 hg rfl rfl mv_yX10_many q_1733 hd_yX10_many (by decide) (Nat.le_of_ble_eq_true rfl) (by decide) dX10_slides_10 rfl (kI0 fun vy19 gvy19 hvy19 => ?_)
  obtain ⟨rfl, rfl⟩ := hvy19
  rw [show r (p) = (ny5 : Int) from hny9]
  refine z_iconst (z := 1) C dX10_slides_13 rfl ?_
  refine z_isub C dX10_slides_14 ?_
  refine z_iload_n C 0 dX10_slides_15 rfl ?_
  refine z_isub C dX10_slides_16 ?_
  refine z_istore (lv' := [(4, .int (zI ((((ny5 : Int)) - 1) - ((wk : Int))))), (3, .int (zI ((wk : Int)))), (0, .ref (ad i)), (1, .int (zI ((b : Int)))), (2, .int (zI ((s : Int))))]) C dX10_slides_17 (by decide) rfl ?_
  refine z_aload_n C 2 dX10_slides_19 rfl ?_
  refine z_get (v := .ref (ad (i + 1))) C (lt_A0 hN rfl) hay1 hg rfl inA_X10 0 (by decide) q_1459 rfl rfl dX10_slides_20 ?_
  refine z_iload_n C 3 dX10_slides_23 rfl ?_
  refine z_iconst (z := 3) C dX10_slides_24 rfl ?_
  refine z_iadd C dX10_slides_25 ?_
  refine z_dup2 C dX10_slides_26 rfl rfl ?_
  refine z_iald C (lt_A (c := 1) hN rfl) hay2 ha1 (b + 3) (by omega) (by omega) (by decide) dX10_slides_27 ?_
  refine z_aload_n C 2 dX10_slides_28 rfl ?_
  refine z_iload_n C 3 dX10_slides_29 rfl ?_
  refine z_iload_n C 4 dX10_slides_30 rfl ?_
  refine z_iload_n C 1 dX10_slides_31 rfl ?_
  have hqy21k : ((wk : Int) : Int) = ((wk : Nat) : Int) := by omega
  obtain ⟨qy21, hqy21⟩ : ∃ q9 : Nat, p + 2 + 7 * wk = q9 := ⟨_, rfl⟩
  refine z_cV (As := [.int (zI ((b : Int))), .int (zI ((s : Int))), .int (zI ((wk : Int)))]) (rest := [.int (zI (r (b + 3))), .int (zI (((b : Int)) + 3)), .ref (ad (i + 1))]) (ci := 12) C (c_uAbove l D A cs tt N ad _ i hN _ hg _ ha1 b s p hp (by omega) (by omega) ny5 Ky6 hny9 hCy11 hOy12 ((wk : Int)) wk qy21 (by omega) hqy21 (by omega)) (lt_A0 hN rfl) hay1 hg rfl rfl mv_yX10_above q_1780 hd_yX10_above (by decide) (Nat.le_of_ble_eq_true rfl) (by decide) dX10_slides_32 rfl (kI0 fun vy20 gvy20 hvy20 => ?_)
  obtain ⟨rfl, rfl⟩ := hvy20
  have hmy22 := abZ_b hOy12 (l := wk) (by omega)
  refine z_iadd C dX10_slides_35 ?_
  refine z_iast C (lt_A (c := 1) hN rfl) hay2 ha1 (b + 3) (by omega) (by omega) (by decide) dX10_slides_36 (fun gy23 egy24 => ?_)
  have hgy25 := up_s egy24
  obtain ⟨ry26, hvy27⟩ : ∃ rZ9 : Nat → Int, rZ9 = uZ r (b + 3) ((r (b + 3)) + (abZ Ky6 ny5 wk)) := ⟨_, rfl⟩
  rw [← hvy27] at hgy25
  have hCy28 := lay_n hCy11 hvy27 (by omega)
  refine z_aload_n C 2 dX10_slides_37 rfl ?_
  have hgy29 := up_n egy24 hg (ne_o (i := i) (c := 0) (d := 1) rfl)
  refine z_get (v := .ref (ad (i + 1))) C (lt_A0 hN rfl) hay1 hgy29 rfl inA_X10 0 (by decide) q_1459 rfl rfl dX10_slides_38 ?_
  refine z_iload_n C 3 dX10_slides_41 rfl ?_
  refine z_iconst (z := 4) C dX10_slides_42 rfl ?_
  refine z_iadd C dX10_slides_43 ?_
  refine z_dup2 C dX10_slides_44 rfl rfl ?_
  refine z_iald C (lt_A (c := 1) hN rfl) hay2 hgy25 (b + 4) (by omega) (by omega) (by decide) dX10_slides_45 ?_
  rw [show ry26 (b + 4) = r (b + 4) from (congrFun hvy27 _).trans ((uZ_n _ _ (by omega)).trans (rfl))]
  refine z_iconst (z := 1) C dX10_slides_46 rfl ?_
  refine z_iadd C dX10_slides_47 ?_
  refine z_iast C (lt_A (c := 1) hN rfl) hay2 hgy25 (b + 4) (by omega) (by omega) (by decide) dX10_slides_48 (fun gy30 egy31 => ?_)
  have hgy32 := up_s egy31
  obtain ⟨ry33, hvy34⟩ : ∃ rZ9 : Nat → Int, rZ9 = uZ ry26 (b + 4) ((r (b + 4)) + 1) := ⟨_, rfl⟩
  rw [← hvy34] at hgy32
  have hCy35 := lay_n hCy28 hvy34 (by omega)
  refine z_aload_n C 2 dX10_slides_49 rfl ?_
  refine z_iload_n C 3 dX10_slides_50 rfl ?_
  refine z_iload_n C 4 dX10_slides_51 rfl ?_
  refine z_iload_n C 1 dX10_slides_52 rfl ?_
  refine z_iconst (z := 1) C dX10_slides_53 rfl ?_
  refine z_iadd C dX10_slides_54 ?_
  have hgy36 := up_n egy31 hgy29 (ne_o (i := i) (c := 0) (d := 1) rfl)
  refine z_cV (As := [.int (zI ((b : Int))), .int (zI ((s : Int))), .int (zI (((wk : Int)) + 1))]) (rest := []) (ci := 12) C (c_X10_setsMany l D A cs tt N ad _ i hN _ hgy36 _ hgy32 b s p hp (by omega) (by omega) (((wk : Int)) + 1)) (lt_A0 hN rfl) hay1 hgy36 rfl rfl mv_yX10_setsMany q_1717 hd_yX10_setsMany (by decide) (Nat.le_of_ble_eq_true rfl) (by decide) dX10_slides_55 rfl (kV0 fun gvy37 hvy37 => ?_)
  obtain ⟨hcvy37, hfvy37⟩ := hvy37
  obtain ⟨ry38, hvy39⟩ : ∃ rZ9 : Nat → Int, rZ9 = uZ ry33 (p) (((wk : Int)) + 1) := ⟨_, rfl⟩
  rw [← hvy39] at hcvy37
  have hCy40 := lay_n hCy35 hvy39 (by omega)
  refine z_iload C 0 dX10_slides_58 rfl ?_
  have hfry41 : ∀ j, j ≠ p → j ≠ b + 4 → j ≠ b + 3 → ry38 j = r j := fun j n0 n1 n2 => (congrFun hvy39 _).trans ((uZ_n _ _ n0).trans ((congrFun hvy34 _).trans ((uZ_n _ _ n1).trans ((congrFun hvy27 _).trans ((uZ_n _ _ n2).trans (rfl))))))
  have hh9 : ∀ k9, k9 < 6 → ry38 (b + k9) = (uZ (uZ W.1 3 (W.1 3 + abZ Ky6 ny5 wk)) 4 (W.1 4 + 1)) k9 := by
    intro k9 h9
    by_cases e4 : k9 = 4
    · subst e4; rw [uZ_s]; exact ((congrFun hvy39 _).trans ((uZ_n _ _ (by omega)).trans ((congrFun hvy34 _).trans (uZ_s _ _ _)))).trans (by rw [show r (b + 4) = W.1 4 from hW.1 4 (by decide)])
    by_cases e3 : k9 = 3
    · subst e3; rw [uZ_n _ _ (by decide)]; rw [uZ_s]; exact ((congrFun hvy39 _).trans ((uZ_n _ _ (by omega)).trans ((congrFun hvy34 _).trans ((uZ_n _ _ (by omega)).trans ((congrFun hvy27 _).trans (uZ_s _ _ _)))))).trans (by rw [show r (b + 3) = W.1 3 from hW.1 3 (by decide)])
    rw [uZ_n _ _ e4]; rw [uZ_n _ _ e3]; exact (hfry41 _ (by omega) (by omega) (by omega)).trans (hW.1 k9 h9)
  have hfin : isWr ry38 b (slW W s wk) := by
    unfold slW
    rw [← hSy8]
    exact isWr.sl (uZ (uZ W.1 3 (W.1 3 + abZ Ky6 ny5 wk)) 4 (W.1 4 + 1)) (wk + 1, Ky6, roy7) hW hs hn9 (fun j a1 a2 => hfry41 j (by omega) (by omega) (by omega)) hh9 (by rw [hp]; exact ⟨((congrFun hvy39 _).trans (uZ_s _ _ _)).trans (show (wk : Int) + 1 = ((wk + 1 : Nat) : Int) by omega), (hfry41 (p + 1) (by omega) (by omega) (by omega)).trans hry10, fun q hq => (hfry41 _ (by omega) (by omega) (by omega)).trans (hCy11 q (by have h7 : q < 7 * (wk + 1) := hq; omega))⟩)
  have hns9 : (W.2 s).1 = ny5 := by rw [← hSy8]
  exact z_iret C hr hlk dX10_slides_60 (by decide) (by decide) ⟨(((ny5 : Int)) - 1) - ((wk : Int)), rfl, rfl, rfl, by rw [hns9], ⟨_, hcvy37, hfin, fun j a1 => hfry41 j (by omega) (by omega) (by omega)⟩, fun j j1 => by rw [hfvy37 _ (by omega)]; rw [egy31, va_up_ne _ _ (by omega)]; rw [egy24, va_up_ne _ _ (by omega)]⟩

set_option maxRecDepth 100000 in
set_option maxHeartbeats 4000000 in
theorem c_uGoes (l : Launch) (D : va_G) (A : Nat → Prop) (cs : Nat → ClassId) (tt : Nat) (N : Nat) (ad : Nat → Nat) (g : Nat → va_E) (i : Nat) (hN : i + 30 ≤ N) (F : Nat → Int) (hg : g i = mC ad i F) (r : Nat → Int) (ha1 : g (i + 1) = iA cs 29200 r) (op : Nat → Int) (ha3 : g (i + 3) = iA cs 4 op) (ai : Nat → Int) (ha4 : g (i + 4) = iA cs 24 ai) (fa : Nat → Int) (ha5 : g (i + 5) = iA cs 24 fa) (mu : Nat → Int) (ha6 : g (i + 6) = iA cs 24 mu) (tb : Nat → Int) (ha7 : g (i + 7) = iA cs 15 tb) (te : Nat → Int) (ha14 : g (i + 14) = iA cs 14 te) (ki : Nat → Int) (ha15 : g (i + 15) = iA cs 12 ki) (b : Nat) (hb : b + 350 ≤ 29200) (hfr : okFr F op ai fa mu tb) (ns : Nat) (hns : F 13 = (ns : Int)) (W : WL9) (hW : isWr r b W) (x X : Int) (hok : okWl x X W) (hX : 0 ≤ X) (hx : 0 ≤ x) (z7 : Int) (m7 : Nat) (hz7 : z7 = (m7 : Int)) (hm7 : m7 ≤ 200) (hx2 : W.1 0 + (m7 : Int) + x ≤ 2722) (hx3 : W.1 0 + (m7 : Int) ≤ 2180) : zM l yX10_goes cX10_goes 4 none ({ frames := 9, cells := 0, slots := 0, locals := 540 } : Room) D A cs tt N ad g [.ref (ad i), .int (zI ((b : Int))), .int (zI (z7))] (rV0 N ad fun g' => (∃ r' : Nat → Int, g' (i + 1) = iA cs 29200 r' ∧ isWr r' b (gwR F op ai fa mu tb ns m7 W) ∧ ∀ j, j < b ∨ b + 350 ≤ j → r' j = r j) ∧ (∃ t' : Nat → Int, g' (i + 14) = iA cs 14 t') ∧ (∃ t' : Nat → Int, g' (i + 15) = iA cs 12 t') ∧ ∀ j, j ≠ i + 1 → j ≠ i + 14 → j ≠ i + 15 → g' j = g j) := by
  have hay1 : zAt ad (i) (ad i) := rfl
  have hay2 : zAt ad (i + 1) (ad (i + 1)) := rfl
  have hay3 : zAt ad (i + 3) (ad (i + 3)) := rfl
  have hay4 : zAt ad (i + 4) (ad (i + 4)) := rfl
  have hay5 : zAt ad (i + 5) (ad (i + 5)) := rfl
  have hay6 : zAt ad (i + 6) (ad (i + 6)) := rfl
  have hay7 : zAt ad (i + 7) (ad (i + 7)) := rfl
  have hay8 : zAt ad (i + 14) (ad (i + 14)) := rfl
  have hay9 : zAt ad (i + 15) (ad (i + 15)) := rfl
  have hs4 : ns ≤ 4 := by have h9 := hfr.1.1; omega
  refine z_of (by decide) (Nat.le_of_ble_eq_true rfl) ?_
  intro pY eY sY mY below meth cY C hr hlk hnm
  refine z_lv (lv' := [(0, .ref (ad i)), (1, .int (zI ((b : Int)))), (2, .int (zI (z7)))]) [0, 1, 2] rfl ?_
  have lp : ∀ (n9 : Nat) (kk : Int) (k : Nat) (r9 : Nat → Int) (g1 : Nat → va_E), (201 - kk).toNat = n9 → (g1 (i + 1) = iA cs 29200 r9) → (∃ t' : Nat → Int, g1 (i + 14) = iA cs 14 t') → (∃ t' : Nat → Int, g1 (i + 15) = iA cs 12 t') → (∀ j, j ≠ i + 1 → j ≠ i + 14 → j ≠ i + 15 → g1 j = g j) → (kk = (k : Int)) → (k ≤ m7) → (isWr r9 b (gwR F op ai fa mu tb ns k W)) → (∀ j, j < b ∨ b + 350 ≤ j → r9 j = r j) → zV pY l eY ({ frames := 9, cells := 0, slots := 0, locals := 540 } : Room) sY mY ([.ref (ad i), .int (zI ((b : Int))), .int (zI (z7))] : List Value).toArray below meth cY (MQ below (zPost D A (rV0 N ad fun g' => (∃ r' : Nat → Int, g' (i + 1) = iA cs 29200 r' ∧ isWr r' b (gwR F op ai fa mu tb ns m7 W) ∧ ∀ j, j < b ∨ b + 350 ≤ j → r' j = r j) ∧ (∃ t' : Nat → Int, g' (i + 14) = iA cs 14 t') ∧ (∃ t' : Nat → Int, g' (i + 15) = iA cs 12 t') ∧ ∀ j, j ≠ i + 1 → j ≠ i + 14 → j ≠ i + 15 → g' j = g j)) ([.ref (ad i), .int (zI ((b : Int))), .int (zI (z7))] : List Value).toArray sY ({ frames := 9, cells := 0, slots := 0, locals := 540 } : Room).cells ({ frames := 9, cells := 0, slots := 0, locals := 540 } : Room).slots A) D A 4 (N) ad g1 (0) (0) 2 [(0, .ref (ad i)), (1, .int (zI ((b : Int)))), (2, .int (zI (z7))), (3, .int (zI (kk)))] [] := by
    intro n9
    induction n9 using Nat.strongRecOn with
    | ind n9 ih =>
      intro kk k r9 g1 hm9 f2 f9 f10 f3 hik hkn f4 f8
      obtain ⟨te1, ft1⟩ := f9
      obtain ⟨ki1, ft2⟩ := f10
      subst hik
      have hay10 : zAt ad (i) (ad i) := rfl
      have hay11 : zAt ad (i + 1) (ad (i + 1)) := rfl
      have hay12 : zAt ad (i + 3) (ad (i + 3)) := rfl
      have hay13 : zAt ad (i + 4) (ad (i + 4)) := rfl
      have hay14 : zAt ad (i + 5) (ad (i + 5)) := rfl
      have hay15 : zAt ad (i + 6) (ad (i + 6)) := rfl
      have hay16 : zAt ad (i + 7) (ad (i + 7)) := rfl
      have hay17 : zAt ad (i + 14) (ad (i + 14)) := rfl
      have hay18 : zAt ad (i + 15) (ad (i + 15)) := rfl
      refine z_iload_n C 3 dX10_goes_2 rfl ?_
      refine z_iload_n C 2 dX10_goes_3 rfl ?_
      refine z_icmp_ge (tgt := 18) C dX10_goes_4 (by decide) (by omega) (by omega) (fun hby19 => ?_) (fun hby19 => ?_)
      · obtain rfl : k = m7 := by omega
        exact z_vret C hr hlk dX10_goes_18 (by decide) (by decide) ⟨rfl, rfl, rfl, ⟨_, f2, f4, f8⟩, ⟨_, ft1⟩, ⟨_, ft2⟩, fun j j1 j2 j3 => by exact f3 j j1 j2 j3⟩
      · refine z_aload_n C 0 dX10_goes_7 rfl ?_
        refine z_iload_n C 1 dX10_goes_8 rfl ?_
        obtain ⟨ha9, hb9, -⟩ := gw_ok hfr hok hs4 hX hx k (by omega) (by omega)
        refine z_cV (As := [.int (zI ((b : Int)))]) (rest := []) (ci := 12) C (c_uHour l D A cs tt N ad _ i hN _ ((f3 _ (by omega) (by omega) (by omega)).trans hg) _ f2 _ ((f3 _ (by omega) (by omega) (by omega)).trans ha3) _ ((f3 _ (by omega) (by omega) (by omega)).trans ha4) _ ((f3 _ (by omega) (by omega) (by omega)).trans ha5) _ ((f3 _ (by omega) (by omega) (by omega)).trans ha6) _ ((f3 _ (by omega) (by omega) (by omega)).trans ha7) _ ft1 _ ft2 b (by omega) hfr ns hns (gwR F op ai fa mu tb ns k W) f4 x X ha9 hX hx (by omega)) (lt_A0 hN rfl) hay10 ((f3 _ (by omega) (by omega) (by omega)).trans hg) rfl rfl mv_yX10_hour q_1885 hd_yX10_hour (by decide) (Nat.le_of_ble_eq_true rfl) (by decide) dX10_goes_9 rfl (kV0 fun gvy20 hvy20 => ?_)
        obtain ⟨⟨rvy20, hcvy20, hwvy20, hyvy20⟩, ⟨t4vy20, h4vy20⟩, ⟨t5vy20, h5vy20⟩, hfvy20⟩ := hvy20
        refine z_iinc (z := (k : Int) + 1) (lv' := [(3, .int (zI ((k : Int) + 1))), (0, .ref (ad i)), (1, .int (zI ((b : Int)))), (2, .int (zI (z7)))]) (j := 3) C dX10_goes_12 rfl rfl (by decide) rfl ?_
        refine z_goto (tgt := 2) C dX10_goes_15 (by decide) ?_
        refine z_lv (lv' := [(0, .ref (ad i)), (1, .int (zI ((b : Int)))), (2, .int (zI (z7))), (3, .int (zI ((k : Int) + 1)))]) [1, 2, 3, 0] rfl ?_
        exact ih _ (by omega) ((k : Int) + 1) (k + 1) rvy20 gvy20 rfl hcvy20 ⟨_, h4vy20⟩ ⟨_, h5vy20⟩ (fun j j1 j2 j3 => by rw [hfvy20 _ (by omega) (by omega) (by omega)]; exact f3 j j1 j2 j3) (by omega) (by omega) hwvy20 (fun j a1 => (hyvy20 j a1).trans (f8 j a1))
  refine z_iconst (z := 0) C dX10_goes_0 rfl ?_
  refine z_istore_n (lv' := [(3, .int (zI (0))), (0, .ref (ad i)), (1, .int (zI ((b : Int)))), (2, .int (zI (z7)))]) C dX10_goes_1 rfl (by decide) rfl ?_
  refine z_lv (lv' := [(0, .ref (ad i)), (1, .int (zI ((b : Int)))), (2, .int (zI (z7))), (3, .int (zI (0)))]) [1, 2, 3, 0] rfl ?_
  exact lp _ 0 0 r g rfl ha1 ⟨_, ha14⟩ ⟨_, ha15⟩ (fun j _ _ _ => by rfl) rfl (Nat.zero_le _) hW (fun j _ => rfl)
end
section
-- 9lm.words.lean.txt
-- words of ua
theorem q_1866 : (Jvm.Cond.methodLink "SnowRecorderModel" (394 : Nat) ({ cls := "SnowRecorderModel", name := "refuses", desc := "(I)I" } : Jvm.MethodName)) ∈ AW := AW_m8 186 (by decide +kernel) (by decide +kernel)
theorem q_1868 : (Jvm.Cond.instanceMethod ({ cls := "SnowRecorderModel", name := "refuses", desc := "(I)I" } : Jvm.MethodName)) ∈ AW := AW_m8 188 (by decide +kernel) (by decide +kernel)
theorem q_1869 : (Jvm.Cond.code ({ cls := "SnowRecorderModel", name := "refuses", desc := "(I)I" } : Jvm.MethodName) prog_12_method_79_code (2 : Nat) (Option.some Jvm.ClassFile.FieldType.int)) ∈ AW := AW_m8 189 (by decide +kernel) (by decide +kernel)
theorem q_1870 : (Jvm.Cond.methodLink "SnowRecorderModel" (397 : Nat) ({ cls := "SnowRecorderModel", name := "keeps", desc := "()V" } : Jvm.MethodName)) ∈ AW := AW_m8 190 (by decide +kernel) (by decide +kernel)
theorem q_1872 : (Jvm.Cond.instanceMethod ({ cls := "SnowRecorderModel", name := "keeps", desc := "()V" } : Jvm.MethodName)) ∈ AW := AW_m8 192 (by decide +kernel) (by decide +kernel)
theorem q_1873 : (Jvm.Cond.code ({ cls := "SnowRecorderModel", name := "keeps", desc := "()V" } : Jvm.MethodName) prog_12_method_80_code (1 : Nat) (Option.none : Option Jvm.ClassFile.FieldType)) ∈ AW := AW_m8 193 (by decide +kernel) (by decide +kernel)
theorem s_83 : Cond.selects "SnowRecorderModel" ({ cls := "SnowRecorderModel", name := "refuses", desc := "(I)I" } : Jvm.MethodName) ({ cls := "SnowRecorderModel", name := "refuses", desc := "(I)I" } : Jvm.MethodName) ∈ AW := AW_m 83 (by decide +kernel) (by decide +kernel)
theorem s_84 : Cond.selects "SnowRecorderModel" ({ cls := "SnowRecorderModel", name := "keeps", desc := "()V" } : Jvm.MethodName) ({ cls := "SnowRecorderModel", name := "keeps", desc := "()V" } : Jvm.MethodName) ∈ AW := AW_m 84 (by decide +kernel) (by decide +kernel)
theorem hd_yX10_keeps : yX10_keeps.cls ≠ "java/lang/invoke/MethodHandle" ∧ yX10_keeps.cls ≠ "java/lang/invoke/VarHandle" ∧ (parseMethodDescriptor yX10_keeps.desc).map (fun d => d.parameters.length) = some 0 := by decide +kernel
theorem hd_yX10_refuses : yX10_refuses.cls ≠ "java/lang/invoke/MethodHandle" ∧ yX10_refuses.cls ≠ "java/lang/invoke/VarHandle" ∧ (parseMethodDescriptor yX10_refuses.desc).map (fun d => d.parameters.length) = some 1 := by decide +kernel
theorem mv_yX10_keeps : zWv yX10_keeps cX10_keeps 1 none := ⟨q_1872, s_84, q_15, q_1873⟩
theorem mv_yX10_refuses : zWv yX10_refuses cX10_refuses 2 (some .int) := ⟨q_1868, s_83, q_15, q_1869⟩
end
section
-- 9ln.dec.lean.txt
-- decode rows of ua
theorem dX10_hours_0 : decode cX10_hours 0 = .ok (.aload_n 0, 1) := by decide +kernel
theorem dX10_hours_1 : decode cX10_hours 1 = .ok (.iconst 0, 1) := by decide +kernel
theorem dX10_hours_2 : decode cX10_hours 2 = .ok (.putfield 110, 3) := by decide +kernel
theorem dX10_hours_5 : decode cX10_hours 5 = .ok (.iload_n 1, 1) := by decide +kernel
theorem dX10_hours_6 : decode cX10_hours 6 = .ok (.iconst 1, 1) := by decide +kernel
theorem dX10_hours_7 : decode cX10_hours 7 = .ok (.bipush 24, 2) := by decide +kernel
theorem dX10_hours_9 : decode cX10_hours 9 = .ok (.invokestatic 281, 3) := by decide +kernel
theorem dX10_hours_12 : decode cX10_hours 12 = .ok (.ifCond .eq 17, 3) := by decide +kernel
theorem dX10_hours_15 : decode cX10_hours 15 = .ok (.aload_n 0, 1) := by decide +kernel
theorem dX10_hours_16 : decode cX10_hours 16 = .ok (.getfield 9, 3) := by decide +kernel
theorem dX10_hours_19 : decode cX10_hours 19 = .ok (.iconst 0, 1) := by decide +kernel
theorem dX10_hours_20 : decode cX10_hours 20 = .ok (.iaload, 1) := by decide +kernel
theorem dX10_hours_21 : decode cX10_hours 21 = .ok (.iload_n 1, 1) := by decide +kernel
theorem dX10_hours_22 : decode cX10_hours 22 = .ok (.iadd, 1) := by decide +kernel
theorem dX10_hours_23 : decode cX10_hours 23 = .ok (.sipush 2000, 3) := by decide +kernel
theorem dX10_hours_26 : decode cX10_hours 26 = .ok (.if_icmp .le 9, 3) := by decide +kernel
theorem dX10_hours_35 : decode cX10_hours 35 = .ok (.aload_n 0, 1) := by decide +kernel
theorem dX10_hours_36 : decode cX10_hours 36 = .ok (.invokevirtual 397, 3) := by decide +kernel
theorem dX10_hours_39 : decode cX10_hours 39 = .ok (.aload_n 0, 1) := by decide +kernel
theorem dX10_hours_40 : decode cX10_hours 40 = .ok (.iconst 0, 1) := by decide +kernel
theorem dX10_hours_41 : decode cX10_hours 41 = .ok (.iload_n 1, 1) := by decide +kernel
theorem dX10_hours_42 : decode cX10_hours 42 = .ok (.invokevirtual 400, 3) := by decide +kernel
theorem dX10_hours_45 : decode cX10_hours 45 = .ok (.aload_n 0, 1) := by decide +kernel
theorem dX10_hours_46 : decode cX10_hours 46 = .ok (.getfield 9, 3) := by decide +kernel
theorem dX10_hours_49 : decode cX10_hours 49 = .ok (.iconst 0, 1) := by decide +kernel
theorem dX10_hours_50 : decode cX10_hours 50 = .ok (.iaload, 1) := by decide +kernel
theorem dX10_hours_51 : decode cX10_hours 51 = .ok (.ireturn, 1) := by decide +kernel
theorem dX10_hours_29 : decode cX10_hours 29 = .ok (.aload_n 0, 1) := by decide +kernel
theorem dX10_hours_30 : decode cX10_hours 30 = .ok (.iconst 1, 1) := by decide +kernel
theorem dX10_hours_31 : decode cX10_hours 31 = .ok (.invokevirtual 394, 3) := by decide +kernel
theorem dX10_hours_34 : decode cX10_hours 34 = .ok (.ireturn, 1) := by decide +kernel
end
section
-- 9lo.ua.lean.txt
theorem isS.sums {r : Nat → Int} {p : Nat} {S : SL9} (h : isS r p S) : ∀ k, k ≤ S.1 → ms r p k = sZ S.2.1 k ∧ dp r p k = dZ S.2.1 k := by
  intro k
  induction k with
  | zero => exact fun _ => ⟨rfl, rfl⟩
  | succ k ih =>
    intro hk
    obtain ⟨a, b⟩ := ih (by omega)
    have e1 : r (p + 2 + 7 * k + 1) = S.2.1 (7 * k + 1) := (congrArg r (by omega)).trans (h.2.2 (7 * k + 1) (by omega))
    have e2 : r (p + 2 + 7 * k + 2) = S.2.1 (7 * k + 2) := (congrArg r (by omega)).trans (h.2.2 (7 * k + 2) (by omega))
    have e3 : r (p + 2 + 7 * k + 3) = S.2.1 (7 * k + 3) := (congrArg r (by omega)).trans (h.2.2 (7 * k + 3) (by omega))
    refine ⟨?_, ?_⟩
    · show ms r p k + (r (p + 2 + 7 * k + 1) + r (p + 2 + 7 * k + 2)) = sZ S.2.1 k + (S.2.1 (7 * k + 1) + S.2.1 (7 * k + 2))
      rw [a, e1, e2]
    · show dp r p k + r (p + 2 + 7 * k + 3) = dZ S.2.1 k + S.2.1 (7 * k + 3)
      rw [b, e3]
theorem isS.okS {r : Nat → Int} {p : Nat} {S : SL9} {M E G : Int} (h : isS r p S) (hS : okSl M E G S) : okS r p M E := by
  obtain ⟨h1, h2, h3, h4, h5⟩ := hS
  obtain ⟨a, b⟩ := h.sums S.1 (Nat.le_refl _)
  refine okS.mk S.1 h.1 h1.1 (fun l hl => ?_) (by omega) (by omega)
  obtain ⟨⟨f0, f1, f2, f3, f4, f5, f6⟩, f9⟩ := h1.ly hl
  have e : ∀ f, f < 7 → r (p + 2 + 7 * l + f) = S.2.1 (7 * l + f) := fun f hf => (congrArg r (by omega)).trans (h.2.2 (7 * l + f) (by omega))
  have e0 : r (p + 2 + 7 * l) = S.2.1 (7 * l) := e 0 (by decide)
  have e1 := e 1 (by decide)
  have e2 := e 2 (by decide)
  have e3 := e 3 (by decide)
  have e4 := e 4 (by decide)
  have e6 := e 6 (by decide)
  unfold ly
  omega
theorem isWr.okW {r : Nat → Int} {b : Nat} {W : WL9} {x X : Int} (h : isWr r b W) (hW : okWl x X W) : okW r b x := by
  obtain ⟨h1, h2, h3, h4⟩ := hW
  have e0 : r b = W.1 0 := h.1 0 (by decide)
  have e1 : r (b + 1) = W.1 1 := h.1 1 (by decide)
  have e5 : r (b + 5) = W.1 5 := h.1 5 (by decide)
  refine ⟨fun s hs => ?_, by rw [e0]; exact h2, by rw [e0, e1]; exact h3, by rw [e5]; exact h4⟩
  rw [e0]
  exact (h.2 s hs).okS (h1 s hs).1
theorem okWl.mono {x y X Y : Int} {W : WL9} (h : okWl x X W) (hx : x ≤ y) (hX : X ≤ Y) : okWl y Y W := by
  obtain ⟨h1, h2, h3, h4⟩ := h
  have e1 : mB (W.1 0 + x) = 2400 + 50 * (W.1 0 + x) := rfl
  have e2 : eB (W.1 0 + x) = 12000 + 139000 * (W.1 0 + x) := rfl
  have e3 : mB (W.1 0 + y) = 2400 + 50 * (W.1 0 + y) := rfl
  have e4 : eB (W.1 0 + y) = 12000 + 139000 * (W.1 0 + y) := rfl
  exact ⟨fun s hs => ⟨(h1 s hs).1.mono (by omega) (by omega) (Int.le_refl _), (h1 s hs).2.mono hX⟩, h2, by omega, h4⟩
/-- the reference's rows between calls: the world now, the kept ones -/
def okWx (x : Int) (W : WL9) : Prop := okWl x (50 * x) W ∧ W.1 0 ≤ 2000
theorem okWx.mono {x y : Int} {W : WL9} (h : okWx x W) (hx : x ≤ y) : okWx y W := ⟨h.1.mono hx (by omega), h.2⟩
def okRX (F r : Nat → Int) (x : Int) (W : WL9) (na : Nat) (H : Nat → WL9) : Prop := (isWr r 0 W ∧ okWx x W) ∧ (∃ fi : Nat, (F 15 = (na : Int) ∧ F 16 = (fi : Int)) ∧ (na ≤ 40 ∧ fi < 40) ∧ xHr r fi na H) ∧ ∀ k, k < na → okWx x (H k)
theorem okRX.n12 {F r : Nat → Int} {x : Int} {W : WL9} {na : Nat} {H : Nat → WL9} (h : okRX F r x W na H) : ∀ k, k < na → n12 (H k) := fun k hk => (h.2.2 k hk).1.n12
theorem okRX.nx {F F' r r' : Nat → Int} {x y : Int} {W : WL9} {na : Nat} {H : Nat → WL9} (h : okRX F r x W na H) (hx : x ≤ y) (h1 : F' 15 = F 15) (h2 : F' 16 = F 16) (e : ∀ j, j < 350 ∨ (700 ≤ j ∧ j < 14700) → r' j = r j) : okRX F' r' y W na H := by
  obtain ⟨⟨a1, a2⟩, ⟨fi, ⟨b1, b2⟩, ⟨b3, b4⟩, b5⟩, c⟩ := id h
  exact ⟨⟨a1.ext a2.1.n12 (fun j h1 h2 => e j (by omega)), a2.mono hx⟩, ⟨fi, ⟨by rw [h1]; exact b1, by rw [h2]; exact b2⟩, ⟨b3, b4⟩, b5.ext b3 h.n12 (fun j h1 h2 => e j (by omega))⟩, fun k hk => (c k hk).mono hx⟩
/-- behind an act: the world before is kept -/
theorem okRX.act {F F' r r' : Nat → Int} {x y : Int} {W W' : WL9} {na fi fi' m : Nat} {H : Nat → WL9} (h : okRX F r x W na H) (hxy : x ≤ y) (h16 : F 16 = (fi : Int)) (hfi : fi' = if na = 40 then (fi + 1) % 40 else fi) (hm : m = if na = 40 then 39 else na) (g15 : F' 15 = ((kpN na : Nat) : Int)) (g16 : F' 16 = (fi' : Int)) (hcp : ∀ q, q < 350 → r' (kA fi' m + q) = r q) (hfr : ∀ j, 700 ≤ j → j < kA fi' m ∨ kA fi' m + 350 ≤ j → r' j = r j) (hW : isWr r' 0 W') (hok : okWx y W') : okRX F' r' y W' (kpN na) (kpH na H W) := by
  obtain ⟨⟨a1, a2⟩, ⟨f9, ⟨b1, b2⟩, ⟨b3, b4⟩, b5⟩, c⟩ := id h
  obtain rfl : f9 = fi := by omega
  have hr9 : ∃ r9 : Nat → Int, (∀ j, j < 700 → r9 j = r j) ∧ ∀ j, 700 ≤ j → r9 j = r' j := ⟨fun j => if j < 700 then r j else r' j, fun j hj => if_pos hj, fun j hj => if_neg (by omega)⟩
  obtain ⟨r9, p1, p2⟩ := hr9
  have hka : 700 ≤ kA fi' m := by unfold kA; omega
  have hk := xHr.keep (r' := r9) b5 b3 h.n12 a1 a2.1.n12 hfi hm (fun q hq => (p2 _ (by omega)).trans (hcp q hq)) (fun j hj => by
    by_cases e : j < 700
    · exact p1 j e
    · exact (p2 j (by omega)).trans (hfr j (by omega) hj))
  have hk40 : kpN na ≤ 40 := by unfold kpN; split <;> omega
  have hnn : ∀ k, k < kpN na → okWx y (kpH na H W k) := fun k hk => by
    unfold kpN at hk
    unfold kpH
    by_cases e : na = 40
    · rw [if_pos e] at hk ⊢
      show okWx y (if k = 39 then W else H (k + 1))
      by_cases e2 : k = 39
      · rw [if_pos e2]; exact a2.mono hxy
      · rw [if_neg e2]; exact (c _ (by omega)).mono hxy
    · rw [if_neg e] at hk ⊢
      show okWx y (if k = na then W else H k)
      by_cases e2 : k = na
      · rw [if_pos e2]; exact a2.mono hxy
      · rw [if_neg e2]; exact (c _ (by omega)).mono hxy
  have hf9 : fi' < 40 := by rw [hfi]; split <;> omega
  exact ⟨⟨hW, hok⟩, ⟨fi', ⟨g15, g16⟩, ⟨hk40, hf9⟩, hk.ext hk40 (fun k hk => (hnn k hk).1.n12) (fun j h1 _ => (p2 j h1).symm)⟩, hnn⟩
/-- behind an undo -/
theorem okRX.back {F F' r r' : Nat → Int} {x y : Int} {W : WL9} {n fi : Nat} {H : Nat → WL9} (h : okRX F r x W (n + 1) H) (hxy : x ≤ y) (h16 : F 16 = (fi : Int)) (g15 : F' 15 = (n : Int)) (g16 : F' 16 = F 16) (hcp : ∀ q, q < 350 → r' q = r (kA fi n + q)) (hfr : ∀ j, 350 ≤ j → r' j = r j) : okRX F' r' y (H n) n H := by
  obtain ⟨⟨a1, a2⟩, ⟨f9, ⟨b1, b2⟩, ⟨b3, b4⟩, b5⟩, c⟩ := id h
  obtain rfl : f9 = fi := by omega
  exact ⟨⟨(b5 n (by omega)).cp (c n (by omega)).1.n12 (fun q hq => (congrArg r' (Nat.zero_add q)).trans (hcp q hq)), (c n (by omega)).mono hxy⟩, ⟨f9, ⟨g15, by rw [g16]; exact b2⟩, ⟨by omega, b4⟩, xHr.ext (fun k hk => b5 k (by omega)) (by omega) (fun k hk => (c k (by omega)).1.n12) (fun j h1 _ => hfr j (by omega))⟩, fun k hk => (c k (by omega)).mono hxy⟩
/-- HOURS, as an answer and worlds -/
def hoA (F op ai fa mu tb : Nat → Int) (nsl : Nat) (z : Int) (W : WL9) (na : Nat) (H : Nat → WL9) : Int × WL9 × Nat × (Nat → WL9) := if (1 ≤ z ∧ z ≤ 24) ∧ W.1 0 + z ≤ 2000 then (W.1 0 + z, gwR F op ai fa mu tb nsl z.toNat W, kpN na, kpH na H W) else (-1, W, na, H)
def undA (W : WL9) (na : Nat) (H : Nat → WL9) : Int × WL9 × Nat × (Nat → WL9) := if na = 0 then (-1, W, na, H) else ((na : Int) - 1, H (na - 1), na - 1, H)
def digA (nsl : Nat) (z : Int) (W : WL9) (na : Nat) (H : Nat → WL9) : Int × WL9 × Nat × (Nat → WL9) := if (0 ≤ z ∧ z < (nsl : Int)) ∧ 0 < (W.2 z.toNat).1 then ((W.2 z.toNat).2.1 (7 * ((W.2 z.toNat).1 - 1) + 6), dgW W z.toNat, kpN na, kpH na H W) else (-1, W, na, H)

set_option maxRecDepth 100000 in
set_option maxHeartbeats 4000000 in
theorem c_uRefuses (l : Launch) (D : va_G) (A : Nat → Prop) (cs : Nat → ClassId) (tt : Nat) (N : Nat) (ad : Nat → Nat) (g : Nat → va_E) (i : Nat) (hN : i + 30 ≤ N) (F : Nat → Int) (hg : g i = mC ad i F) (rr : Nat → Int) (hrr : g (i + 11) = iA cs 6 rr) (zn : Nat) (hz : zn ≤ 2) : zM l yX10_refuses cX10_refuses 2 (some .int) ({ frames := 1, cells := 0, slots := 0, locals := 60 } : Room) D A cs tt N ad g [.ref (ad i), .int (zI ((zn : Int)))] (rI0 N ad fun q g' => q = -1 ∧ g' (i + 11) = iA cs 6 (uZ rr zn (rr zn + 1)) ∧ ∀ j, j ≠ i + 11 → g' j = g j) := by
  have hay1 : zAt ad (i) (ad i) := rfl
  have hay2 : zAt ad (i + 11) (ad (i + 11)) := rfl
  refine z_of (by decide) (Nat.le_of_ble_eq_true rfl) ?_
  intro pY eY sY mY below meth cY C hr hlk hnm
  refine z_lv (lv' := [(0, .ref (ad i)), (1, .int (zI ((zn : Int))))]) [0, 1] rfl ?_
  refine z_aload_n C 0 dX10_refuses_0 rfl ?_
  refine z_get (v := .ref (ad (i + 11))) C (lt_A0 hN rfl) hay1 hg rfl inA_X10 10 (by decide) q_1469 rfl rfl dX10_refuses_1 ?_
  refine z_iload_n C 1 dX10_refuses_4 rfl ?_
  refine z_dup2 C dX10_refuses_5 rfl rfl ?_
  refine z_iald C (lt_A (c := 11) hN rfl) hay2 hrr (zn) (by omega) (by omega) (by decide) dX10_refuses_6 ?_
  refine z_iconst (z := 1) C dX10_refuses_7 rfl ?_
  refine z_iadd C dX10_refuses_8 ?_
  refine z_iast C (lt_A (c := 11) hN rfl) hay2 hrr (zn) (by omega) (by omega) (by decide) dX10_refuses_9 (fun gy3 egy4 => ?_)
  have hgy5 := up_s egy4
  refine z_iconst (z := -1) C dX10_refuses_10 rfl ?_
  exact z_iret C hr hlk dX10_refuses_11 (by decide) (by decide) ⟨-1, rfl, rfl, rfl, by omega, hgy5, fun j j1 => by rw [egy4, va_up_ne _ _ (by omega)]⟩

theorem gw_F {F F' op ai fa mu tb : Nat → Int} {nsl : Nat} {W : WL9} (h14 : F' 14 = F 14) (h25 : F' 25 = F 25) (h26 : F' 26 = F 26) (h27 : F' 27 = F 27) (h28 : F' 28 = F 28) (h29 : F' 29 = F 29) : ∀ k, gwR F' op ai fa mu tb nsl k W = gwR F op ai fa mu tb nsl k W := by
  intro k
  induction k with
  | zero => rfl
  | succ k ih =>
    show hwR F' op ai fa mu tb nsl (gwR F' op ai fa mu tb nsl k W) = hwR F op ai fa mu tb nsl (gwR F op ai fa mu tb nsl k W)
    rw [ih]
    unfold hwR rAi rWh rMu
    rw [h14, h25, h26, h27, h28, h29]

set_option maxRecDepth 100000 in
set_option maxHeartbeats 4000000 in
theorem c_vHours (l : Launch) (D : va_G) (A : Nat → Prop) (cs : Nat → ClassId) (tt : Nat) (N : Nat) (ad : Nat → Nat) (g : Nat → va_E) (i : Nat) (hN : i + 30 ≤ N) (x : Int) (hx : 0 ≤ x ∧ x ≤ 512) (F r : Nat → Int) {st op ai fa mu tb tp : Nat → Int} (hM : okMr cs ad g i x F r st op ai fa mu tb tp) (hfr : okFr F op ai fa mu tb) (nsl : Nat) (hnsl : F 13 = (nsl : Int)) (W : WL9) (na : Nat) (H : Nat → WL9) (hRX : okRX F r x W na H) (rr : Nat → Int) (hrr : g (i + 11) = iA cs 6 rr) (z : Int) (hz : -2147483648 ≤ z ∧ z ≤ 2147483647) : zM l yX10_hours cX10_hours 2 (some .int) ({ frames := 10, cells := 0, slots := 0, locals := 600 } : Room) D A cs tt N ad g [.ref (ad i), .int (zI (z))] (rI0 N ad fun q g' => q = (hoA F op ai fa mu tb nsl z W na H).1 ∧ (∃ F' r' : Nat → Int, okMr cs ad g' i (x + 1) F' r' st op ai fa mu tb tp ∧ (F' 13 = F 13 ∧ F' 14 = F 14 ∧ F' 17 = F 17 ∧ F' 18 = F 18 ∧ F' 19 = F 19 ∧ F' 20 = F 20 ∧ F' 21 = F 21 ∧ F' 23 = F 23 ∧ F' 24 = F 24 ∧ F' 25 = F 25 ∧ F' 26 = F 26 ∧ F' 27 = F 27 ∧ F' 28 = F 28 ∧ F' 29 = F 29) ∧ okRX F' r' (x + 1) (hoA F op ai fa mu tb nsl z W na H).2.1 (hoA F op ai fa mu tb nsl z W na H).2.2.1 (hoA F op ai fa mu tb nsl z W na H).2.2.2 ∧ ∀ j, 14700 ≤ j → r' j = r j) ∧ (∃ rr' : Nat → Int, g' (i + 11) = iA cs 6 rr' ∧ ((q = -1 ∧ rr' = uZ rr 1 (rr 1 + 1)) ∨ (q ≠ -1 ∧ rr' = rr))) ∧ (∀ j, j < i ∨ i + 30 ≤ j → g' j = g j) ∧ ∀ j, i + 8 ≤ j → j ≤ i + 12 → j ≠ i + 11 → g' j = g j) := by
  obtain ⟨hg, ⟨⟨e13, e14, e25, e27, e29⟩, k15, k16, k17, k18, k19, k20, k23, k21⟩, hRD, hTx, hA, ns, nh, nd, rf, pi, te, ki, li, ok1, ok2, fo, dd, dps, ⟨ha1, ha2, ha3, ha4, ha5, ha6, ha7, ha8, ha9, ha10, ha11, ha12, ha13, ha14, ha15, ha24, ha25, ha26, ha27, ha28, ha29⟩, hEv, hPt, hns, htp⟩ := id hM
  obtain ⟨-, hop, hai, hfa, hT, hT1⟩ := id hEv
  have hay1 : zAt ad (i) (ad i) := rfl
  have hay2 : zAt ad (i + 1) (ad (i + 1)) := rfl
  have hay3 : zAt ad (i + 2) (ad (i + 2)) := rfl
  have hay4 : zAt ad (i + 3) (ad (i + 3)) := rfl
  have hay5 : zAt ad (i + 4) (ad (i + 4)) := rfl
  have hay6 : zAt ad (i + 5) (ad (i + 5)) := rfl
  have hay7 : zAt ad (i + 6) (ad (i + 6)) := rfl
  have hay8 : zAt ad (i + 7) (ad (i + 7)) := rfl
  have hay9 : zAt ad (i + 8) (ad (i + 8)) := rfl
  have hay10 : zAt ad (i + 9) (ad (i + 9)) := rfl
  have hay11 : zAt ad (i + 10) (ad (i + 10)) := rfl
  have hay12 : zAt ad (i + 11) (ad (i + 11)) := rfl
  have hay13 : zAt ad (i + 12) (ad (i + 12)) := rfl
  have hay14 : zAt ad (i + 13) (ad (i + 13)) := rfl
  have hay15 : zAt ad (i + 14) (ad (i + 14)) := rfl
  have hay16 : zAt ad (i + 15) (ad (i + 15)) := rfl
  have hay17 : zAt ad (i + 24) (ad (i + 24)) := rfl
  have hay18 : zAt ad (i + 25) (ad (i + 25)) := rfl
  have hay19 : zAt ad (i + 26) (ad (i + 26)) := rfl
  have hay20 : zAt ad (i + 27) (ad (i + 27)) := rfl
  have hay21 : zAt ad (i + 28) (ad (i + 28)) := rfl
  have hay22 : zAt ad (i + 29) (ad (i + 29)) := rfl
  obtain ⟨⟨hsyy23, htyy23, hnyy23, hpyy23⟩, hlyy23⟩ := okA.at0 hA
  simp only [Nat.zero_add] at hsyy23 hnyy23 hpyy23
  have hmn : ∀ s, s < 4 → 0 ≤ r (6 + 86 * s) ∧ r (6 + 86 * s) ≤ 12 := fun s hs => (hsyy23 s hs).1
  have h5 : 0 ≤ r 5 ∧ r 5 ≤ 6 := hpyy23
  obtain ⟨⟨hW, hwx⟩, ⟨fi, ⟨h15, h16⟩, ⟨hna, hfi⟩, hxh⟩, hHx⟩ := id hRX
  have hok9 := hwx.1
  have hW0 : r 0 = W.1 0 := hW.1 0 (by decide)
  have ht9 := hwx.2
  have ht8 := hok9.2.1
  refine z_of (by decide) (Nat.le_of_ble_eq_true rfl) ?_
  intro pY eY sY mY below meth cY C hr hlk hnm
  refine z_lv (lv' := [(0, .ref (ad i)), (1, .int (zI (z)))]) [0, 1] rfl ?_
  refine z_aload_n C 0 dX10_hours_0 rfl ?_
  refine z_iconst (z := 0) C dX10_hours_1 rfl ?_
  refine z_put (fs' := mF ad (i) (uZ F 12 (0))) C (lt_A0 hN rfl) hay1 hg tyX10 tyX10_ok nmX10 rfl inA_X10 12 (by decide) q_1471 rfl rfl rfl rfl (Nat.le_of_ble_eq_true rfl) rfl dX10_hours_2 (fun gy24 egy25 => ?_)
  have hgy26 := up_s egy25
  refine z_iload_n C 1 dX10_hours_5 rfl ?_
  refine z_iconst (z := 1) C dX10_hours_6 rfl ?_
  refine z_bipush (z := 24) C dX10_hours_7 (by decide) ?_
  refine z_cS (As := [.int (zI (z)), .int (zI (1)), .int (zI (24))]) (rest := []) C (c_X10_within l D A cs tt N ad _ (z) (by omega) (1) (by omega) (24) (by omega)) ms_yX10_within q_1686 hd_yX10_within (by decide) (Nat.le_of_ble_eq_true rfl) (by decide) dX10_hours_9 rfl (kI0 fun vy27 gvy27 hvy27 => ?_)
  obtain ⟨hvy27, rfl⟩ := hvy27
  rcases hvy27 with ⟨rfl, hxvy27⟩ | ⟨rfl, hxvy27⟩
  · refine z_if_eq (tgt := 29) C dX10_hours_12 (by decide) (by omega) (fun h => absurd h (by omega)) (fun _ => ?_)
    refine z_aload_n C 0 dX10_hours_15 rfl ?_
    refine z_get (v := .ref (ad (i + 1))) C (lt_A0 hN rfl) hay1 hgy26 rfl inA_X10 0 (by decide) q_1459 rfl rfl dX10_hours_16 ?_
    refine z_iconst (z := 0) C dX10_hours_19 rfl ?_
    have hgy28 := up_n egy25 ha1 (ne_o (i := i) (c := 1) (d := 0) rfl)
    refine z_iald C (lt_A (c := 1) hN rfl) hay2 hgy28 (0) (by omega) (by omega) (by decide) dX10_hours_20 ?_
    refine z_iload_n C 1 dX10_hours_21 rfl ?_
    refine z_iadd C dX10_hours_22 ?_
    refine z_sipush (z := 2000) C dX10_hours_23 (by decide) ?_
    refine z_icmp_le (tgt := 35) C dX10_hours_26 (by decide) (by omega) (by omega) (fun hby29 => ?_) (fun hby29 => ?_)
    · refine z_aload_n C 0 dX10_hours_35 rfl ?_
      have hey31 : (uZ F 12 (0)) 15 = F 15 := (fn rfl (by decide))
      have hey32 : (uZ F 12 (0)) 16 = F 16 := (fn rfl (by decide))
      refine z_cV (As := []) (rest := []) (ci := 12) C (c_uKeeps l D A cs tt N ad _ i hN _ hgy26 _ hgy28 na fi (by omega) (by omega) hna hfi) (lt_A0 hN rfl) hay1 hgy26 rfl rfl mv_yX10_keeps q_1870 hd_yX10_keeps (by decide) (Nat.le_of_ble_eq_true rfl) (by decide) dX10_hours_36 rfl (kV0 fun gvy30 hvy30 => ?_)
      obtain ⟨⟨Fvy30, hcvy30, ⟨h15vy30, h16vy30⟩, hFvy30⟩, ⟨rvy30, hdvy30, hyvy30c, hyvy30f⟩, hfvy30⟩ := hvy30
      obtain ⟨fj, hfj⟩ : ∃ f9 : Nat, f9 = if na = 40 then (fi + 1) % 40 else fi := ⟨_, rfl⟩
      obtain ⟨mj, hmj⟩ : ∃ f9 : Nat, f9 = if na = 40 then 39 else na := ⟨_, rfl⟩
      rw [← hfj] at h16vy30 hyvy30c hyvy30f
      rw [← hmj] at hyvy30c hyvy30f
      have hfj4 : fj < 40 := by rw [hfj]; split <;> omega
      have hka9 : kA fj mj = 350 * (2 + (fj + mj) % 40) := by unfold kA; omega
      have hkb9 : 700 ≤ kA fj mj ∧ kA fj mj ≤ 14350 := by omega
      have hkn9 : kpN na ≤ 40 := by unfold kpN; split <;> omega
      have hAvy30 : okA rvy30 (x) := okA.copy (a := 0) (b := 2 + (fj + mj) % 40) (m := 1) hA (by omega) (by omega) (by omega) (fun k hk => by rw [← hka9, Nat.mul_zero, Nat.zero_add]; exact hyvy30c k (by omega)) (fun j hj => hyvy30f j (by omega))
      have hyvy30 : ∀ j, j < 700 → rvy30 j = r j := fun j hj => hyvy30f j (by omega)
      obtain ⟨⟨hsyy33, htyy33, hnyy33, hpyy33⟩, hlyy33⟩ := okA.at0 hAvy30
      simp only [Nat.zero_add] at hsyy33 hnyy33 hpyy33
      have hmn : ∀ s, s < 4 → 0 ≤ rvy30 (6 + 86 * s) ∧ rvy30 (6 + 86 * s) ≤ 12 := fun s hs => (hsyy33 s hs).1
      have h5 : 0 ≤ rvy30 5 ∧ rvy30 5 ≤ 6 := hpyy33
      have hk0vy30 : rvy30 0 = r 0 := hyvy30 0 (by omega)
      have hk1vy30 : rvy30 1 = r 1 := hyvy30 1 (by omega)
      have hk5vy30 : rvy30 5 = r 5 := hyvy30 5 (by omega)
      have hWk : isWr rvy30 0 W := hW.ext hok9.n12 (fun j a1 a2 => hyvy30 j (by omega))
      refine z_aload_n C 0 dX10_hours_39 rfl ?_
      refine z_iconst (z := 0) C dX10_hours_40 rfl ?_
      refine z_iload_n C 1 dX10_hours_41 rfl ?_
      obtain ⟨m7, hm7⟩ : ∃ m9 : Nat, z = (m9 : Int) := ⟨(z).toNat, by omega⟩
      have hmz7 : (z).toNat = m7 := by omega
      have hgy35 := up_n egy25 ha3 (ne_o (i := i) (c := 3) (d := 0) rfl)
      have hgy36 := (hfvy30 (i + 3) (ne_o (i := i) (c := 3) (d := 0) rfl) (ne_o (i := i) (c := 3) (d := 1) rfl)).trans hgy35
      have hgy37 := up_n egy25 ha4 (ne_o (i := i) (c := 4) (d := 0) rfl)
      have hgy38 := (hfvy30 (i + 4) (ne_o (i := i) (c := 4) (d := 0) rfl) (ne_o (i := i) (c := 4) (d := 1) rfl)).trans hgy37
      have hgy39 := up_n egy25 ha5 (ne_o (i := i) (c := 5) (d := 0) rfl)
      have hgy40 := (hfvy30 (i + 5) (ne_o (i := i) (c := 5) (d := 0) rfl) (ne_o (i := i) (c := 5) (d := 1) rfl)).trans hgy39
      have hgy41 := up_n egy25 ha6 (ne_o (i := i) (c := 6) (d := 0) rfl)
      have hgy42 := (hfvy30 (i + 6) (ne_o (i := i) (c := 6) (d := 0) rfl) (ne_o (i := i) (c := 6) (d := 1) rfl)).trans hgy41
      have hgy43 := up_n egy25 ha7 (ne_o (i := i) (c := 7) (d := 0) rfl)
      have hgy44 := (hfvy30 (i + 7) (ne_o (i := i) (c := 7) (d := 0) rfl) (ne_o (i := i) (c := 7) (d := 1) rfl)).trans hgy43
      have hgy45 := up_n egy25 ha14 (ne_o (i := i) (c := 14) (d := 0) rfl)
      have hgy46 := (hfvy30 (i + 14) (ne_o (i := i) (c := 14) (d := 0) rfl) (ne_o (i := i) (c := 14) (d := 1) rfl)).trans hgy45
      have hgy47 := up_n egy25 ha15 (ne_o (i := i) (c := 15) (d := 0) rfl)
      have hgy48 := (hfvy30 (i + 15) (ne_o (i := i) (c := 15) (d := 0) rfl) (ne_o (i := i) (c := 15) (d := 1) rfl)).trans hgy47
      have hey49 : Fvy30 13 = F 13 := ((hFvy30 13 (by decide) (by decide)).trans (fn rfl (by decide)))
      have hey50 : Fvy30 14 = F 14 := ((hFvy30 14 (by decide) (by decide)).trans (fn rfl (by decide)))
      have hey51 : Fvy30 25 = F 25 := ((hFvy30 25 (by decide) (by decide)).trans (fn rfl (by decide)))
      have hey52 : Fvy30 26 = F 26 := ((hFvy30 26 (by decide) (by decide)).trans (fn rfl (by decide)))
      have hey53 : Fvy30 27 = F 27 := ((hFvy30 27 (by decide) (by decide)).trans (fn rfl (by decide)))
      have hey54 : Fvy30 28 = F 28 := ((hFvy30 28 (by decide) (by decide)).trans (fn rfl (by decide)))
      have hey55 : Fvy30 29 = F 29 := ((hFvy30 29 (by decide) (by decide)).trans (fn rfl (by decide)))
      have hfr2 : okFr Fvy30 op ai fa mu tb := ⟨by have h9 := hfr.1; omega, hfr.2⟩
      have hokm := hok9.mono (y := x + 1) (Y := 50 * (x + 1)) (by omega) (by omega)
      have hgF : ∀ k, gwR Fvy30 op ai fa mu tb nsl k W = gwR F op ai fa mu tb nsl k W := gw_F (by omega) (by omega) (by omega) (by omega) (by omega) (by omega)
      refine z_cV (As := [.int (zI (0)), .int (zI (z))]) (rest := []) (ci := 12) C (c_uGoes l D A cs tt N ad _ i hN _ hcvy30 _ hdvy30 _ hgy36 _ hgy38 _ hgy40 _ hgy42 _ hgy44 _ hgy46 _ hgy48 0 (by omega) hfr2 nsl (by omega) W hWk (x + 1) (50 * (x + 1)) hokm (by omega) (by omega) (z) m7 hm7 (by omega) (by omega) (by omega)) (lt_A0 hN rfl) hay1 hcvy30 rfl rfl mv_yX10_goes q_1881 hd_yX10_goes (by decide) (Nat.le_of_ble_eq_true rfl) (by decide) dX10_hours_42 rfl (kV0 fun gvy34 hvy34 => ?_)
      obtain ⟨⟨rvy34, hcvy34, hwvy34, hyvy34⟩, ⟨t4vy34, h4vy34⟩, ⟨t5vy34, h5vy34⟩, hfvy34⟩ := hvy34
      rw [hgF] at hwvy34
      have hs4 : nsl ≤ 4 := by have h9 := hfr.1.1; omega
      obtain ⟨ha9, hb9, -⟩ := gw_ok hfr hokm hs4 (by omega) (by omega) m7 (by omega) (by omega)
      have hAvy34 : okA rvy34 (x + 1) := okA.first hAvy30 (by omega) (fun j a => hyvy34 j (by omega)) (hwvy34.okW ha9) (by have h9 := hwvy34.1 0 (by decide); rw [Nat.add_zero] at h9; omega)
      obtain ⟨⟨hsyy56, htyy56, hnyy56, hpyy56⟩, hlyy56⟩ := okA.at0 hAvy34
      simp only [Nat.zero_add] at hsyy56 hnyy56 hpyy56
      have hmn : ∀ s, s < 4 → 0 ≤ rvy34 (6 + 86 * s) ∧ rvy34 (6 + 86 * s) ≤ 12 := fun s hs => (hsyy56 s hs).1
      have h5 : 0 ≤ rvy34 5 ∧ rvy34 5 ≤ 6 := hpyy56
      have hr0vy34 : rvy34 0 = W.1 0 + (m7 : Int) := (hwvy34.1 0 (by decide)).trans hb9
      refine z_aload_n C 0 dX10_hours_45 rfl ?_
      have hgy57 := (hfvy34 (i) (ne_o (i := i) (c := 0) (d := 1) rfl) (ne_o (i := i) (c := 0) (d := 14) rfl) (ne_o (i := i) (c := 0) (d := 15) rfl)).trans hcvy30
      refine z_get (v := .ref (ad (i + 1))) C (lt_A0 hN rfl) hay1 hgy57 rfl inA_X10 0 (by decide) q_1459 rfl rfl dX10_hours_46 ?_
      refine z_iconst (z := 0) C dX10_hours_49 rfl ?_
      refine z_iald C (lt_A (c := 1) hN rfl) hay2 hcvy34 (0) (by omega) (by omega) (by decide) dX10_hours_50 ?_
      have hans9 : rvy34 (0) = W.1 0 + z := by omega
      have hWf : okWx (x + 1) (gwR F op ai fa mu tb nsl m7 W) := ⟨ha9, by omega⟩
      have hFy58 : ∀ f, f ≠ 12 → f ≠ 15 → f ≠ 16 → Fvy30 f = F f := fun f n12 n15 n16 => ((hFvy30 f n15 n16).trans ((uZ_n _ _ n12).trans rfl))
      have hey59 : Fvy30 13 = F 13 := ((hFvy30 13 (by decide) (by decide)).trans (fn rfl (by decide)))
      have hey60 : Fvy30 14 = F 14 := ((hFvy30 14 (by decide) (by decide)).trans (fn rfl (by decide)))
      have hey61 : Fvy30 15 = Fvy30 15 := rfl
      have hey62 : Fvy30 16 = Fvy30 16 := rfl
      have hey63 : Fvy30 17 = F 17 := ((hFvy30 17 (by decide) (by decide)).trans (fn rfl (by decide)))
      have hey64 : Fvy30 18 = F 18 := ((hFvy30 18 (by decide) (by decide)).trans (fn rfl (by decide)))
      have hey65 : Fvy30 19 = F 19 := ((hFvy30 19 (by decide) (by decide)).trans (fn rfl (by decide)))
      have hey66 : Fvy30 20 = F 20 := ((hFvy30 20 (by decide) (by decide)).trans (fn rfl (by decide)))
      have hey67 : Fvy30 21 = F 21 := ((hFvy30 21 (by decide) (by decide)).trans (fn rfl (by decide)))
      have hey68 : Fvy30 23 = F 23 := ((hFvy30 23 (by decide) (by decide)).trans (fn rfl (by decide)))
      have hey69 : Fvy30 25 = F 25 := ((hFvy30 25 (by decide) (by decide)).trans (fn rfl (by decide)))
      have hey70 : Fvy30 27 = F 27 := ((hFvy30 27 (by decide) (by decide)).trans (fn rfl (by decide)))
      have hey71 : Fvy30 28 = F 28 := ((hFvy30 28 (by decide) (by decide)).trans (fn rfl (by decide)))
      have hey72 : Fvy30 29 = F 29 := ((hFvy30 29 (by decide) (by decide)).trans (fn rfl (by decide)))
      have hKy73 : okF Fvy30 := by unfold okF; omega
      have hMy74 : okMr cs ad gvy34 i (x + 1) Fvy30 rvy34 st op ai fa mu tb tp := okMr.upd hM hgy57 hKy73 (fun f a => hFy58 f (by omega) (by omega) (by omega)) hcvy34 (hAvy34.mono (by omega)) (fun j a b => by
          by_cases e0 : j = i + 14
          · exact Or.inr ⟨14, _, e0, lsP.l (by decide), by rw [e0]; exact h4vy34⟩
          by_cases e1 : j = i + 15
          · exact Or.inr ⟨15, _, e1, lsP.l (by decide), by rw [e1]; exact h5vy34⟩
          exact Or.inl (by rw [hfvy34 _ (by omega) (by omega) (by omega)]; rw [hfvy30 _ (by omega) (by omega)]; rw [egy25, va_up_ne _ _ (by omega)]))
      have hkpy75 : Fvy30 13 = F 13 := ((hFvy30 13 (by decide) (by decide)).trans (fn rfl (by decide)))
      have hkpy76 : Fvy30 14 = F 14 := ((hFvy30 14 (by decide) (by decide)).trans (fn rfl (by decide)))
      have hkpy77 : Fvy30 17 = F 17 := ((hFvy30 17 (by decide) (by decide)).trans (fn rfl (by decide)))
      have hkpy78 : Fvy30 18 = F 18 := ((hFvy30 18 (by decide) (by decide)).trans (fn rfl (by decide)))
      have hkpy79 : Fvy30 19 = F 19 := ((hFvy30 19 (by decide) (by decide)).trans (fn rfl (by decide)))
      have hkpy80 : Fvy30 20 = F 20 := ((hFvy30 20 (by decide) (by decide)).trans (fn rfl (by decide)))
      have hkpy81 : Fvy30 21 = F 21 := ((hFvy30 21 (by decide) (by decide)).trans (fn rfl (by decide)))
      have hkpy82 : Fvy30 23 = F 23 := ((hFvy30 23 (by decide) (by decide)).trans (fn rfl (by decide)))
      have hkpy83 : Fvy30 24 = F 24 := ((hFvy30 24 (by decide) (by decide)).trans (fn rfl (by decide)))
      have hkpy84 : Fvy30 25 = F 25 := ((hFvy30 25 (by decide) (by decide)).trans (fn rfl (by decide)))
      have hkpy85 : Fvy30 26 = F 26 := ((hFvy30 26 (by decide) (by decide)).trans (fn rfl (by decide)))
      have hkpy86 : Fvy30 27 = F 27 := ((hFvy30 27 (by decide) (by decide)).trans (fn rfl (by decide)))
      have hkpy87 : Fvy30 28 = F 28 := ((hFvy30 28 (by decide) (by decide)).trans (fn rfl (by decide)))
      have hkpy88 : Fvy30 29 = F 29 := ((hFvy30 29 (by decide) (by decide)).trans (fn rfl (by decide)))
      have hE9 : hoA F op ai fa mu tb nsl z W na H = (W.1 0 + z, gwR F op ai fa mu tb nsl m7 W, kpN na, kpH na H W) := (if_pos (by omega)).trans (by rw [hmz7])
      rw [hE9]
      have hX9 : okRX Fvy30 rvy34 (x + 1) (gwR F op ai fa mu tb nsl m7 W) (kpN na) (kpH na H W) := hRX.act (by omega) h16 hfj hmj (by omega) (by omega) (fun q hq => (hyvy34 _ (by omega)).trans (hyvy30c q hq)) (fun j a1 a2 => (hyvy34 j (by omega)).trans (hyvy30f j a2)) hwvy34 hWf
      have hgy89 := up_n egy25 hrr (ne_o (i := i) (c := 11) (d := 0) rfl)
      have hgy90 := (hfvy30 (i + 11) (ne_o (i := i) (c := 11) (d := 0) rfl) (ne_o (i := i) (c := 11) (d := 1) rfl)).trans hgy89
      have hgy91 := (hfvy34 (i + 11) (ne_o (i := i) (c := 11) (d := 1) rfl) (ne_o (i := i) (c := 11) (d := 14) rfl) (ne_o (i := i) (c := 11) (d := 15) rfl)).trans hgy90
      exact z_iret C hr hlk dX10_hours_51 (by decide) (by decide) ⟨rvy34 (0), rfl, rfl, rfl, by omega, ⟨_, _, hMy74, by omega, hX9, fun j a1 => (hyvy34 j (by omega)).trans (hyvy30f j (by omega))⟩, ⟨_, hgy91, Or.inr ⟨by omega, rfl⟩⟩, fun j j1 => by rw [hfvy34 _ (by omega) (by omega) (by omega)]; rw [hfvy30 _ (by omega) (by omega)]; rw [egy25, va_up_ne _ _ (by omega)], fun j j1 j2 j3 => by rw [hfvy34 _ (by omega) (by omega) (by omega)]; rw [hfvy30 _ (by omega) (by omega)]; rw [egy25, va_up_ne _ _ (by omega)]⟩
    · refine z_aload_n C 0 dX10_hours_29 rfl ?_
      refine z_iconst (z := 1) C dX10_hours_30 rfl ?_
      have hgy92 := up_n egy25 hrr (ne_o (i := i) (c := 11) (d := 0) rfl)
      refine z_cV (As := [.int (zI (1))]) (rest := []) (ci := 12) C (c_uRefuses l D A cs tt N ad _ i hN _ hgy26 _ hgy92 1 (by omega)) (lt_A0 hN rfl) hay1 hgy26 rfl rfl mv_yX10_refuses q_1866 hd_yX10_refuses (by decide) (Nat.le_of_ble_eq_true rfl) (by decide) dX10_hours_31 rfl (kI0 fun vy93 gvy93 hvy93 => ?_)
      obtain ⟨rfl, hdvy93, hfvy93⟩ := hvy93
      have hgy94 := (hfvy93 (i) (ne_o (i := i) (c := 0) (d := 11) rfl)).trans hgy26
      have hgy95 := (hfvy93 (i + 1) (ne_o (i := i) (c := 1) (d := 11) rfl)).trans hgy28
      have hFy96 : ∀ f, f ≠ 12 → (uZ F 12 (0)) f = F f := fun f n12 => ((uZ_n _ _ n12).trans rfl)
      have hey97 : (uZ F 12 (0)) 13 = F 13 := (fn rfl (by decide))
      have hey98 : (uZ F 12 (0)) 14 = F 14 := (fn rfl (by decide))
      have hey99 : (uZ F 12 (0)) 15 = F 15 := (fn rfl (by decide))
      have hey100 : (uZ F 12 (0)) 16 = F 16 := (fn rfl (by decide))
      have hey101 : (uZ F 12 (0)) 17 = F 17 := (fn rfl (by decide))
      have hey102 : (uZ F 12 (0)) 18 = F 18 := (fn rfl (by decide))
      have hey103 : (uZ F 12 (0)) 19 = F 19 := (fn rfl (by decide))
      have hey104 : (uZ F 12 (0)) 20 = F 20 := (fn rfl (by decide))
      have hey105 : (uZ F 12 (0)) 21 = F 21 := (fn rfl (by decide))
      have hey106 : (uZ F 12 (0)) 23 = F 23 := (fn rfl (by decide))
      have hey107 : (uZ F 12 (0)) 25 = F 25 := (fn rfl (by decide))
      have hey108 : (uZ F 12 (0)) 27 = F 27 := (fn rfl (by decide))
      have hey109 : (uZ F 12 (0)) 28 = F 28 := (fn rfl (by decide))
      have hey110 : (uZ F 12 (0)) 29 = F 29 := (fn rfl (by decide))
      have hKy111 : okF (uZ F 12 (0)) := okF.mv hM.2.1 hey97 hey98 hey99 hey100 hey101 hey102 hey103 hey104 hey105 hey106 hey107 hey108 hey109 hey110
      have hMy112 : okMr cs ad gvy93 i (x + 1) (uZ F 12 (0)) r st op ai fa mu tb tp := okMr.upd hM hgy94 hKy111 (fun f a => hFy96 f (by omega)) hgy95 (hA.mono (by omega)) (fun j a b => by
          by_cases e0 : j = i + 11
          · exact Or.inr ⟨11, _, e0, lsP.l (by decide), by rw [e0]; exact hdvy93⟩
          exact Or.inl (by rw [hfvy93 _ (by omega)]; rw [egy25, va_up_ne _ _ (by omega)]))
      have hkpy113 : (uZ F 12 (0)) 13 = F 13 := (fn rfl (by decide))
      have hkpy114 : (uZ F 12 (0)) 14 = F 14 := (fn rfl (by decide))
      have hkpy115 : (uZ F 12 (0)) 17 = F 17 := (fn rfl (by decide))
      have hkpy116 : (uZ F 12 (0)) 18 = F 18 := (fn rfl (by decide))
      have hkpy117 : (uZ F 12 (0)) 19 = F 19 := (fn rfl (by decide))
      have hkpy118 : (uZ F 12 (0)) 20 = F 20 := (fn rfl (by decide))
      have hkpy119 : (uZ F 12 (0)) 21 = F 21 := (fn rfl (by decide))
      have hkpy120 : (uZ F 12 (0)) 23 = F 23 := (fn rfl (by decide))
      have hkpy121 : (uZ F 12 (0)) 24 = F 24 := (fn rfl (by decide))
      have hkpy122 : (uZ F 12 (0)) 25 = F 25 := (fn rfl (by decide))
      have hkpy123 : (uZ F 12 (0)) 26 = F 26 := (fn rfl (by decide))
      have hkpy124 : (uZ F 12 (0)) 27 = F 27 := (fn rfl (by decide))
      have hkpy125 : (uZ F 12 (0)) 28 = F 28 := (fn rfl (by decide))
      have hkpy126 : (uZ F 12 (0)) 29 = F 29 := (fn rfl (by decide))
      rw [show hoA F op ai fa mu tb nsl z W na H = (-1, W, na, H) from if_neg (by omega)]
      exact z_iret C hr hlk dX10_hours_34 (by decide) (by decide) ⟨-1, rfl, rfl, rfl, by omega, ⟨_, _, hMy112, by omega, hRX.nx (by omega) (fn rfl (by decide)) (fn rfl (by decide)) (fun j _ => rfl), fun j _ => rfl⟩, ⟨_, hdvy93, Or.inl ⟨by omega, rfl⟩⟩, fun j j1 => by rw [hfvy93 _ (by omega)]; rw [egy25, va_up_ne _ _ (by omega)], fun j j1 j2 j3 => by rw [hfvy93 _ (by omega)]; rw [egy25, va_up_ne _ _ (by omega)]⟩
  · refine z_if_eq (tgt := 29) C dX10_hours_12 (by decide) (by omega) (fun _ => ?_) (fun h => absurd h (by omega))
    refine z_aload_n C 0 dX10_hours_29 rfl ?_
    refine z_iconst (z := 1) C dX10_hours_30 rfl ?_
    have hgy127 := up_n egy25 hrr (ne_o (i := i) (c := 11) (d := 0) rfl)
    refine z_cV (As := [.int (zI (1))]) (rest := []) (ci := 12) C (c_uRefuses l D A cs tt N ad _ i hN _ hgy26 _ hgy127 1 (by omega)) (lt_A0 hN rfl) hay1 hgy26 rfl rfl mv_yX10_refuses q_1866 hd_yX10_refuses (by decide) (Nat.le_of_ble_eq_true rfl) (by decide) dX10_hours_31 rfl (kI0 fun vy128 gvy128 hvy128 => ?_)
    obtain ⟨rfl, hdvy128, hfvy128⟩ := hvy128
    have hgy129 := (hfvy128 (i) (ne_o (i := i) (c := 0) (d := 11) rfl)).trans hgy26
    have hgy130 := up_n egy25 ha1 (ne_o (i := i) (c := 1) (d := 0) rfl)
    have hgy131 := (hfvy128 (i + 1) (ne_o (i := i) (c := 1) (d := 11) rfl)).trans hgy130
    have hFy132 : ∀ f, f ≠ 12 → (uZ F 12 (0)) f = F f := fun f n12 => ((uZ_n _ _ n12).trans rfl)
    have hey133 : (uZ F 12 (0)) 13 = F 13 := (fn rfl (by decide))
    have hey134 : (uZ F 12 (0)) 14 = F 14 := (fn rfl (by decide))
    have hey135 : (uZ F 12 (0)) 15 = F 15 := (fn rfl (by decide))
    have hey136 : (uZ F 12 (0)) 16 = F 16 := (fn rfl (by decide))
    have hey137 : (uZ F 12 (0)) 17 = F 17 := (fn rfl (by decide))
    have hey138 : (uZ F 12 (0)) 18 = F 18 := (fn rfl (by decide))
    have hey139 : (uZ F 12 (0)) 19 = F 19 := (fn rfl (by decide))
    have hey140 : (uZ F 12 (0)) 20 = F 20 := (fn rfl (by decide))
    have hey141 : (uZ F 12 (0)) 21 = F 21 := (fn rfl (by decide))
    have hey142 : (uZ F 12 (0)) 23 = F 23 := (fn rfl (by decide))
    have hey143 : (uZ F 12 (0)) 25 = F 25 := (fn rfl (by decide))
    have hey144 : (uZ F 12 (0)) 27 = F 27 := (fn rfl (by decide))
    have hey145 : (uZ F 12 (0)) 28 = F 28 := (fn rfl (by decide))
    have hey146 : (uZ F 12 (0)) 29 = F 29 := (fn rfl (by decide))
    have hKy147 : okF (uZ F 12 (0)) := okF.mv hM.2.1 hey133 hey134 hey135 hey136 hey137 hey138 hey139 hey140 hey141 hey142 hey143 hey144 hey145 hey146
    have hMy148 : okMr cs ad gvy128 i (x + 1) (uZ F 12 (0)) r st op ai fa mu tb tp := okMr.upd hM hgy129 hKy147 (fun f a => hFy132 f (by omega)) hgy131 (hA.mono (by omega)) (fun j a b => by
        by_cases e0 : j = i + 11
        · exact Or.inr ⟨11, _, e0, lsP.l (by decide), by rw [e0]; exact hdvy128⟩
        exact Or.inl (by rw [hfvy128 _ (by omega)]; rw [egy25, va_up_ne _ _ (by omega)]))
    have hkpy149 : (uZ F 12 (0)) 13 = F 13 := (fn rfl (by decide))
    have hkpy150 : (uZ F 12 (0)) 14 = F 14 := (fn rfl (by decide))
    have hkpy151 : (uZ F 12 (0)) 17 = F 17 := (fn rfl (by decide))
    have hkpy152 : (uZ F 12 (0)) 18 = F 18 := (fn rfl (by decide))
    have hkpy153 : (uZ F 12 (0)) 19 = F 19 := (fn rfl (by decide))
    have hkpy154 : (uZ F 12 (0)) 20 = F 20 := (fn rfl (by decide))
    have hkpy155 : (uZ F 12 (0)) 21 = F 21 := (fn rfl (by decide))
    have hkpy156 : (uZ F 12 (0)) 23 = F 23 := (fn rfl (by decide))
    have hkpy157 : (uZ F 12 (0)) 24 = F 24 := (fn rfl (by decide))
    have hkpy158 : (uZ F 12 (0)) 25 = F 25 := (fn rfl (by decide))
    have hkpy159 : (uZ F 12 (0)) 26 = F 26 := (fn rfl (by decide))
    have hkpy160 : (uZ F 12 (0)) 27 = F 27 := (fn rfl (by decide))
    have hkpy161 : (uZ F 12 (0)) 28 = F 28 := (fn rfl (by decide))
    have hkpy162 : (uZ F 12 (0)) 29 = F 29 := (fn rfl (by decide))
    rw [show hoA F op ai fa mu tb nsl z W na H = (-1, W, na, H) from if_neg (by omega)]
    exact z_iret C hr hlk dX10_hours_34 (by decide) (by decide) ⟨-1, rfl, rfl, rfl, by omega, ⟨_, _, hMy148, by omega, hRX.nx (by omega) (fn rfl (by decide)) (fn rfl (by decide)) (fun j _ => rfl), fun j _ => rfl⟩, ⟨_, hdvy128, Or.inl ⟨by omega, rfl⟩⟩, fun j j1 => by rw [hfvy128 _ (by omega)]; rw [egy25, va_up_ne _ _ (by omega)], fun j j1 j2 j3 => by rw [hfvy128 _ (by omega)]; rw [egy25, va_up_ne _ _ (by omega)]⟩
end
section
-- 9lq.dec.lean.txt
-- decode rows of ub
theorem dX10_dig_0 : decode cX10_dig 0 = .ok (.aload_n 0, 1) := by decide +kernel
theorem dX10_dig_1 : decode cX10_dig 1 = .ok (.iconst 0, 1) := by decide +kernel
theorem dX10_dig_2 : decode cX10_dig 2 = .ok (.putfield 110, 3) := by decide +kernel
theorem dX10_dig_5 : decode cX10_dig 5 = .ok (.iload_n 1, 1) := by decide +kernel
theorem dX10_dig_6 : decode cX10_dig 6 = .ok (.iconst 0, 1) := by decide +kernel
theorem dX10_dig_7 : decode cX10_dig 7 = .ok (.aload_n 0, 1) := by decide +kernel
theorem dX10_dig_8 : decode cX10_dig 8 = .ok (.getfield 198, 3) := by decide +kernel
theorem dX10_dig_11 : decode cX10_dig 11 = .ok (.iconst 1, 1) := by decide +kernel
theorem dX10_dig_12 : decode cX10_dig 12 = .ok (.isub, 1) := by decide +kernel
theorem dX10_dig_13 : decode cX10_dig 13 = .ok (.invokestatic 281, 3) := by decide +kernel
theorem dX10_dig_16 : decode cX10_dig 16 = .ok (.ifCond .eq 12, 3) := by decide +kernel
theorem dX10_dig_19 : decode cX10_dig 19 = .ok (.aload_n 0, 1) := by decide +kernel
theorem dX10_dig_20 : decode cX10_dig 20 = .ok (.iconst 0, 1) := by decide +kernel
theorem dX10_dig_21 : decode cX10_dig 21 = .ok (.iload_n 1, 1) := by decide +kernel
theorem dX10_dig_22 : decode cX10_dig 22 = .ok (.invokevirtual 121, 3) := by decide +kernel
theorem dX10_dig_25 : decode cX10_dig 25 = .ok (.ifCond .ne 9, 3) := by decide +kernel
theorem dX10_dig_34 : decode cX10_dig 34 = .ok (.aload_n 0, 1) := by decide +kernel
theorem dX10_dig_35 : decode cX10_dig 35 = .ok (.invokevirtual 397, 3) := by decide +kernel
theorem dX10_dig_38 : decode cX10_dig 38 = .ok (.aload_n 0, 1) := by decide +kernel
theorem dX10_dig_39 : decode cX10_dig 39 = .ok (.iconst 0, 1) := by decide +kernel
theorem dX10_dig_40 : decode cX10_dig 40 = .ok (.iload_n 1, 1) := by decide +kernel
theorem dX10_dig_41 : decode cX10_dig 41 = .ok (.aload_n 0, 1) := by decide +kernel
theorem dX10_dig_42 : decode cX10_dig 42 = .ok (.iconst 0, 1) := by decide +kernel
theorem dX10_dig_43 : decode cX10_dig 43 = .ok (.iload_n 1, 1) := by decide +kernel
theorem dX10_dig_44 : decode cX10_dig 44 = .ok (.invokevirtual 121, 3) := by decide +kernel
theorem dX10_dig_47 : decode cX10_dig 47 = .ok (.iconst 1, 1) := by decide +kernel
theorem dX10_dig_48 : decode cX10_dig 48 = .ok (.isub, 1) := by decide +kernel
theorem dX10_dig_49 : decode cX10_dig 49 = .ok (.bipush 6, 2) := by decide +kernel
theorem dX10_dig_51 : decode cX10_dig 51 = .ok (.invokevirtual 117, 3) := by decide +kernel
theorem dX10_dig_54 : decode cX10_dig 54 = .ok (.istore_n 2, 1) := by decide +kernel
theorem dX10_dig_55 : decode cX10_dig 55 = .ok (.aload_n 0, 1) := by decide +kernel
theorem dX10_dig_56 : decode cX10_dig 56 = .ok (.iconst 0, 1) := by decide +kernel
theorem dX10_dig_57 : decode cX10_dig 57 = .ok (.iload_n 1, 1) := by decide +kernel
theorem dX10_dig_58 : decode cX10_dig 58 = .ok (.invokevirtual 403, 3) := by decide +kernel
theorem dX10_dig_61 : decode cX10_dig 61 = .ok (.iload_n 2, 1) := by decide +kernel
theorem dX10_dig_62 : decode cX10_dig 62 = .ok (.ireturn, 1) := by decide +kernel
theorem dX10_dig_28 : decode cX10_dig 28 = .ok (.aload_n 0, 1) := by decide +kernel
theorem dX10_dig_29 : decode cX10_dig 29 = .ok (.iconst 1, 1) := by decide +kernel
theorem dX10_dig_30 : decode cX10_dig 30 = .ok (.invokevirtual 394, 3) := by decide +kernel
theorem dX10_dig_33 : decode cX10_dig 33 = .ok (.ireturn, 1) := by decide +kernel
theorem dX10_undo_0 : decode cX10_undo 0 = .ok (.aload_n 0, 1) := by decide +kernel
theorem dX10_undo_1 : decode cX10_undo 1 = .ok (.iconst 0, 1) := by decide +kernel
theorem dX10_undo_2 : decode cX10_undo 2 = .ok (.putfield 110, 3) := by decide +kernel
theorem dX10_undo_5 : decode cX10_undo 5 = .ok (.aload_n 0, 1) := by decide +kernel
theorem dX10_undo_6 : decode cX10_undo 6 = .ok (.getfield 342, 3) := by decide +kernel
theorem dX10_undo_9 : decode cX10_undo 9 = .ok (.ifCond .ne 5, 3) := by decide +kernel
theorem dX10_undo_14 : decode cX10_undo 14 = .ok (.aload_n 0, 1) := by decide +kernel
theorem dX10_undo_15 : decode cX10_undo 15 = .ok (.dup, 1) := by decide +kernel
theorem dX10_undo_16 : decode cX10_undo 16 = .ok (.getfield 342, 3) := by decide +kernel
theorem dX10_undo_19 : decode cX10_undo 19 = .ok (.iconst 1, 1) := by decide +kernel
theorem dX10_undo_20 : decode cX10_undo 20 = .ok (.isub, 1) := by decide +kernel
theorem dX10_undo_21 : decode cX10_undo 21 = .ok (.putfield 342, 3) := by decide +kernel
theorem dX10_undo_24 : decode cX10_undo 24 = .ok (.aload_n 0, 1) := by decide +kernel
theorem dX10_undo_25 : decode cX10_undo 25 = .ok (.aload_n 0, 1) := by decide +kernel
theorem dX10_undo_26 : decode cX10_undo 26 = .ok (.getfield 339, 3) := by decide +kernel
theorem dX10_undo_29 : decode cX10_undo 29 = .ok (.aload_n 0, 1) := by decide +kernel
theorem dX10_undo_30 : decode cX10_undo 30 = .ok (.getfield 342, 3) := by decide +kernel
theorem dX10_undo_33 : decode cX10_undo 33 = .ok (.invokestatic 388, 3) := by decide +kernel
theorem dX10_undo_36 : decode cX10_undo 36 = .ok (.iconst 0, 1) := by decide +kernel
theorem dX10_undo_37 : decode cX10_undo 37 = .ok (.sipush 350, 3) := by decide +kernel
theorem dX10_undo_40 : decode cX10_undo 40 = .ok (.invokevirtual 391, 3) := by decide +kernel
theorem dX10_undo_43 : decode cX10_undo 43 = .ok (.aload_n 0, 1) := by decide +kernel
theorem dX10_undo_44 : decode cX10_undo 44 = .ok (.getfield 342, 3) := by decide +kernel
theorem dX10_undo_47 : decode cX10_undo 47 = .ok (.ireturn, 1) := by decide +kernel
theorem dX10_undo_12 : decode cX10_undo 12 = .ok (.iconst (-1), 1) := by decide +kernel
theorem dX10_undo_13 : decode cX10_undo 13 = .ok (.ireturn, 1) := by decide +kernel
theorem dX10_slide_0 : decode cX10_slide 0 = .ok (.aload_n 0, 1) := by decide +kernel
theorem dX10_slide_1 : decode cX10_slide 1 = .ok (.iconst 0, 1) := by decide +kernel
theorem dX10_slide_2 : decode cX10_slide 2 = .ok (.putfield 110, 3) := by decide +kernel
theorem dX10_slide_5 : decode cX10_slide 5 = .ok (.iload_n 1, 1) := by decide +kernel
theorem dX10_slide_6 : decode cX10_slide 6 = .ok (.iconst 0, 1) := by decide +kernel
theorem dX10_slide_7 : decode cX10_slide 7 = .ok (.aload_n 0, 1) := by decide +kernel
theorem dX10_slide_8 : decode cX10_slide 8 = .ok (.getfield 198, 3) := by decide +kernel
theorem dX10_slide_11 : decode cX10_slide 11 = .ok (.iconst 1, 1) := by decide +kernel
theorem dX10_slide_12 : decode cX10_slide 12 = .ok (.isub, 1) := by decide +kernel
theorem dX10_slide_13 : decode cX10_slide 13 = .ok (.invokestatic 281, 3) := by decide +kernel
theorem dX10_slide_16 : decode cX10_slide 16 = .ok (.ifCond .eq 12, 3) := by decide +kernel
theorem dX10_slide_19 : decode cX10_slide 19 = .ok (.aload_n 0, 1) := by decide +kernel
theorem dX10_slide_20 : decode cX10_slide 20 = .ok (.iconst 0, 1) := by decide +kernel
theorem dX10_slide_21 : decode cX10_slide 21 = .ok (.iload_n 1, 1) := by decide +kernel
theorem dX10_slide_22 : decode cX10_slide 22 = .ok (.invokevirtual 366, 3) := by decide +kernel
theorem dX10_slide_25 : decode cX10_slide 25 = .ok (.ifCond .ne 9, 3) := by decide +kernel
theorem dX10_slide_34 : decode cX10_slide 34 = .ok (.aload_n 0, 1) := by decide +kernel
theorem dX10_slide_35 : decode cX10_slide 35 = .ok (.invokevirtual 397, 3) := by decide +kernel
theorem dX10_slide_38 : decode cX10_slide 38 = .ok (.aload_n 0, 1) := by decide +kernel
theorem dX10_slide_39 : decode cX10_slide 39 = .ok (.iconst 0, 1) := by decide +kernel
theorem dX10_slide_40 : decode cX10_slide 40 = .ok (.iload_n 1, 1) := by decide +kernel
theorem dX10_slide_41 : decode cX10_slide 41 = .ok (.invokevirtual 406, 3) := by decide +kernel
theorem dX10_slide_44 : decode cX10_slide 44 = .ok (.ireturn, 1) := by decide +kernel
theorem dX10_slide_28 : decode cX10_slide 28 = .ok (.aload_n 0, 1) := by decide +kernel
theorem dX10_slide_29 : decode cX10_slide 29 = .ok (.iconst 1, 1) := by decide +kernel
theorem dX10_slide_30 : decode cX10_slide 30 = .ok (.invokevirtual 394, 3) := by decide +kernel
theorem dX10_slide_33 : decode cX10_slide 33 = .ok (.ireturn, 1) := by decide +kernel
theorem dX10_fall_0 : decode cX10_fall 0 = .ok (.aload_n 0, 1) := by decide +kernel
theorem dX10_fall_1 : decode cX10_fall 1 = .ok (.iconst 0, 1) := by decide +kernel
theorem dX10_fall_2 : decode cX10_fall 2 = .ok (.putfield 110, 3) := by decide +kernel
theorem dX10_fall_5 : decode cX10_fall 5 = .ok (.iload_n 1, 1) := by decide +kernel
theorem dX10_fall_6 : decode cX10_fall 6 = .ok (.iconst 0, 1) := by decide +kernel
theorem dX10_fall_7 : decode cX10_fall 7 = .ok (.aload_n 0, 1) := by decide +kernel
theorem dX10_fall_8 : decode cX10_fall 8 = .ok (.getfield 198, 3) := by decide +kernel
theorem dX10_fall_11 : decode cX10_fall 11 = .ok (.iconst 1, 1) := by decide +kernel
theorem dX10_fall_12 : decode cX10_fall 12 = .ok (.isub, 1) := by decide +kernel
theorem dX10_fall_13 : decode cX10_fall 13 = .ok (.invokestatic 281, 3) := by decide +kernel
theorem dX10_fall_16 : decode cX10_fall 16 = .ok (.ifCond .eq 40, 3) := by decide +kernel
theorem dX10_fall_19 : decode cX10_fall 19 = .ok (.iload_n 2, 1) := by decide +kernel
theorem dX10_fall_20 : decode cX10_fall 20 = .ok (.iconst 1, 1) := by decide +kernel
theorem dX10_fall_21 : decode cX10_fall 21 = .ok (.iconst 3, 1) := by decide +kernel
theorem dX10_fall_22 : decode cX10_fall 22 = .ok (.invokestatic 281, 3) := by decide +kernel
theorem dX10_fall_25 : decode cX10_fall 25 = .ok (.ifCond .eq 31, 3) := by decide +kernel
theorem dX10_fall_28 : decode cX10_fall 28 = .ok (.iload_n 2, 1) := by decide +kernel
theorem dX10_fall_29 : decode cX10_fall 29 = .ok (.iconst 3, 1) := by decide +kernel
theorem dX10_fall_30 : decode cX10_fall 30 = .ok (.if_icmp .ge 13, 3) := by decide +kernel
theorem dX10_fall_43 : decode cX10_fall 43 = .ok (.iload_n 2, 1) := by decide +kernel
theorem dX10_fall_44 : decode cX10_fall 44 = .ok (.iconst 3, 1) := by decide +kernel
theorem dX10_fall_45 : decode cX10_fall 45 = .ok (.if_icmp .ne 17, 3) := by decide +kernel
theorem dX10_fall_62 : decode cX10_fall 62 = .ok (.aload_n 0, 1) := by decide +kernel
theorem dX10_fall_63 : decode cX10_fall 63 = .ok (.invokevirtual 397, 3) := by decide +kernel
theorem dX10_fall_66 : decode cX10_fall 66 = .ok (.aload_n 0, 1) := by decide +kernel
theorem dX10_fall_67 : decode cX10_fall 67 = .ok (.iconst 0, 1) := by decide +kernel
theorem dX10_fall_68 : decode cX10_fall 68 = .ok (.iload_n 1, 1) := by decide +kernel
theorem dX10_fall_69 : decode cX10_fall 69 = .ok (.iload_n 2, 1) := by decide +kernel
theorem dX10_fall_70 : decode cX10_fall 70 = .ok (.iload_n 3, 1) := by decide +kernel
theorem dX10_fall_71 : decode cX10_fall 71 = .ok (.aload_n 0, 1) := by decide +kernel
theorem dX10_fall_72 : decode cX10_fall 72 = .ok (.iconst 0, 1) := by decide +kernel
theorem dX10_fall_73 : decode cX10_fall 73 = .ok (.invokevirtual 195, 3) := by decide +kernel
theorem dX10_fall_76 : decode cX10_fall 76 = .ok (.invokevirtual 170, 3) := by decide +kernel
theorem dX10_fall_79 : decode cX10_fall 79 = .ok (.aload_n 0, 1) := by decide +kernel
theorem dX10_fall_80 : decode cX10_fall 80 = .ok (.iconst 0, 1) := by decide +kernel
theorem dX10_fall_81 : decode cX10_fall 81 = .ok (.iload_n 1, 1) := by decide +kernel
theorem dX10_fall_82 : decode cX10_fall 82 = .ok (.invokevirtual 121, 3) := by decide +kernel
theorem dX10_fall_85 : decode cX10_fall 85 = .ok (.ireturn, 1) := by decide +kernel
theorem dX10_fall_48 : decode cX10_fall 48 = .ok (.aload_n 0, 1) := by decide +kernel
theorem dX10_fall_49 : decode cX10_fall 49 = .ok (.iconst 0, 1) := by decide +kernel
theorem dX10_fall_50 : decode cX10_fall 50 = .ok (.invokevirtual 195, 3) := by decide +kernel
theorem dX10_fall_53 : decode cX10_fall 53 = .ok (.ifCond .lt 9, 3) := by decide +kernel
theorem dX10_fall_56 : decode cX10_fall 56 = .ok (.aload_n 0, 1) := by decide +kernel
theorem dX10_fall_57 : decode cX10_fall 57 = .ok (.iconst 1, 1) := by decide +kernel
theorem dX10_fall_58 : decode cX10_fall 58 = .ok (.invokevirtual 394, 3) := by decide +kernel
theorem dX10_fall_61 : decode cX10_fall 61 = .ok (.ireturn, 1) := by decide +kernel
theorem dX10_fall_33 : decode cX10_fall 33 = .ok (.iload_n 3, 1) := by decide +kernel
theorem dX10_fall_34 : decode cX10_fall 34 = .ok (.iconst 1, 1) := by decide +kernel
theorem dX10_fall_35 : decode cX10_fall 35 = .ok (.bipush 50, 2) := by decide +kernel
theorem dX10_fall_37 : decode cX10_fall 37 = .ok (.invokestatic 281, 3) := by decide +kernel
theorem dX10_fall_40 : decode cX10_fall 40 = .ok (.ifCond .eq 16, 3) := by decide +kernel
end
