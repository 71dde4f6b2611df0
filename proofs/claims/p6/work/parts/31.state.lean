abbrev okPit (cs : Nat → ClassId) (ad : Nat → Nat) (g : Nat → va_E) (a : Nat) : Prop := ∃ (sl ti sz ro : Int) (r : Nat → Int), (0 ≤ sl ∧ sl ≤ 3) ∧ (0 ≤ sz ∧ sz ≤ 12) ∧ isPit cs ad g a sl ti sz ro r
theorem okPit.mv {cs : Nat → ClassId} {ad ad' : Nat → Nat} {g g' : Nat → va_E} {a : Nat} (hA : ∀ j, a ≤ j → j < a + 3 → ad' j = ad j) (hG : ∀ j, a ≤ j → j < a + 3 → g' j = g j) (h : okPit cs ad g a) : okPit cs ad' g' a := by
  obtain ⟨sl, ti, sz, ro, r, h1, h2, h3⟩ := h
  exact ⟨sl, ti, sz, ro, r, h1, h2, h3.mv hA hG⟩
theorem okWorld.mv2 {cs : Nat → ClassId} {ad ad' : Nat → Nat} {g g' : Nat → va_E} {a : Nat} (hA : ∀ j, a ≤ j → j < a + 10 → ad' j = ad j) (hG : ∀ j, a ≤ j → j < a + 10 → g' j = g j) (h : okWorld cs ad g a) : okWorld cs ad' g' a := by
  obtain ⟨t, z, o, r, h1, h2, h3⟩ := h
  exact ⟨t, z, o, r, h1, h2, h3.mv hA hG⟩
abbrev okNotes (cs : Nat → ClassId) (ad : Nat → Nat) (g : Nat → va_E) (a : Nat) (nz : Int) : Prop := ∃ (u v w : Nat → Int), (0 ≤ nz ∧ nz ≤ 8) ∧ (∀ k, k < 8 → (0 ≤ u k ∧ u k ≤ 3) ∧ 0 ≤ v k ∧ v k ≤ 48) ∧ isNotes cs ad g a nz u v w
theorem okNotes.mv {cs : Nat → ClassId} {ad ad' : Nat → Nat} {g g' : Nat → va_E} {a : Nat} {nz : Int} (hA : ∀ j, a ≤ j → j < a + 4 → ad' j = ad j) (hG : ∀ j, a ≤ j → j < a + 4 → g' j = g j) (h : okNotes cs ad g a nz) : okNotes cs ad' g' a nz := by
  obtain ⟨u, v, w, h1, h2, h3⟩ := h
  exact ⟨u, v, w, h1, h2, h3.mv hA hG⟩
abbrev stC (ad : Nat → Nat) (i : Nat) (ac : Int) : va_E := oC 8 [.ref (ad (i + 1)), .ref (ad (i + 11)), .int (zI ac), .ref (ad (i + 12)), .ref (ad (i + 13)), .ref (ad (i + 17))]
/-- a State: its object, its worlds, rows, pits, notes and counts are as they should be -/
def okState (cs : Nat → ClassId) (ad : Nat → Nat) (g : Nat → va_E) (i : Nat) (ac nz : Int) : Prop :=
  g i = stC ad i ac ∧ (0 ≤ ac ∧ ac ≤ 40) ∧ okWorld cs ad g (i + 1) ∧ (∃ (b : Nat → Option Nat) (f : Nat → Nat), g (i + 11) = rA (cs 4) 40 b ∧ ∀ k, k < 40 → f k < 40 ∧ b k = some (ad (i + 18 + 10 * f k))) ∧ (∀ k, k < 40 → okWorld cs ad g (i + 18 + 10 * k)) ∧
  (∃ b2 : Nat → Option Nat, g (i + 12) = rA (cs 5) 6 b2 ∧ ∀ k, k < 6 → b2 k = some (ad (i + 418 + 3 * k))) ∧ (∀ k, k < 6 → okPit cs ad g (i + 418 + 3 * k)) ∧ okNotes cs ad g (i + 13) nz ∧ ∃ r : Nat → Int, g (i + 17) = iA cs 3 r
section OKS
variable {cs : Nat → ClassId} {ad ad' : Nat → Nat} {g g' : Nat → va_E} {i : Nat} {ac nz : Int}
theorem okState.mv (hA : ∀ j, i ≤ j → j < i + 436 → ad' j = ad j) (hG : ∀ j, i ≤ j → j < i + 436 → g' j = g j) (h : okState cs ad g i ac nz) : okState cs ad' g' i ac nz := by
  obtain ⟨h1, h2, h3, ⟨b, f, h4, h5⟩, h6, ⟨b2, h7, h8⟩, h9, h10, r, h11⟩ := h
  refine ⟨?_, h2, h3.mv2 (fun j _ _ => hA j (by omega) (by omega)) (fun j _ _ => hG j (by omega) (by omega)), ⟨b, f, by rw [hG _ (by omega) (by omega)]; exact h4, fun k hk => ⟨(h5 k hk).1, ?_⟩⟩, fun k hk => (h6 k hk).mv2 (fun j _ _ => hA j (by omega) (by omega)) (fun j _ _ => hG j (by omega) (by omega)), ⟨b2, by rw [hG _ (by omega) (by omega)]; exact h7, fun k hk => by rw [hA _ (by omega) (by omega)]; exact h8 k hk⟩, fun k hk => (h9 k hk).mv (fun j _ _ => hA j (by omega) (by omega)) (fun j _ _ => hG j (by omega) (by omega)), h10.mv (fun j _ _ => hA j (by omega) (by omega)) (fun j _ _ => hG j (by omega) (by omega)), r, by rw [hG _ (by omega) (by omega)]; exact h11⟩
  · rw [hG _ (by omega) (by omega), h1]
    show stC ad i ac = stC ad' i ac
    unfold stC
    rw [hA _ (by omega) (by omega), hA _ (by omega) (by omega), hA _ (by omega) (by omega), hA _ (by omega) (by omega), hA _ (by omega) (by omega)]
  · have := (h5 k hk).1
    rw [hA _ (by omega) (by omega)]; exact (h5 k hk).2
theorem okState.head {ac' : Int} (ha : 0 ≤ ac' ∧ ac' ≤ 40) (h : okState cs ad g i ac nz) (hG : ∀ j, j ≠ i → g' j = g j) (hc : g' i = stC ad i ac') : okState cs ad g' i ac' nz := by
  obtain ⟨h1, h2, h3, ⟨b, f, h4, h5⟩, h6, ⟨b2, h7, h8⟩, h9, h10, r, h11⟩ := h
  exact ⟨hc, ha, h3.mv (fun j _ _ => hG j (by omega)), ⟨b, f, by rw [hG _ (by omega)]; exact h4, h5⟩, fun k hk => (h6 k hk).mv (fun j _ _ => hG j (by omega)), ⟨b2, by rw [hG _ (by omega)]; exact h7, h8⟩, fun k hk => (h9 k hk).mv (fun _ _ _ => rfl) (fun j _ _ => hG j (by omega)), h10.mv (fun _ _ _ => rfl) (fun j _ _ => hG j (by omega)), r, by rw [hG _ (by omega)]; exact h11⟩
theorem okState.now (h : okState cs ad g i ac nz) (hG : ∀ j, j < i + 1 ∨ i + 11 ≤ j → g' j = g j) (hw : okWorld cs ad g' (i + 1)) : okState cs ad g' i ac nz := by
  obtain ⟨h1, h2, h3, ⟨b, f, h4, h5⟩, h6, ⟨b2, h7, h8⟩, h9, h10, r, h11⟩ := h
  exact ⟨by rw [hG _ (by omega)]; exact h1, h2, hw, ⟨b, f, by rw [hG _ (by omega)]; exact h4, h5⟩, fun k hk => (h6 k hk).mv (fun j _ _ => hG j (by omega)), ⟨b2, by rw [hG _ (by omega)]; exact h7, h8⟩, fun k hk => (h9 k hk).mv (fun _ _ _ => rfl) (fun j _ _ => hG j (by omega)), h10.mv (fun _ _ _ => rfl) (fun j _ _ => hG j (by omega)), r, by rw [hG _ (by omega)]; exact h11⟩
theorem okState.bef {k : Nat} (hk : k < 40) (h : okState cs ad g i ac nz) (hG : ∀ j, j < i + 18 + 10 * k ∨ i + 18 + 10 * k + 10 ≤ j → g' j = g j) (hw : okWorld cs ad g' (i + 18 + 10 * k)) : okState cs ad g' i ac nz := by
  obtain ⟨h1, h2, h3, ⟨b, f, h4, h5⟩, h6, ⟨b2, h7, h8⟩, h9, h10, r, h11⟩ := h
  refine ⟨by rw [hG _ (by omega)]; exact h1, h2, h3.mv (fun j _ _ => hG j (by omega)), ⟨b, f, by rw [hG _ (by omega)]; exact h4, h5⟩, fun m hm => ?_, ⟨b2, by rw [hG _ (by omega)]; exact h7, h8⟩, fun m hm => (h9 m hm).mv (fun _ _ _ => rfl) (fun j _ _ => hG j (by omega)), h10.mv (fun _ _ _ => rfl) (fun j _ _ => hG j (by omega)), r, by rw [hG _ (by omega)]; exact h11⟩
  by_cases e : m = k
  · subst e; exact hw
  · exact (h6 m hm).mv (fun j _ _ => hG j (by omega))
theorem okState.pit {k : Nat} (hk : k < 6) (h : okState cs ad g i ac nz) (hG : ∀ j, j < i + 418 + 3 * k ∨ i + 418 + 3 * k + 3 ≤ j → g' j = g j) (hw : okPit cs ad g' (i + 418 + 3 * k)) : okState cs ad g' i ac nz := by
  obtain ⟨h1, h2, h3, ⟨b, f, h4, h5⟩, h6, ⟨b2, h7, h8⟩, h9, h10, r, h11⟩ := h
  refine ⟨by rw [hG _ (by omega)]; exact h1, h2, h3.mv (fun j _ _ => hG j (by omega)), ⟨b, f, by rw [hG _ (by omega)]; exact h4, h5⟩, fun m hm => (h6 m hm).mv (fun j _ _ => hG j (by omega)), ⟨b2, by rw [hG _ (by omega)]; exact h7, h8⟩, fun m hm => ?_, h10.mv (fun _ _ _ => rfl) (fun j _ _ => hG j (by omega)), r, by rw [hG _ (by omega)]; exact h11⟩
  by_cases e : m = k
  · subst e; exact hw
  · exact (h9 m hm).mv (fun _ _ _ => rfl) (fun j _ _ => hG j (by omega))
theorem okState.notes {nz' : Int} (h : okState cs ad g i ac nz) (hG : ∀ j, j < i + 13 ∨ i + 17 ≤ j → g' j = g j) (hw : okNotes cs ad g' (i + 13) nz') : okState cs ad g' i ac nz' := by
  obtain ⟨h1, h2, h3, ⟨b, f, h4, h5⟩, h6, ⟨b2, h7, h8⟩, h9, h10, r, h11⟩ := h
  exact ⟨by rw [hG _ (by omega)]; exact h1, h2, h3.mv (fun j _ _ => hG j (by omega)), ⟨b, f, by rw [hG _ (by omega)]; exact h4, h5⟩, fun k hk => (h6 k hk).mv (fun j _ _ => hG j (by omega)), ⟨b2, by rw [hG _ (by omega)]; exact h7, h8⟩, fun k hk => (h9 k hk).mv (fun _ _ _ => rfl) (fun j _ _ => hG j (by omega)), hw, r, by rw [hG _ (by omega)]; exact h11⟩
theorem okState.refused {r' : Nat → Int} (h : okState cs ad g i ac nz) (hG : ∀ j, j ≠ i + 17 → g' j = g j) (hw : g' (i + 17) = iA cs 3 r') : okState cs ad g' i ac nz := by
  obtain ⟨h1, h2, h3, ⟨b, f, h4, h5⟩, h6, ⟨b2, h7, h8⟩, h9, h10, r, h11⟩ := h
  exact ⟨by rw [hG _ (by omega)]; exact h1, h2, h3.mv (fun j _ _ => hG j (by omega)), ⟨b, f, by rw [hG _ (by omega)]; exact h4, h5⟩, fun k hk => (h6 k hk).mv (fun j _ _ => hG j (by omega)), ⟨b2, by rw [hG _ (by omega)]; exact h7, h8⟩, fun k hk => (h9 k hk).mv (fun _ _ _ => rfl) (fun j _ _ => hG j (by omega)), h10.mv (fun _ _ _ => rfl) (fun j _ _ => hG j (by omega)), r', hw⟩
theorem okState.row {b' : Nat → Option Nat} {f' : Nat → Nat} (h : okState cs ad g i ac nz) (hG : ∀ j, j ≠ i + 11 → g' j = g j) (hw : g' (i + 11) = rA (cs 4) 40 b') (hb : ∀ k, k < 40 → f' k < 40 ∧ b' k = some (ad (i + 18 + 10 * f' k))) : okState cs ad g' i ac nz := by
  obtain ⟨h1, h2, h3, ⟨b, f, h4, h5⟩, h6, ⟨b2, h7, h8⟩, h9, h10, r, h11⟩ := h
  exact ⟨by rw [hG _ (by omega)]; exact h1, h2, h3.mv (fun j _ _ => hG j (by omega)), ⟨b', f', hw, hb⟩, fun k hk => (h6 k hk).mv (fun j _ _ => hG j (by omega)), ⟨b2, by rw [hG _ (by omega)]; exact h7, h8⟩, fun k hk => (h9 k hk).mv (fun _ _ _ => rfl) (fun j _ _ => hG j (by omega)), h10.mv (fun _ _ _ => rfl) (fun j _ _ => hG j (by omega)), r, by rw [hG _ (by omega)]; exact h11⟩
end OKS

set_option maxRecDepth 100000 in
set_option maxHeartbeats 4000000 in
theorem c_X6_forgetOldest (l : Launch) (D : va_G) (A : Nat → Prop) (cs : Nat → ClassId) (tt : Nat) (N : Nat) (ad : Nat → Nat) (g : Nat → va_E) (i : Nat) (hN : i + 436 ≤ N) (ac nz : Int) (hS : okState cs ad g i ac nz) (h40 : ac = 40) : zM l yX6_forgetOldest cX6_forgetOldest 3 none ({ frames := 1, cells := 0, slots := 0, locals := 60 } : Room) D A cs tt N ad g [.ref (ad i)] (rV0 N ad fun g' => okState cs ad g' i 39 nz ∧ ∀ j, j ≠ i → j ≠ i + 11 → g' j = g j) := by
  obtain ⟨q1, q2, q3, ⟨qb, qf, q4, q5⟩, q6, ⟨qc, q7, q8⟩, q9, q10, qr, q11⟩ := id hS
  have hay1 : zAt ad (i) (ad i) := rfl
  have hay2 : zAt ad (i + 11) (ad (i + 11)) := rfl
  have hay3 : zAt ad (i + 12) (ad (i + 12)) := rfl
  have hay4 : zAt ad (i + 17) (ad (i + 17)) := rfl
  have hay5 : zAt ad (i + 1) (ad (i + 1)) := rfl
  have hay6 : zAt ad (i + 13) (ad (i + 13)) := rfl
  refine z_of (by decide) (Nat.le_of_ble_eq_true rfl) ?_
  intro p e s m below meth c C hr hlk hnm
  refine z_lv (lv' := [(0, .ref (ad i))]) [0] rfl ?_
  refine z_aload_n C 0 dX6_forgetOldest_0 rfl ?_
  refine z_get (v := .ref (ad (i + 11))) C (lt_A0 hN rfl) hay1 q1 rfl inA_X6 1 (by decide) q_259 rfl rfl dX6_forgetOldest_1 ?_
  refine z_iconst (z := 0) C dX6_forgetOldest_4 rfl ?_
  refine z_aald C (lt_A (c := 11) hN rfl) hay2 q4 4 rfl (0) (by omega) (by omega) (by decide) (q5 0 (by decide)).2 dX6_forgetOldest_5 ?_
  have hay7 : zAt ad (i + 18 + 10 * qf 0) (ad (i + 18 + 10 * qf 0)) := rfl
  refine z_astore_n (lv' := [(1, .ref (ad (i + 18 + 10 * qf 0))), (0, .ref (ad i))]) C dX6_forgetOldest_6 rfl (by decide) rfl ?_
  refine z_iconst (z := 1) C dX6_forgetOldest_7 rfl ?_
  refine z_istore_n (lv' := [(2, .int (zI (1))), (1, .ref (ad (i + 18 + 10 * qf 0))), (0, .ref (ad i))]) C dX6_forgetOldest_8 rfl (by decide) rfl ?_
  have lp : ∀ (n9 : Nat) (k : Int) (b9 : Nat → Option Nat) (f9 : Nat → Nat) (g1 : Nat → va_E), (40 - k).toNat = n9 → (g1 (i + 11) = rA (cs 4) 40 b9) → (∀ m, m < 40 → f9 m < 40 ∧ b9 m = some (ad (i + 18 + 10 * f9 m))) → (∀ j, j ≠ i + 11 → g1 j = g j) → (1 ≤ k ∧ k ≤ 40) → zV p l e ({ frames := 1, cells := 0, slots := 0, locals := 60 } : Room) s m ([.ref (ad i)] : List Value).toArray below meth c (MQ below (zPost D A (rV0 N ad fun g' => okState cs ad g' i 39 nz ∧ ∀ j, j ≠ i → j ≠ i + 11 → g' j = g j)) ([.ref (ad i)] : List Value).toArray s ({ frames := 1, cells := 0, slots := 0, locals := 60 } : Room).cells ({ frames := 1, cells := 0, slots := 0, locals := 60 } : Room).slots A) D A 3 (N) ad g1 (0) (0) 9 [(2, .int (zI (k))), (1, .ref (ad (i + 18 + 10 * qf 0))), (0, .ref (ad i))] [] := by
    intro n9
    induction n9 using Nat.strongRecOn with
    | ind n9 ih =>
      intro k b9 f9 g1 hm9 f1 f2 f3 f4
      have hay8 : zAt ad (i) (ad i) := rfl
      have hay9 : zAt ad (i + 11) (ad (i + 11)) := rfl
      have f0c := (f3 i (by omega)).trans q1
      have f00 := (q5 0 (by decide)).1
      refine z_iload_n C 0 dX6_forgetOldest_9 rfl ?_
      refine z_aload_n C 2 dX6_forgetOldest_10 rfl ?_
      refine z_get (v := .ref (ad (i + 11))) C (lt_A0 hN rfl) hay8 f0c rfl inA_X6 1 (by decide) q_259 rfl rfl dX6_forgetOldest_11 ?_
      refine z_alen (z := 40) C (lt_A (c := 11) hN rfl) hay9 f1 4 rfl rfl dX6_forgetOldest_14 ?_
      refine z_icmp_ge (tgt := 38) C dX6_forgetOldest_15 (by decide) (by omega) (by omega) (fun hb1 => ?_) (fun hb1 => ?_)
      · refine z_aload_n C 2 dX6_forgetOldest_38 rfl ?_
        refine z_get (v := .ref (ad (i + 11))) C (lt_A0 hN rfl) hay8 f0c rfl inA_X6 1 (by decide) q_259 rfl rfl dX6_forgetOldest_39 ?_
        refine z_aload_n C 2 dX6_forgetOldest_42 rfl ?_
        refine z_get (v := .ref (ad (i + 11))) C (lt_A0 hN rfl) hay8 f0c rfl inA_X6 1 (by decide) q_259 rfl rfl dX6_forgetOldest_43 ?_
        refine z_alen (z := 40) C (lt_A (c := 11) hN rfl) hay9 f1 4 rfl rfl dX6_forgetOldest_46 ?_
        refine z_iconst (z := 1) C dX6_forgetOldest_47 rfl ?_
        refine z_isub C dX6_forgetOldest_48 ?_
        refine z_aload_n C 1 dX6_forgetOldest_49 rfl ?_
        obtain ⟨thcy10, zhcy10, ohcy10, rhcy10, hzhcy10, hthcy10, hwhcy10⟩ := q6 (qf 0) (by omega)
        have hay11 : zAt ad (i + 18 + 10 * qf 0) (ad (i + 18 + 10 * qf 0)) := rfl
        have hxhcy10 := (f3 (i + 18 + 10 * qf 0) (by omega)).trans hwhcy10.1
        refine z_aast (q := (RX8, TX8, 7)) C (lt_A (c := 11) hN rfl) hay9 f1 4 rfl (by omega) hay11 hxhcy10 rfl (39) (by omega) (by omega) (by decide) dX6_forgetOldest_50 (fun gy12 egy13 => ?_)
        have hgy14 := up_s egy13
        refine z_aload_n C 2 dX6_forgetOldest_51 rfl ?_
        refine z_dup C dX6_forgetOldest_52 rfl ?_
        have hgy15 := up_n egy13 f0c (ne_o (i := i) (c := 0) (d := 11) rfl)
        refine z_get (v := .int (zI (ac))) C (lt_A0 hN rfl) hay8 hgy15 rfl inA_X6 2 (by decide) q_260 rfl rfl dX6_forgetOldest_53 ?_
        refine z_iconst (z := 1) C dX6_forgetOldest_56 rfl ?_
        refine z_isub C dX6_forgetOldest_57 ?_
        refine z_put (fs' := [.ref (ad (i + 1)), .ref (ad (i + 11)), .int (zI (ac - 1)), .ref (ad (i + 12)), .ref (ad (i + 13)), .ref (ad (i + 17))]) C (lt_A0 hN rfl) hay8 hgy15 tyX6 tyX6_ok nmX6 rfl inA_X6 2 (by decide) q_260 rfl rfl rfl rfl (Nat.le_of_ble_eq_true rfl) rfl dX6_forgetOldest_58 (fun gy16 egy17 => ?_)
        have hgy18 := up_s egy17
        have hgy19 := up_n egy17 hgy14 (ne_o (i := i) (c := 11) (d := 0) rfl)
        have hrow : okState cs ad (va_up gy16 i (g i)) i ac nz := okState.row (f' := fun m => if m = 39 then qf 0 else f9 m) hS (fun j j1 => by
            by_cases e : j = i
            · rw [e, va_up_self]
            · rw [va_up_ne _ _ e]; rw [egy17, va_up_ne _ _ (by omega)]; rw [egy13, va_up_ne _ _ (by omega)]; exact f3 j j1) (by rw [va_up_ne _ _ (by omega)]; exact hgy19) (fun m hm => by
            by_cases e : m = 39
            · subst e; exact ⟨by rw [if_pos rfl]; exact f00, by rw [va_up_self, if_pos rfl]⟩
            · rw [if_neg e, va_up_ne _ _ e]; exact f2 m hm)
        have hfin : okState cs ad gy16 i 39 nz := okState.head (by decide) hrow (fun j j1 => (va_up_ne _ _ j1).symm) (by rw [show (39 : Int) = ac - 1 by omega]; exact hgy18)
        exact z_vret C hr hlk dX6_forgetOldest_61 (by decide) (by decide) ⟨rfl, rfl, rfl, hfin, fun j j1 j2 => by rw [egy17, va_up_ne _ _ (by omega)]; rw [egy13, va_up_ne _ _ (by omega)]; exact f3 j j2⟩
      · refine z_aload_n C 2 dX6_forgetOldest_18 rfl ?_
        refine z_get (v := .ref (ad (i + 11))) C (lt_A0 hN rfl) hay8 f0c rfl inA_X6 1 (by decide) q_259 rfl rfl dX6_forgetOldest_19 ?_
        refine z_iload_n C 0 dX6_forgetOldest_22 rfl ?_
        refine z_iconst (z := 1) C dX6_forgetOldest_23 rfl ?_
        refine z_isub C dX6_forgetOldest_24 ?_
        refine z_aload_n C 2 dX6_forgetOldest_25 rfl ?_
        refine z_get (v := .ref (ad (i + 11))) C (lt_A0 hN rfl) hay8 f0c rfl inA_X6 1 (by decide) q_259 rfl rfl dX6_forgetOldest_26 ?_
        refine z_iload_n C 0 dX6_forgetOldest_29 rfl ?_
        refine z_aald C (lt_A (c := 11) hN rfl) hay9 f1 4 rfl ((k).toNat) (by omega) (by omega) (by decide) (f2 (k).toNat (by omega)).2 dX6_forgetOldest_30 ?_
        have f0k := (f2 (k).toNat (by omega)).1
        have hay20 : zAt ad (i + 18 + 10 * f9 (k).toNat) (ad (i + 18 + 10 * f9 (k).toNat)) := rfl
        obtain ⟨thcy21, zhcy21, ohcy21, rhcy21, hzhcy21, hthcy21, hwhcy21⟩ := q6 (f9 (k).toNat) (by omega)
        have hay22 : zAt ad (i + 18 + 10 * f9 (k).toNat) (ad (i + 18 + 10 * f9 (k).toNat)) := rfl
        have hxhcy21 := (f3 (i + 18 + 10 * f9 (k).toNat) (by omega)).trans hwhcy21.1
        refine z_aast (q := (RX8, TX8, 7)) C (lt_A (c := 11) hN rfl) hay9 f1 4 rfl (by omega) hay22 hxhcy21 rfl ((k - 1).toNat) (by omega) (by omega) (by decide) dX6_forgetOldest_31 (fun gy23 egy24 => ?_)
        have hgy25 := up_s egy24
        refine z_iinc (z := k + 1) (lv' := [(2, .int (zI (k + 1))), (1, .ref (ad (i + 18 + 10 * qf 0))), (0, .ref (ad i))]) (j := 0) C dX6_forgetOldest_32 rfl rfl (by decide) rfl ?_
        refine z_goto (tgt := 9) C dX6_forgetOldest_35 (by decide) ?_
        refine z_lv (lv' := [(2, .int (zI (k + 1))), (1, .ref (ad (i + 18 + 10 * qf 0))), (0, .ref (ad i))]) [0, 1, 2] rfl ?_
        exact ih _ (by omega) (k + 1) _ (fun m => if m = (k - 1).toNat then f9 (k).toNat else f9 m) gy23 rfl hgy25 (fun m hm => by
            by_cases e : m = (k - 1).toNat
            · subst e; exact ⟨by rw [if_pos rfl]; exact f0k, by rw [va_up_self, if_pos rfl]⟩
            · rw [if_neg e, va_up_ne _ _ e]; exact f2 m hm) (fun j j1 => by rw [egy24, va_up_ne _ _ (by omega)]; exact f3 j j1) (by omega)
  refine z_lv (lv' := [(2, .int (zI (1))), (1, .ref (ad (i + 18 + 10 * qf 0))), (0, .ref (ad i))]) [0, 1, 2] rfl ?_
  exact lp _ 1 _ _ g rfl q4 q5 (fun j _ => rfl) (by omega)

set_option maxRecDepth 100000 in
set_option maxHeartbeats 4000000 in
theorem c_X6_keepAct (l : Launch) (D : va_G) (A : Nat → Prop) (cs : Nat → ClassId) (tt : Nat) (N : Nat) (ad : Nat → Nat) (g : Nat → va_E) (i : Nat) (hN : i + 436 ≤ N) (ac nz : Int) (hS : okState cs ad g i ac nz) : zM l yX6_keepAct cX6_keepAct 1 none ({ frames := 3, cells := 0, slots := 0, locals := 180 } : Room) D A cs tt N ad g [.ref (ad i)] (rV0 N ad fun g' => (∃ ac' : Int, okState cs ad g' i ac' nz) ∧ (∃ t z o r, isWorld cs ad g (i + 1) t z o r ∧ isWorld cs ad g' (i + 1) t z o r) ∧ ∀ j, j < i ∨ i + 436 ≤ j → g' j = g j) := by
  obtain ⟨q1, q2, q3, ⟨qb, qf, q4, q5⟩, q6, ⟨qc, q7, q8⟩, q9, q10, qr, q11⟩ := id hS
  have hay1 : zAt ad (i) (ad i) := rfl
  have hay2 : zAt ad (i + 11) (ad (i + 11)) := rfl
  have hay3 : zAt ad (i + 12) (ad (i + 12)) := rfl
  have hay4 : zAt ad (i + 17) (ad (i + 17)) := rfl
  have hay5 : zAt ad (i + 1) (ad (i + 1)) := rfl
  have hay6 : zAt ad (i + 13) (ad (i + 13)) := rfl
  refine z_of (by decide) (Nat.le_of_ble_eq_true rfl) ?_
  intro p e s m below meth c C hr hlk hnm
  refine z_lv (lv' := [(0, .ref (ad i))]) [0] rfl ?_
  refine z_aload_n C 0 dX6_keepAct_0 rfl ?_
  refine z_get (v := .int (zI (ac))) C (lt_A0 hN rfl) hay1 q1 rfl inA_X6 2 (by decide) q_260 rfl rfl dX6_keepAct_1 ?_
  refine z_bipush (z := 40) C dX6_keepAct_4 (by decide) ?_
  refine z_icmp_ne (tgt := 13) C dX6_keepAct_6 (by decide) (by omega) (by omega) (fun hb1 => ?_) (fun hb1 => ?_)
  · have hfs : ∀ j, j ≠ i → j ≠ i + 11 → g j = g j := fun _ _ _ => rfl
    obtain ⟨p1, p2, p3, ⟨pb, pf, p4, p5⟩, p6, ⟨pc9, p7, p8⟩, p9, p10, pr, p11⟩ := id hS
    refine z_aload_n C 0 dX6_keepAct_13 rfl ?_
    refine z_get (v := .ref (ad (i + 11))) C (lt_A0 hN rfl) hay1 p1 rfl inA_X6 1 (by decide) q_259 rfl rfl dX6_keepAct_14 ?_
    refine z_aload_n C 0 dX6_keepAct_17 rfl ?_
    refine z_get (v := .int (zI (ac))) C (lt_A0 hN rfl) hay1 p1 rfl inA_X6 2 (by decide) q_260 rfl rfl dX6_keepAct_18 ?_
    refine z_aald C (lt_A (c := 11) hN rfl) hay2 p4 4 rfl ((ac).toNat) (by omega) (by omega) (by decide) (p5 (ac).toNat (by omega)).2 dX6_keepAct_21 ?_
    have hay7 : zAt ad (i + 18 + 10 * pf (ac).toNat) (ad (i + 18 + 10 * pf (ac).toNat)) := rfl
    have pk := (p5 (ac).toNat (by omega)).1
    obtain ⟨tk, zk, ok, rk, hzk, htk, hwk⟩ := p6 (pf (ac).toNat) (by omega)
    refine z_aload_n C 0 dX6_keepAct_22 rfl ?_
    refine z_get (v := .ref (ad (i + 1))) C (lt_A0 hN rfl) hay1 p1 rfl inA_X6 0 (by decide) q_257 rfl rfl dX6_keepAct_23 ?_
    refine z_cV (As := [.ref (ad (i + 1))]) (rest := []) (ci := 10) C (c_X8_copyFrom l D A cs tt N ad _ (i + 18 + 10 * pf (ac).toNat) (by omega) (p6 (pf (ac).toNat) (by omega)) (i + 1) (by omega) p3 (by omega)) (by omega) hay7 hwk.1 rfl rfl mv_yX8_copyFrom q_420 hd_yX8_copyFrom (by decide) (Nat.le_of_ble_eq_true rfl) (by decide) dX6_keepAct_26 rfl (kV0 fun gc hc => ?_)
    obtain ⟨⟨t1, z1, o1, r1, hz1, ht1, hn1, hw1⟩, hf1⟩ := hc
    have hs2 : okState cs ad gc i (ac) nz := okState.bef pk hS hf1 ⟨_, _, _, _, hz1, ht1, hw1⟩
    refine z_aload_n C 0 dX6_keepAct_29 rfl ?_
    refine z_dup C dX6_keepAct_30 rfl ?_
    refine z_get (v := .int (zI (ac))) C (lt_A0 hN rfl) hay1 hs2.1 rfl inA_X6 2 (by decide) q_260 rfl rfl dX6_keepAct_31 ?_
    refine z_iconst (z := 1) C dX6_keepAct_34 rfl ?_
    refine z_iadd C dX6_keepAct_35 ?_
    refine z_put (fs' := [.ref (ad (i + 1)), .ref (ad (i + 11)), .int (zI (ac + 1)), .ref (ad (i + 12)), .ref (ad (i + 13)), .ref (ad (i + 17))]) C (lt_A0 hN rfl) hay1 hs2.1 tyX6 tyX6_ok nmX6 rfl inA_X6 2 (by decide) q_260 rfl rfl rfl rfl (Nat.le_of_ble_eq_true rfl) rfl dX6_keepAct_36 (fun gy8 egy9 => ?_)
    have hgy10 := up_s egy9
    have hs3 : okState cs ad gy8 i (ac + 1) nz := okState.head (by omega) hs2 (fun j j1 => by rw [egy9, va_up_ne _ _ (by omega)]) hgy10
    have hfr : ∀ j, j < i + 18 ∨ i + 418 ≤ j → j ≠ i → gy8 j = gc j ∧ gc j = g j := fun j j1 j2 => ⟨by rw [egy9, va_up_ne _ _ (by omega)], hf1 j (by omega)⟩
    exact z_vret C hr hlk dX6_keepAct_39 (by decide) (by decide) ⟨rfl, rfl, rfl, ⟨_, hs3⟩, ⟨t1, z1, o1, r1, hn1.mv (fun _ _ _ => rfl) (fun j j1 j2 => (hfs j (by omega) (by omega)).symm), hn1.mv (fun _ _ _ => rfl) (fun j j1 j2 => (hfr j (by omega) (by omega)).1.trans (hfr j (by omega) (by omega)).2)⟩, fun j j1 => ((hfr j (by omega) (by omega)).1.trans (hfr j (by omega) (by omega)).2).trans (hfs j (by omega) (by omega))⟩
  · refine z_aload_n C 0 dX6_keepAct_9 rfl ?_
    refine z_cV (As := []) (rest := []) (ci := 8) C (c_X6_forgetOldest l D A cs tt N ad _ i hN ac nz hS (by omega)) (lt_A0 hN rfl) hay1 q1 rfl rfl mv_yX6_forgetOldest q_416 hd_yX6_forgetOldest (by decide) (Nat.le_of_ble_eq_true rfl) (by decide) dX6_keepAct_10 rfl (kV0 fun gs hgs => ?_)
    obtain ⟨hSs, hfs0⟩ := hgs
    have hfs : ∀ j, j ≠ i → j ≠ i + 11 → gs j = g j := hfs0
    obtain ⟨p1, p2, p3, ⟨pb, pf, p4, p5⟩, p6, ⟨pc9, p7, p8⟩, p9, p10, pr, p11⟩ := id hSs
    refine z_aload_n C 0 dX6_keepAct_13 rfl ?_
    refine z_get (v := .ref (ad (i + 11))) C (lt_A0 hN rfl) hay1 p1 rfl inA_X6 1 (by decide) q_259 rfl rfl dX6_keepAct_14 ?_
    refine z_aload_n C 0 dX6_keepAct_17 rfl ?_
    refine z_get (v := .int (zI (39))) C (lt_A0 hN rfl) hay1 p1 rfl inA_X6 2 (by decide) q_260 rfl rfl dX6_keepAct_18 ?_
    refine z_aald C (lt_A (c := 11) hN rfl) hay2 p4 4 rfl (39) (by omega) (by omega) (by decide) (p5 39 (by omega)).2 dX6_keepAct_21 ?_
    have hay11 : zAt ad (i + 18 + 10 * pf 39) (ad (i + 18 + 10 * pf 39)) := rfl
    have pk := (p5 39 (by omega)).1
    obtain ⟨tk, zk, ok, rk, hzk, htk, hwk⟩ := p6 (pf 39) (by omega)
    refine z_aload_n C 0 dX6_keepAct_22 rfl ?_
    refine z_get (v := .ref (ad (i + 1))) C (lt_A0 hN rfl) hay1 p1 rfl inA_X6 0 (by decide) q_257 rfl rfl dX6_keepAct_23 ?_
    refine z_cV (As := [.ref (ad (i + 1))]) (rest := []) (ci := 10) C (c_X8_copyFrom l D A cs tt N ad _ (i + 18 + 10 * pf 39) (by omega) (p6 (pf 39) (by omega)) (i + 1) (by omega) p3 (by omega)) (by omega) hay11 hwk.1 rfl rfl mv_yX8_copyFrom q_420 hd_yX8_copyFrom (by decide) (Nat.le_of_ble_eq_true rfl) (by decide) dX6_keepAct_26 rfl (kV0 fun gc hc => ?_)
    obtain ⟨⟨t1, z1, o1, r1, hz1, ht1, hn1, hw1⟩, hf1⟩ := hc
    have hs2 : okState cs ad gc i (39) nz := okState.bef pk hSs hf1 ⟨_, _, _, _, hz1, ht1, hw1⟩
    refine z_aload_n C 0 dX6_keepAct_29 rfl ?_
    refine z_dup C dX6_keepAct_30 rfl ?_
    refine z_get (v := .int (zI (39))) C (lt_A0 hN rfl) hay1 hs2.1 rfl inA_X6 2 (by decide) q_260 rfl rfl dX6_keepAct_31 ?_
    refine z_iconst (z := 1) C dX6_keepAct_34 rfl ?_
    refine z_iadd C dX6_keepAct_35 ?_
    refine z_put (fs' := [.ref (ad (i + 1)), .ref (ad (i + 11)), .int (zI (39 + 1)), .ref (ad (i + 12)), .ref (ad (i + 13)), .ref (ad (i + 17))]) C (lt_A0 hN rfl) hay1 hs2.1 tyX6 tyX6_ok nmX6 rfl inA_X6 2 (by decide) q_260 rfl rfl rfl rfl (Nat.le_of_ble_eq_true rfl) rfl dX6_keepAct_36 (fun gy12 egy13 => ?_)
    have hgy14 := up_s egy13
    have hs3 : okState cs ad gy12 i (39 + 1) nz := okState.head (by omega) hs2 (fun j j1 => by rw [egy13, va_up_ne _ _ (by omega)]) hgy14
    have hfr : ∀ j, j < i + 18 ∨ i + 418 ≤ j → j ≠ i → gy12 j = gc j ∧ gc j = gs j := fun j j1 j2 => ⟨by rw [egy13, va_up_ne _ _ (by omega)], hf1 j (by omega)⟩
    exact z_vret C hr hlk dX6_keepAct_39 (by decide) (by decide) ⟨rfl, rfl, rfl, ⟨_, hs3⟩, ⟨t1, z1, o1, r1, hn1.mv (fun _ _ _ => rfl) (fun j j1 j2 => (hfs j (by omega) (by omega)).symm), hn1.mv (fun _ _ _ => rfl) (fun j j1 j2 => (hfr j (by omega) (by omega)).1.trans (hfr j (by omega) (by omega)).2)⟩, fun j j1 => ((hfr j (by omega) (by omega)).1.trans (hfr j (by omega) (by omega)).2).trans (hfs j (by omega) (by omega))⟩

set_option maxRecDepth 100000 in
set_option maxHeartbeats 4000000 in
theorem c_X6_takeBack (l : Launch) (D : va_G) (A : Nat → Prop) (cs : Nat → ClassId) (tt : Nat) (N : Nat) (ad : Nat → Nat) (g : Nat → va_E) (i : Nat) (hN : i + 436 ≤ N) (ac nz : Int) (hS : okState cs ad g i ac nz) (hac : 0 < ac) : zM l yX6_takeBack cX6_takeBack 1 none ({ frames := 3, cells := 0, slots := 0, locals := 180 } : Room) D A cs tt N ad g [.ref (ad i)] (rV0 N ad fun g' => (∃ ac' : Int, okState cs ad g' i ac' nz ∧ ac' = ac - 1) ∧ ∀ j, j < i ∨ i + 436 ≤ j → g' j = g j) := by
  obtain ⟨q1, q2, q3, ⟨qb, qf, q4, q5⟩, q6, ⟨qc, q7, q8⟩, q9, q10, qr, q11⟩ := id hS
  have hay1 : zAt ad (i) (ad i) := rfl
  have hay2 : zAt ad (i + 11) (ad (i + 11)) := rfl
  have hay3 : zAt ad (i + 12) (ad (i + 12)) := rfl
  have hay4 : zAt ad (i + 17) (ad (i + 17)) := rfl
  have hay5 : zAt ad (i + 1) (ad (i + 1)) := rfl
  have hay6 : zAt ad (i + 13) (ad (i + 13)) := rfl
  refine z_of (by decide) (Nat.le_of_ble_eq_true rfl) ?_
  intro p e s m below meth c C hr hlk hnm
  refine z_lv (lv' := [(0, .ref (ad i))]) [0] rfl ?_
  refine z_aload_n C 0 dX6_takeBack_0 rfl ?_
  refine z_get (v := .int (zI (ac))) C (lt_A0 hN rfl) hay1 q1 rfl inA_X6 2 (by decide) q_260 rfl rfl dX6_takeBack_1 ?_
  refine z_if_le (tgt := 33) C dX6_takeBack_4 (by decide) (by omega) (fun h => absurd h (by omega)) (fun _ => ?_)
  refine z_aload_n C 0 dX6_takeBack_7 rfl ?_
  refine z_dup C dX6_takeBack_8 rfl ?_
  refine z_get (v := .int (zI (ac))) C (lt_A0 hN rfl) hay1 q1 rfl inA_X6 2 (by decide) q_260 rfl rfl dX6_takeBack_9 ?_
  refine z_iconst (z := 1) C dX6_takeBack_12 rfl ?_
  refine z_isub C dX6_takeBack_13 ?_
  refine z_put (fs' := [.ref (ad (i + 1)), .ref (ad (i + 11)), .int (zI (ac - 1)), .ref (ad (i + 12)), .ref (ad (i + 13)), .ref (ad (i + 17))]) C (lt_A0 hN rfl) hay1 q1 tyX6 tyX6_ok nmX6 rfl inA_X6 2 (by decide) q_260 rfl rfl rfl rfl (Nat.le_of_ble_eq_true rfl) rfl dX6_takeBack_14 (fun gy7 egy8 => ?_)
  have hgy9 := up_s egy8
  refine z_aload_n C 0 dX6_takeBack_17 rfl ?_
  refine z_get (v := .ref (ad (i + 1))) C (lt_A0 hN rfl) hay1 hgy9 rfl inA_X6 0 (by decide) q_257 rfl rfl dX6_takeBack_18 ?_
  refine z_aload_n C 0 dX6_takeBack_21 rfl ?_
  refine z_get (v := .ref (ad (i + 11))) C (lt_A0 hN rfl) hay1 hgy9 rfl inA_X6 1 (by decide) q_259 rfl rfl dX6_takeBack_22 ?_
  refine z_aload_n C 0 dX6_takeBack_25 rfl ?_
  refine z_get (v := .int (zI (ac - 1))) C (lt_A0 hN rfl) hay1 hgy9 rfl inA_X6 2 (by decide) q_260 rfl rfl dX6_takeBack_26 ?_
  have hs2 : okState cs ad gy7 i (ac - 1) nz := okState.head (by omega) hS (fun j j1 => by rw [egy8, va_up_ne _ _ (by omega)]) hgy9
  obtain ⟨p1, p2, p3, ⟨pb, pf, p4, p5⟩, p6, -⟩ := id hs2
  refine z_aald C (lt_A (c := 11) hN rfl) hay2 p4 4 rfl ((ac - 1).toNat) (by omega) (by omega) (by decide) (p5 (ac - 1).toNat (by omega)).2 dX6_takeBack_29 ?_
  have hay10 : zAt ad (i + 18 + 10 * pf (ac - 1).toNat) (ad (i + 18 + 10 * pf (ac - 1).toNat)) := rfl
  have pk := (p5 (ac - 1).toNat (by omega)).1
  obtain ⟨tk, zk, ok, rk, hzk, htk, hwk⟩ := id p3
  refine z_cV (As := [.ref (ad (i + 18 + 10 * pf (ac - 1).toNat))]) (rest := []) (ci := 10) C (c_X8_copyFrom l D A cs tt N ad _ (i + 1) (by omega) p3 (i + 18 + 10 * pf (ac - 1).toNat) (by omega) (p6 (pf (ac - 1).toNat) (by omega)) (by omega)) (lt_A (c := 1) hN rfl) hay5 hwk.1 rfl rfl mv_yX8_copyFrom q_420 hd_yX8_copyFrom (by decide) (Nat.le_of_ble_eq_true rfl) (by decide) dX6_takeBack_30 rfl (kV0 fun gc hc => ?_)
  obtain ⟨⟨t1, z1, o1, r1, hz1, ht1, hn1, hw1⟩, hf1⟩ := hc
  have hs3 : okState cs ad gc i (ac - 1) nz := okState.now hs2 hf1 ⟨_, _, _, _, hz1, ht1, hw1⟩
  exact z_vret C hr hlk dX6_takeBack_33 (by decide) (by decide) ⟨rfl, rfl, rfl, ⟨_, hs3, rfl⟩, fun j j1 => by rw [hf1 _ (by omega)]; rw [egy8, va_up_ne _ _ (by omega)]⟩

set_option maxRecDepth 100000 in
set_option maxHeartbeats 4000000 in
theorem c_X6_beginWith (l : Launch) (D : va_G) (A : Nat → Prop) (cs : Nat → ClassId) (tt : Nat) (N : Nat) (ad : Nat → Nat) (g : Nat → va_E) (i : Nat) (hN : i + 436 ≤ N) (ac nz : Int) (hS : okState cs ad g i ac nz) (d : Nat) (hNd : d + 10 ≤ N) (hd : okWorld cs ad g d) (hid : i + 436 ≤ d ∨ d + 10 ≤ i) : zM l yX6_beginWith cX6_beginWith 2 none ({ frames := 3, cells := 0, slots := 0, locals := 180 } : Room) D A cs tt N ad g [.ref (ad i), .ref (ad d)] (rV0 N ad fun g' => okState cs ad g' i 0 0 ∧ ∀ j, j < i ∨ i + 436 ≤ j → g' j = g j) := by
  obtain ⟨q1, q2, q3, ⟨qb, qf, q4, q5⟩, q6, ⟨qc, q7, q8⟩, q9, q10, qr, q11⟩ := id hS
  have hay1 : zAt ad (i) (ad i) := rfl
  have hay2 : zAt ad (i + 11) (ad (i + 11)) := rfl
  have hay3 : zAt ad (i + 12) (ad (i + 12)) := rfl
  have hay4 : zAt ad (i + 17) (ad (i + 17)) := rfl
  have hay5 : zAt ad (i + 1) (ad (i + 1)) := rfl
  have hay6 : zAt ad (i + 13) (ad (i + 13)) := rfl
  refine z_of (by decide) (Nat.le_of_ble_eq_true rfl) ?_
  intro p e s m below meth c C hr hlk hnm
  refine z_lv (lv' := [(0, .ref (ad i)), (1, .ref (ad d))]) [0, 1] rfl ?_
  have hay7 : zAt ad (d) (ad d) := rfl
  obtain ⟨tk, zk, ok, rk, hzk, htk, hwk⟩ := id q3
  refine z_aload_n C 0 dX6_beginWith_0 rfl ?_
  refine z_get (v := .ref (ad (i + 1))) C (lt_A0 hN rfl) hay1 q1 rfl inA_X6 0 (by decide) q_257 rfl rfl dX6_beginWith_1 ?_
  refine z_aload_n C 1 dX6_beginWith_4 rfl ?_
  refine z_cV (As := [.ref (ad d)]) (rest := []) (ci := 10) C (c_X8_copyFrom l D A cs tt N ad _ (i + 1) (by omega) q3 d hNd hd (by omega)) (lt_A (c := 1) hN rfl) hay5 hwk.1 rfl rfl mv_yX8_copyFrom q_420 hd_yX8_copyFrom (by decide) (Nat.le_of_ble_eq_true rfl) (by decide) dX6_beginWith_5 rfl (kV0 fun gc hc => ?_)
  obtain ⟨⟨t1, z1, o1, r1, hz1, ht1, hn1, hw1⟩, hf1⟩ := hc
  have hs2 : okState cs ad gc i ac nz := okState.now hS hf1 ⟨_, _, _, _, hz1, ht1, hw1⟩
  obtain ⟨p1, p2, p3, -, p6, -, p9, ⟨nu, nv, nw, hn2, hn3, hn4⟩, -⟩ := id hs2
  refine z_aload_n C 0 dX6_beginWith_8 rfl ?_
  refine z_iconst (z := 0) C dX6_beginWith_9 rfl ?_
  refine z_put (fs' := [.ref (ad (i + 1)), .ref (ad (i + 11)), .int (zI (0)), .ref (ad (i + 12)), .ref (ad (i + 13)), .ref (ad (i + 17))]) C (lt_A0 hN rfl) hay1 p1 tyX6 tyX6_ok nmX6 rfl inA_X6 2 (by decide) q_260 rfl rfl rfl rfl (Nat.le_of_ble_eq_true rfl) rfl dX6_beginWith_10 (fun gy8 egy9 => ?_)
  have hgy10 := up_s egy9
  refine z_aload_n C 0 dX6_beginWith_13 rfl ?_
  refine z_get (v := .ref (ad (i + 13))) C (lt_A0 hN rfl) hay1 hgy10 rfl inA_X6 4 (by decide) q_264 rfl rfl dX6_beginWith_14 ?_
  refine z_iconst (z := 0) C dX6_beginWith_17 rfl ?_
  have hgy11 := up_n egy9 hn4.1 (ne_o (i := i) (c := 13) (d := 0) rfl)
  refine z_put (fs' := [.int (zI (0)), .ref (ad (i + 13 + 1)), .ref (ad (i + 13 + 2)), .ref (ad (i + 13 + 3))]) C (lt_A (c := 13) hN rfl) hay6 hgy11 tyX2 tyX2_ok nmX2 rfl inA_X2 0 (by decide) q_217 rfl rfl rfl rfl (Nat.le_of_ble_eq_true rfl) rfl dX6_beginWith_18 (fun gy12 egy13 => ?_)
  have hgy14 := up_s egy13
  have hgy15 := up_n egy13 hgy10 (ne_o (i := i) (c := 0) (d := 13) rfl)
  have hs3 : okState cs ad (va_up gc i (stC ad i 0)) i 0 nz := okState.head (by decide) hs2 (fun j j1 => va_up_ne _ _ j1) (va_up_self _ _ _)
  have hs4 : okState cs ad gy12 i 0 0 := okState.notes hs3 (fun j j1 => by
      by_cases e : j = i
      · rw [e, va_up_self]; exact hgy15
      · rw [va_up_ne _ _ e]; rw [egy13, va_up_ne _ _ (by omega)]; rw [egy9, va_up_ne _ _ (by omega)]) ⟨nu, nv, nw, by decide, hn3, hgy14, by
      rw [egy13, va_up_ne _ _ (by omega)]; rw [egy9, va_up_ne _ _ (by omega)]; exact hn4.2.1, by
      rw [egy13, va_up_ne _ _ (by omega)]; rw [egy9, va_up_ne _ _ (by omega)]; exact hn4.2.2.1, by
      rw [egy13, va_up_ne _ _ (by omega)]; rw [egy9, va_up_ne _ _ (by omega)]; exact hn4.2.2.2⟩
  exact z_vret C hr hlk dX6_beginWith_21 (by decide) (by decide) ⟨rfl, rfl, rfl, hs4, fun j j1 => by rw [egy13, va_up_ne _ _ (by omega)]; rw [egy9, va_up_ne _ _ (by omega)]; rw [hf1 _ (by omega)]⟩

