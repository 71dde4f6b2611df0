section ZQ
variable {p : Program} {l : Launch} {e : Env} {R : Room} {s : State} {m : MethodId} {args : Array Value} {below : List Frame} {meth : Method} {c : Code} {Q : State → Prop} {D : va_G} {A : Nat → Prop} {cs : Nat → ClassId} {tt : Nat} {cc : ByteArray} {nL : Nat} {own : String} {N : Nat} {ad : Nat → Nat} {g : Nat → va_E} {k n pc : Nat} {lv lv' : List (Nat × Value)} {rest : List Value}
theorem z_aaldA (C : zC p s m args c cc nL own D A cs tt) {i a : Nat} (hi : i < N) (ha : ad i = a) {cA : ClassId} {ty : FieldType} {M : Nat} {r : Nat → Option Nat} (hg : g i = rA cA M r) (t : Nat) (ht : (tyL cs)[t]? = some (cA, .array ty)) (j : Nat) {z : Int} (hz : z = (j : Int)) (hj : j < M) (hM : M ≤ 2147483647) {v : Nat} (hv : r j = some v) (hdg : decode cc pc = .ok (.aaload, 1)) (kk : zV p l e R s m args below meth c Q D A nL N ad g k n (pc + 1) (lv) (.ref v :: rest)) : zV p l e R s m args below meth c Q D A nL N ad g k n (pc) (lv) (.int (zI z) :: .ref a :: rest) := by
  subst hz; subst ha
  refine fun H locs ls hP hD hS hl => ?_
  have hin : vp_in (zI (j : Int)) M := zI_in hj hM
  have hcl : (zI (j : Int)).toNatClampNeg = j := zI_clN (by omega)
  have hlt : (zI (j : Int)).toNatClampNeg < M := by rw [hcl]; exact hj
  exact W.aald (v := va_rf (r (zI (j : Int)).toNatClampNeg)) (ty := .array ty) C.1 C.2.1 (show H[ad i]? = some (arrV cA M (fun j => va_rf (r j))) from hP i (ad i, .inl (cA, M, .inr (.inr (.inr (.inr r))))) ((wl_at hi).trans (by rw [hg]))) ((C.2.2.2.2.2.1.2 t _ ht).1 M (fun j => va_rf (r j))) rfl (fun q => by cases q) (by show ¬ (zI (j : Int) < 0 ∨ (arrV _ _ _).slots.size ≤ _); rw [arrV_size]; exact hin) (by show (arrV _ _ _).slots[_]? = _; rw [arrV_read _ _ hlt]) rfl rfl hdg (by rw [hcl, hv]; exact kk H locs ls hP hD hS hl)
end ZQ
abbrev okGss (cs : Nat → ClassId) (ad : Nat → Nat) (g : Nat → va_E) (i : Nat) : Prop := ∃ (mn fi : Int) (u : Nat → Int) (q : Nat → Nat → Int), (∀ k, k < 4 → 0 ≤ u k ∧ u k ≤ 1200) ∧ isGss cs ad g i mn fi u q
theorem okGss.mv {cs : Nat → ClassId} {ad ad' : Nat → Nat} {g g' : Nat → va_E} {i : Nat} (hA : ∀ j, i ≤ j → j < i + 7 → ad' j = ad j) (hG : ∀ j, i ≤ j → j < i + 7 → g' j = g j) (h : okGss cs ad g i) : okGss cs ad' g' i := by
  obtain ⟨mn, fi, u, q, h1, h2⟩ := h
  exact ⟨mn, fi, u, q, h1, h2.mv hA hG⟩
abbrev okLike (cs : Nat → ClassId) (ad : Nat → Nat) (g : Nat → va_E) (i : Nat) : Prop := ∃ r : Nat → Int, isLike cs ad g i r
theorem okLike.mv {cs : Nat → ClassId} {ad ad' : Nat → Nat} {g g' : Nat → va_E} {i : Nat} (hA : ∀ j, i ≤ j → j < i + 2 → ad' j = ad j) (hG : ∀ j, i ≤ j → j < i + 2 → g' j = g j) (h : okLike cs ad g i) : okLike cs ad' g' i := by
  obtain ⟨r, h1⟩ := h
  exact ⟨r, h1.mv hA hG⟩

set_option maxRecDepth 100000 in
set_option maxHeartbeats 4000000 in
theorem c_X0_clear (l : Launch) (D : va_G) (A : Nat → Prop) (cs : Nat → ClassId) (tt : Nat) (N : Nat) (ad : Nat → Nat) (g : Nat → va_E) (a : Nat) (hN : a + 7 ≤ N) (ha : okGss cs ad g a) : zM l yX0_clear cX0_clear 2 none ({ frames := 1, cells := 0, slots := 0, locals := 60 } : Room) D A cs tt N ad g [.ref (ad a)] (rV0 N ad fun g' => okGss cs ad g' a ∧ ∀ j, j < a ∨ a + 7 ≤ j → g' j = g j) := by
  obtain ⟨mn, fi, u, q, h1, h2, h3, ⟨rwv, h4, h5⟩, h6⟩ := id ha
  have hay1 : zAt ad (a) (ad a) := rfl
  have hay2 : zAt ad (a + 1) (ad (a + 1)) := rfl
  have hay3 : zAt ad (a + 2) (ad (a + 2)) := rfl
  refine z_of (by decide) (Nat.le_of_ble_eq_true rfl) ?_
  intro p e s m below meth c C hr hlk hnm
  refine z_lv (lv' := [(0, .ref (ad a))]) [0] rfl ?_
  refine z_aload_n C 0 dX0_clear_0 rfl ?_
  refine z_iconst (z := 0) C dX0_clear_1 rfl ?_
  refine z_put (fs' := [.int (zI (0)), .int (zI (fi)), .ref (ad (a + 1)), .ref (ad (a + 2))]) C (lt_A0 hN rfl) hay1 h2 tyX0 tyX0_ok nmX0 rfl inA_X0 0 (by decide) q_291 rfl rfl rfl rfl (Nat.le_of_ble_eq_true rfl) rfl dX0_clear_2 (fun gy4 egy5 => ?_)
  have hgy6 := up_s egy5
  refine z_aload_n C 0 dX0_clear_5 rfl ?_
  refine z_iconst (z := -1) C dX0_clear_6 rfl ?_
  refine z_put (fs' := [.int (zI (0)), .int (zI (-1)), .ref (ad (a + 1)), .ref (ad (a + 2))]) C (lt_A0 hN rfl) hay1 hgy6 tyX0 tyX0_ok nmX0 rfl inA_X0 1 (by decide) q_293 rfl rfl rfl rfl (Nat.le_of_ble_eq_true rfl) rfl dX0_clear_7 (fun gy7 egy8 => ?_)
  have hgy9 := up_s egy8
  refine z_iconst (z := 0) C dX0_clear_10 rfl ?_
  refine z_istore_n (lv' := [(1, .int (zI (0))), (0, .ref (ad a))]) C dX0_clear_11 rfl (by decide) rfl ?_
  refine z_iload_n C 0 dX0_clear_12 rfl ?_
  refine z_aload_n C 1 dX0_clear_13 rfl ?_
  refine z_get (v := .ref (ad (a + 1))) C (lt_A0 hN rfl) hay1 hgy9 rfl inA_X0 2 (by decide) q_295 rfl rfl dX0_clear_14 ?_
  have hgy10 := up_n egy5 h3 (ne_o (i := a) (c := 1) (d := 0) rfl)
  have hgy11 := up_n egy8 hgy10 (ne_o (i := a) (c := 1) (d := 0) rfl)
  refine z_alen (z := 4) C (lt_A (c := 1) hN rfl) hay2 hgy11 1 rfl rfl dX0_clear_17 ?_
  refine z_icmp_ge (tgt := 34) C dX0_clear_18 (by decide) (by omega) (by omega) (fun h => absurd h (by omega)) (fun _ => ?_)
  refine z_aload_n C 1 dX0_clear_21 rfl ?_
  refine z_get (v := .ref (ad (a + 1))) C (lt_A0 hN rfl) hay1 hgy9 rfl inA_X0 2 (by decide) q_295 rfl rfl dX0_clear_22 ?_
  refine z_iload_n C 0 dX0_clear_25 rfl ?_
  refine z_iconst (z := 0) C dX0_clear_26 rfl ?_
  refine z_iast C (lt_A (c := 1) hN rfl) hay2 hgy11 (0) (by omega) (by omega) (by decide) dX0_clear_27 (fun gy12 egy13 => ?_)
  have hgy14 := up_s egy13
  refine z_iinc (z := 1) (lv' := [(1, .int (zI (1))), (0, .ref (ad a))]) (j := 0) C dX0_clear_28 rfl (congrArg zI (by omega)) (by decide) rfl ?_
  refine z_goto (tgt := 12) C dX0_clear_31 (by decide) ?_
  refine z_iload_n C 0 dX0_clear_12 rfl ?_
  refine z_aload_n C 1 dX0_clear_13 rfl ?_
  have hgy15 := up_n egy13 hgy9 (ne_o (i := a) (c := 0) (d := 1) rfl)
  refine z_get (v := .ref (ad (a + 1))) C (lt_A0 hN rfl) hay1 hgy15 rfl inA_X0 2 (by decide) q_295 rfl rfl dX0_clear_14 ?_
  refine z_alen (z := 4) C (lt_A (c := 1) hN rfl) hay2 hgy14 1 rfl rfl dX0_clear_17 ?_
  refine z_icmp_ge (tgt := 34) C dX0_clear_18 (by decide) (by omega) (by omega) (fun h => absurd h (by omega)) (fun _ => ?_)
  refine z_aload_n C 1 dX0_clear_21 rfl ?_
  refine z_get (v := .ref (ad (a + 1))) C (lt_A0 hN rfl) hay1 hgy15 rfl inA_X0 2 (by decide) q_295 rfl rfl dX0_clear_22 ?_
  refine z_iload_n C 0 dX0_clear_25 rfl ?_
  refine z_iconst (z := 0) C dX0_clear_26 rfl ?_
  refine z_iast C (lt_A (c := 1) hN rfl) hay2 hgy14 (1) (by omega) (by omega) (by decide) dX0_clear_27 (fun gy16 egy17 => ?_)
  have hgy18 := up_s egy17
  refine z_iinc (z := 2) (lv' := [(1, .int (zI (2))), (0, .ref (ad a))]) (j := 0) C dX0_clear_28 rfl (congrArg zI (by omega)) (by decide) rfl ?_
  refine z_goto (tgt := 12) C dX0_clear_31 (by decide) ?_
  refine z_iload_n C 0 dX0_clear_12 rfl ?_
  refine z_aload_n C 1 dX0_clear_13 rfl ?_
  have hgy19 := up_n egy17 hgy15 (ne_o (i := a) (c := 0) (d := 1) rfl)
  refine z_get (v := .ref (ad (a + 1))) C (lt_A0 hN rfl) hay1 hgy19 rfl inA_X0 2 (by decide) q_295 rfl rfl dX0_clear_14 ?_
  refine z_alen (z := 4) C (lt_A (c := 1) hN rfl) hay2 hgy18 1 rfl rfl dX0_clear_17 ?_
  refine z_icmp_ge (tgt := 34) C dX0_clear_18 (by decide) (by omega) (by omega) (fun h => absurd h (by omega)) (fun _ => ?_)
  refine z_aload_n C 1 dX0_clear_21 rfl ?_
  refine z_get (v := .ref (ad (a + 1))) C (lt_A0 hN rfl) hay1 hgy19 rfl inA_X0 2 (by decide) q_295 rfl rfl dX0_clear_22 ?_
  refine z_iload_n C 0 dX0_clear_25 rfl ?_
  refine z_iconst (z := 0) C dX0_clear_26 rfl ?_
  refine z_iast C (lt_A (c := 1) hN rfl) hay2 hgy18 (2) (by omega) (by omega) (by decide) dX0_clear_27 (fun gy20 egy21 => ?_)
  have hgy22 := up_s egy21
  refine z_iinc (z := 3) (lv' := [(1, .int (zI (3))), (0, .ref (ad a))]) (j := 0) C dX0_clear_28 rfl (congrArg zI (by omega)) (by decide) rfl ?_
  refine z_goto (tgt := 12) C dX0_clear_31 (by decide) ?_
  refine z_iload_n C 0 dX0_clear_12 rfl ?_
  refine z_aload_n C 1 dX0_clear_13 rfl ?_
  have hgy23 := up_n egy21 hgy19 (ne_o (i := a) (c := 0) (d := 1) rfl)
  refine z_get (v := .ref (ad (a + 1))) C (lt_A0 hN rfl) hay1 hgy23 rfl inA_X0 2 (by decide) q_295 rfl rfl dX0_clear_14 ?_
  refine z_alen (z := 4) C (lt_A (c := 1) hN rfl) hay2 hgy22 1 rfl rfl dX0_clear_17 ?_
  refine z_icmp_ge (tgt := 34) C dX0_clear_18 (by decide) (by omega) (by omega) (fun h => absurd h (by omega)) (fun _ => ?_)
  refine z_aload_n C 1 dX0_clear_21 rfl ?_
  refine z_get (v := .ref (ad (a + 1))) C (lt_A0 hN rfl) hay1 hgy23 rfl inA_X0 2 (by decide) q_295 rfl rfl dX0_clear_22 ?_
  refine z_iload_n C 0 dX0_clear_25 rfl ?_
  refine z_iconst (z := 0) C dX0_clear_26 rfl ?_
  refine z_iast C (lt_A (c := 1) hN rfl) hay2 hgy22 (3) (by omega) (by omega) (by decide) dX0_clear_27 (fun gy24 egy25 => ?_)
  have hgy26 := up_s egy25
  refine z_iinc (z := 4) (lv' := [(1, .int (zI (4))), (0, .ref (ad a))]) (j := 0) C dX0_clear_28 rfl (congrArg zI (by omega)) (by decide) rfl ?_
  refine z_goto (tgt := 12) C dX0_clear_31 (by decide) ?_
  refine z_iload_n C 0 dX0_clear_12 rfl ?_
  refine z_aload_n C 1 dX0_clear_13 rfl ?_
  have hgy27 := up_n egy25 hgy23 (ne_o (i := a) (c := 0) (d := 1) rfl)
  refine z_get (v := .ref (ad (a + 1))) C (lt_A0 hN rfl) hay1 hgy27 rfl inA_X0 2 (by decide) q_295 rfl rfl dX0_clear_14 ?_
  refine z_alen (z := 4) C (lt_A (c := 1) hN rfl) hay2 hgy26 1 rfl rfl dX0_clear_17 ?_
  refine z_icmp_ge (tgt := 34) C dX0_clear_18 (by decide) (by omega) (by omega) (fun _ => ?_) (fun h => absurd h (by omega))
  have hgy28 := up_n egy5 h4 (ne_o (i := a) (c := 2) (d := 0) rfl)
  have hgy29 := up_n egy8 hgy28 (ne_o (i := a) (c := 2) (d := 0) rfl)
  have hgy30 := up_n egy13 hgy29 (ne_o (i := a) (c := 2) (d := 1) rfl)
  have hgy31 := up_n egy17 hgy30 (ne_o (i := a) (c := 2) (d := 1) rfl)
  have hgy32 := up_n egy21 hgy31 (ne_o (i := a) (c := 2) (d := 1) rfl)
  have hgy33 := up_n egy25 hgy32 (ne_o (i := a) (c := 2) (d := 1) rfl)
  have hu : ∀ k, k < 4 → 0 ≤ (uZ (uZ (uZ (uZ (u) (0) (0)) (1) (0)) (2) (0)) (3) (0)) k ∧ (uZ (uZ (uZ (uZ (u) (0) (0)) (1) (0)) (2) (0)) (3) (0)) k ≤ 1200 := fun k hk => by rcases (show k = 0 ∨ k = 1 ∨ k = 2 ∨ k = 3 by omega) with rfl | rfl | rfl | rfl <;> simp [uZ]
  exact z_vret C hr hlk dX0_clear_34 (by decide) (by decide) ⟨rfl, rfl, rfl, ⟨_, _, _, q, hu, hgy27, hgy26, ⟨rwv, hgy33, h5⟩, fun k hk => by rw [egy25, va_up_ne _ _ (by omega)]; rw [egy21, va_up_ne _ _ (by omega)]; rw [egy17, va_up_ne _ _ (by omega)]; rw [egy13, va_up_ne _ _ (by omega)]; rw [egy8, va_up_ne _ _ (by omega)]; rw [egy5, va_up_ne _ _ (by omega)]; exact h6 k hk⟩, fun j j1 => by rw [egy25, va_up_ne _ _ (by omega)]; rw [egy21, va_up_ne _ _ (by omega)]; rw [egy17, va_up_ne _ _ (by omega)]; rw [egy13, va_up_ne _ _ (by omega)]; rw [egy8, va_up_ne _ _ (by omega)]; rw [egy5, va_up_ne _ _ (by omega)]⟩

set_option maxRecDepth 100000 in
set_option maxHeartbeats 4000000 in
theorem c_X0_add (l : Launch) (D : va_G) (A : Nat → Prop) (cs : Nat → ClassId) (tt : Nat) (N : Nat) (ad : Nat → Nat) (g : Nat → va_E) (a : Nat) (hN : a + 7 ≤ N) (ha : okGss cs ad g a) (z : Int) (hz : -2147483648 ≤ z ∧ z ≤ 2147483647) : zM l yX0_add cX0_add 2 none ({ frames := 1, cells := 0, slots := 0, locals := 60 } : Room) D A cs tt N ad g [.ref (ad a), .int (zI (z))] (rV0 N ad fun g' => okGss cs ad g' a ∧ ∀ j, j < a ∨ a + 7 ≤ j → g' j = g j) := by
  obtain ⟨mn, fi, u, q, h1, h2, h3, ⟨rwv, h4, h5⟩, h6⟩ := id ha
  have hay1 : zAt ad (a) (ad a) := rfl
  have hay2 : zAt ad (a + 1) (ad (a + 1)) := rfl
  have hay3 : zAt ad (a + 2) (ad (a + 2)) := rfl
  refine z_of (by decide) (Nat.le_of_ble_eq_true rfl) ?_
  intro p e s m below meth c C hr hlk hnm
  refine z_lv (lv' := [(0, .ref (ad a)), (1, .int (zI (z)))]) [0, 1] rfl ?_
  refine z_aload_n C 0 dX0_add_0 rfl ?_
  refine z_get (v := .int (zI (mn))) C (lt_A0 hN rfl) hay1 h2 rfl inA_X0 0 (by decide) q_291 rfl rfl dX0_add_1 ?_
  obtain ⟨xy4, exy5, hxy6⟩ := zI_of (zI (mn))
  rw [exy5]
  refine z_if_ne (tgt := 12) C dX0_add_4 (by decide) (by omega) (fun hby7 => ?_) (fun hby7 => ?_)
  · refine z_aload_n C 0 dX0_add_12 rfl ?_
    refine z_dup C dX0_add_13 rfl ?_
    refine z_get (v := .int (zI (mn))) C (lt_A0 hN rfl) hay1 h2 rfl inA_X0 0 (by decide) q_291 rfl rfl dX0_add_14 ?_
    refine z_iconst (z := 1) C dX0_add_17 rfl ?_
    refine z_iadd C dX0_add_18 ?_
    refine z_put (fs' := [.int (zI (mn + 1)), .int (zI (fi)), .ref (ad (a + 1)), .ref (ad (a + 2))]) C (lt_A0 hN rfl) hay1 h2 tyX0 tyX0_ok nmX0 rfl inA_X0 0 (by decide) q_291 rfl rfl rfl rfl (Nat.le_of_ble_eq_true rfl) rfl dX0_add_19 (fun gy8 egy9 => ?_)
    have hgy10 := up_s egy9
    have hgy11 := up_n egy9 h3 (ne_o (i := a) (c := 1) (d := 0) rfl)
    have hgy12 := up_n egy9 h4 (ne_o (i := a) (c := 2) (d := 0) rfl)
    exact z_vret C hr hlk dX0_add_22 (by decide) (by decide) ⟨rfl, rfl, rfl, ⟨_, _, _, q, h1, hgy10, hgy11, ⟨rwv, hgy12, h5⟩, fun k hk => by rw [egy9, va_up_ne _ _ (by omega)]; exact h6 k hk⟩, fun j j1 => by rw [egy9, va_up_ne _ _ (by omega)]⟩
  · refine z_aload_n C 0 dX0_add_7 rfl ?_
    refine z_iload_n C 1 dX0_add_8 rfl ?_
    refine z_put (fs' := [.int (zI (mn)), .int (zI (z)), .ref (ad (a + 1)), .ref (ad (a + 2))]) C (lt_A0 hN rfl) hay1 h2 tyX0 tyX0_ok nmX0 rfl inA_X0 1 (by decide) q_293 rfl rfl rfl rfl (Nat.le_of_ble_eq_true rfl) rfl dX0_add_9 (fun gy13 egy14 => ?_)
    have hgy15 := up_s egy14
    refine z_aload_n C 0 dX0_add_12 rfl ?_
    refine z_dup C dX0_add_13 rfl ?_
    refine z_get (v := .int (zI (mn))) C (lt_A0 hN rfl) hay1 hgy15 rfl inA_X0 0 (by decide) q_291 rfl rfl dX0_add_14 ?_
    refine z_iconst (z := 1) C dX0_add_17 rfl ?_
    refine z_iadd C dX0_add_18 ?_
    refine z_put (fs' := [.int (zI (mn + 1)), .int (zI (z)), .ref (ad (a + 1)), .ref (ad (a + 2))]) C (lt_A0 hN rfl) hay1 hgy15 tyX0 tyX0_ok nmX0 rfl inA_X0 0 (by decide) q_291 rfl rfl rfl rfl (Nat.le_of_ble_eq_true rfl) rfl dX0_add_19 (fun gy16 egy17 => ?_)
    have hgy18 := up_s egy17
    have hgy19 := up_n egy14 h3 (ne_o (i := a) (c := 1) (d := 0) rfl)
    have hgy20 := up_n egy17 hgy19 (ne_o (i := a) (c := 1) (d := 0) rfl)
    have hgy21 := up_n egy14 h4 (ne_o (i := a) (c := 2) (d := 0) rfl)
    have hgy22 := up_n egy17 hgy21 (ne_o (i := a) (c := 2) (d := 0) rfl)
    exact z_vret C hr hlk dX0_add_22 (by decide) (by decide) ⟨rfl, rfl, rfl, ⟨_, _, _, q, h1, hgy18, hgy20, ⟨rwv, hgy22, h5⟩, fun k hk => by rw [egy17, va_up_ne _ _ (by omega)]; rw [egy14, va_up_ne _ _ (by omega)]; exact h6 k hk⟩, fun j j1 => by rw [egy17, va_up_ne _ _ (by omega)]; rw [egy14, va_up_ne _ _ (by omega)]⟩

set_option maxRecDepth 100000 in
set_option maxHeartbeats 4000000 in
theorem c_X0_see (l : Launch) (D : va_G) (A : Nat → Prop) (cs : Nat → ClassId) (tt : Nat) (N : Nat) (ad : Nat → Nat) (g : Nat → va_E) (a : Nat) (hN : a + 7 ≤ N) (ha : okGss cs ad g a) (z : Int) (hzs : 0 ≤ z ∧ z ≤ 3) (z1 : Int) (hz1 : -2147483648 ≤ z1 ∧ z1 ≤ 2147483647) : zM l yX0_see cX0_see 5 none ({ frames := 1, cells := 0, slots := 0, locals := 60 } : Room) D A cs tt N ad g [.ref (ad a), .int (zI (z)), .int (zI (z1))] (rV0 N ad fun g' => okGss cs ad g' a ∧ ∀ j, j < a ∨ a + 7 ≤ j → g' j = g j) := by
  obtain ⟨mn, fi, u, q, h1, h2, h3, ⟨rwv, h4, h5⟩, h6⟩ := id ha
  have hay1 : zAt ad (a) (ad a) := rfl
  have hay2 : zAt ad (a + 1) (ad (a + 1)) := rfl
  have hay3 : zAt ad (a + 2) (ad (a + 2)) := rfl
  refine z_of (by decide) (Nat.le_of_ble_eq_true rfl) ?_
  intro p e s m below meth c C hr hlk hnm
  refine z_lv (lv' := [(0, .ref (ad a)), (1, .int (zI (z))), (2, .int (zI (z1)))]) [0, 1, 2] rfl ?_
  have huz := h1 (z).toNat (by omega)
  refine z_aload_n C 0 dX0_see_0 rfl ?_
  refine z_get (v := .ref (ad (a + 2))) C (lt_A0 hN rfl) hay1 h2 rfl inA_X0 3 (by decide) q_297 rfl rfl dX0_see_1 ?_
  refine z_iload_n C 1 dX0_see_4 rfl ?_
  refine z_aaldA C (lt_A (c := 2) hN rfl) hay3 h4 6 rfl (z).toNat (by omega) (by omega) (by decide) (h5 (z).toNat (by omega)) dX0_see_5 ?_
  have hay4 : zAt ad (a + 3 + (z).toNat) (ad (a + 3 + (z).toNat)) := rfl
  refine z_astore_n (lv' := [(3, .ref (ad (a + 3 + (z).toNat))), (0, .ref (ad a)), (1, .int (zI (z))), (2, .int (zI (z1)))]) C dX0_see_6 rfl (by decide) rfl ?_
  refine z_iconst (z := 0) C dX0_see_7 rfl ?_
  refine z_istore (lv' := [(4, .int (zI (0))), (3, .ref (ad (a + 3 + (z).toNat))), (0, .ref (ad a)), (1, .int (zI (z))), (2, .int (zI (z1)))]) C dX0_see_8 (by decide) rfl ?_
  have lp : ∀ (n9 : Nat) (k : Int) (g1 : Nat → va_E), (1200 - k).toNat = n9 → (g1 = g) → (0 ≤ k ∧ k ≤ 1200) → zV p l e ({ frames := 1, cells := 0, slots := 0, locals := 60 } : Room) s m ([.ref (ad a), .int (zI (z)), .int (zI (z1))] : List Value).toArray below meth c (MQ below (zPost D A (rV0 N ad fun g' => okGss cs ad g' a ∧ ∀ j, j < a ∨ a + 7 ≤ j → g' j = g j)) ([.ref (ad a), .int (zI (z)), .int (zI (z1))] : List Value).toArray s ({ frames := 1, cells := 0, slots := 0, locals := 60 } : Room).cells ({ frames := 1, cells := 0, slots := 0, locals := 60 } : Room).slots A) D A 5 (N) ad g1 (0) (0) 10 [(4, .int (zI (k))), (3, .ref (ad (a + 3 + (z).toNat))), (0, .ref (ad a)), (1, .int (zI (z))), (2, .int (zI (z1)))] [] := by
    intro n9
    induction n9 using Nat.strongRecOn with
    | ind n9 ih =>
      intro k g1 hm9 hg1 hk9
      subst hg1
      have hay5 : zAt ad (a) (ad a) := rfl
      have hay6 : zAt ad (a + 1) (ad (a + 1)) := rfl
      have hay7 : zAt ad (a + 2) (ad (a + 2)) := rfl
      have hay8 : zAt ad (a + 3 + (z).toNat) (ad (a + 3 + (z).toNat)) := rfl
      refine z_iload C 0 dX0_see_10 rfl ?_
      refine z_aload_n C 2 dX0_see_12 rfl ?_
      refine z_get (v := .ref (ad (a + 1))) C (lt_A0 hN rfl) hay5 h2 rfl inA_X0 2 (by decide) q_295 rfl rfl dX0_see_13 ?_
      refine z_iload_n C 3 dX0_see_16 rfl ?_
      refine z_iald C (lt_A (c := 1) hN rfl) hay6 h3 ((z).toNat) (by omega) (by omega) (by decide) dX0_see_17 ?_
      refine z_icmp_ge (tgt := 36) C dX0_see_18 (by decide) (by omega) (by omega) (fun hby9 => ?_) (fun hby9 => ?_)
      · refine z_aload_n C 2 dX0_see_36 rfl ?_
        refine z_get (v := .ref (ad (a + 1))) C (lt_A0 hN rfl) hay5 h2 rfl inA_X0 2 (by decide) q_295 rfl rfl dX0_see_37 ?_
        refine z_iload_n C 3 dX0_see_40 rfl ?_
        refine z_iald C (lt_A (c := 1) hN rfl) hay6 h3 ((z).toNat) (by omega) (by omega) (by decide) dX0_see_41 ?_
        refine z_aload_n C 1 dX0_see_42 rfl ?_
        refine z_alen (z := 1200) C (by omega) hay8 (h6 (z).toNat (by omega)) 1 rfl rfl dX0_see_43 ?_
        refine z_icmp_ge (tgt := 66) C dX0_see_44 (by decide) (by omega) (by omega) (fun hby10 => ?_) (fun hby10 => ?_)
        · exact z_vret C hr hlk dX0_see_66 (by decide) (by decide) ⟨rfl, rfl, rfl, ha, fun j _ => rfl⟩
        · refine z_aload_n C 1 dX0_see_47 rfl ?_
          refine z_aload_n C 2 dX0_see_48 rfl ?_
          refine z_get (v := .ref (ad (a + 1))) C (lt_A0 hN rfl) hay5 h2 rfl inA_X0 2 (by decide) q_295 rfl rfl dX0_see_49 ?_
          refine z_iload_n C 3 dX0_see_52 rfl ?_
          refine z_iald C (lt_A (c := 1) hN rfl) hay6 h3 ((z).toNat) (by omega) (by omega) (by decide) dX0_see_53 ?_
          refine z_iload_n C 4 dX0_see_54 rfl ?_
          refine z_iast C (by omega) hay8 (h6 (z).toNat (by omega)) ((u ((z).toNat)).toNat) (by omega) (by omega) (by decide) dX0_see_55 (fun gy11 egy12 => ?_)
          have hgy13 := up_s egy12
          refine z_aload_n C 2 dX0_see_56 rfl ?_
          have hgy14 := up_n egy12 h2 (by omega)
          refine z_get (v := .ref (ad (a + 1))) C (lt_A0 hN rfl) hay5 hgy14 rfl inA_X0 2 (by decide) q_295 rfl rfl dX0_see_57 ?_
          refine z_iload_n C 3 dX0_see_60 rfl ?_
          refine z_dup2 C dX0_see_61 rfl rfl ?_
          have hgy15 := up_n egy12 h3 (by omega)
          refine z_iald C (lt_A (c := 1) hN rfl) hay6 hgy15 ((z).toNat) (by omega) (by omega) (by decide) dX0_see_62 ?_
          refine z_iconst (z := 1) C dX0_see_63 rfl ?_
          refine z_iadd C dX0_see_64 ?_
          refine z_iast C (lt_A (c := 1) hN rfl) hay6 hgy15 ((z).toNat) (by omega) (by omega) (by decide) dX0_see_65 (fun gy16 egy17 => ?_)
          have hgy18 := up_s egy17
          have hgy19 := up_n egy17 hgy14 (ne_o (i := a) (c := 0) (d := 1) rfl)
          have hgy20 := up_n egy12 h4 (by omega)
          have hgy21 := up_n egy17 hgy20 (ne_o (i := a) (c := 2) (d := 1) rfl)
          have hgy22 := up_n egy17 hgy13 (by omega)
          have hu : ∀ k, k < 4 → 0 ≤ (uZ (u) ((z).toNat) ((u ((z).toNat)) + 1)) k ∧ (uZ (u) ((z).toNat) ((u ((z).toNat)) + 1)) k ≤ 1200 := fun k hk => by
              by_cases e : k = (z).toNat
              · subst e; rw [uZ_s]; omega
              · rw [uZ_n _ _ e]; exact h1 k hk
          have hq6 : ∀ k, k < 4 → gy16 (a + 3 + k) = iA cs 1200 (if k = (z).toNat then uZ (q (z).toNat) ((u ((z).toNat)).toNat) (z1) else q k) := fun k hk => by
              by_cases e : k = (z).toNat
              · subst e; rw [if_pos rfl]; exact hgy22
              · rw [if_neg e]; rw [egy17, va_up_ne _ _ (by omega)]; rw [egy12, va_up_ne _ _ (by omega)]; exact h6 k hk
          exact z_vret C hr hlk dX0_see_66 (by decide) (by decide) ⟨rfl, rfl, rfl, ⟨_, _, _, _, hu, hgy19, hgy18, ⟨rwv, hgy21, h5⟩, hq6⟩, fun j j1 => by rw [egy17, va_up_ne _ _ (by omega)]; rw [egy12, va_up_ne _ _ (by omega)]⟩
      · refine z_aload_n C 1 dX0_see_21 rfl ?_
        refine z_iload C 0 dX0_see_22 rfl ?_
        refine z_iald C (by omega) hay8 (h6 (z).toNat (by omega)) ((k).toNat) (by omega) (by omega) (by decide) dX0_see_24 ?_
        refine z_iload_n C 4 dX0_see_25 rfl ?_
        obtain ⟨xy23, exy24, hxy25⟩ := zI_of (zI ((q (z).toNat) ((k).toNat)))
        rw [exy24]
        refine z_icmp_ne (tgt := 30) C dX0_see_26 (by decide) (by omega) (by omega) (fun hby26 => ?_) (fun hby26 => ?_)
        · refine z_iinc (z := k + 1) (lv' := [(4, .int (zI (k + 1))), (3, .ref (ad (a + 3 + (z).toNat))), (0, .ref (ad a)), (1, .int (zI (z))), (2, .int (zI (z1)))]) (j := 0) C dX0_see_30 rfl rfl (by decide) rfl ?_
          refine z_goto (tgt := 10) C dX0_see_33 (by decide) ?_
          refine z_lv (lv' := [(4, .int (zI (k + 1))), (3, .ref (ad (a + 3 + (z).toNat))), (0, .ref (ad a)), (1, .int (zI (z))), (2, .int (zI (z1)))]) [0, 1, 2, 3, 4] rfl ?_
          exact ih _ (by omega) (k + 1) _ rfl rfl (by omega)
        · exact z_vret C hr hlk dX0_see_29 (by decide) (by decide) ⟨rfl, rfl, rfl, ha, fun j _ => rfl⟩
  refine z_lv (lv' := [(4, .int (zI (0))), (3, .ref (ad (a + 3 + (z).toNat))), (0, .ref (ad a)), (1, .int (zI (z))), (2, .int (zI (z1)))]) [0, 1, 2, 3, 4] rfl ?_
  exact lp _ 0 _ rfl rfl (by omega)

set_option maxRecDepth 100000 in
set_option maxHeartbeats 4000000 in
theorem c_X1_longestRow (l : Launch) (D : va_G) (A : Nat → Prop) (cs : Nat → ClassId) (tt : Nat) (N : Nat) (ad : Nat → Nat) (g : Nat → va_E) (c0 : Nat) (hNc : c0 + 2 ≤ N) (r0 : Nat → Int) (hc : isLike cs ad g c0 r0) (a : Nat) (hN : a + 2 ≤ N) (sz ro : Int) (r : Nat → Int) (hz : 0 ≤ sz ∧ sz ≤ 12) (ha : isPack cs ad g a sz ro r) (a2 : Nat) (hN2 : a2 + 2 ≤ N) (sz2 ro2 : Int) (r2 : Nat → Int) (hz2 : 0 ≤ sz2 ∧ sz2 ≤ 12) (ha2 : isPack cs ad g a2 sz2 ro2 r2) (hca : c0 + 2 ≤ a ∨ a + 2 ≤ c0) (hca2 : c0 + 2 ≤ a2 ∨ a2 + 2 ≤ c0) : zM l yX1_longestRow cX1_longestRow 8 (some .int) ({ frames := 2, cells := 0, slots := 0, locals := 120 } : Room) D A cs tt N ad g [.ref (ad c0), .ref (ad a), .ref (ad a2)] (rI0 N ad fun r g' => (-2147483648 ≤ r ∧ r ≤ 2147483647) ∧ okLike cs ad g' c0 ∧ ∀ j, j ≠ c0 + 1 → g' j = g j) := by
  have hay1 : zAt ad (c0) (ad c0) := rfl
  have hay2 : zAt ad (c0 + 1) (ad (c0 + 1)) := rfl
  have hay3 : zAt ad (a) (ad a) := rfl
  have hay4 : zAt ad (a + 1) (ad (a + 1)) := rfl
  have hay5 : zAt ad (a2) (ad a2) := rfl
  have hay6 : zAt ad (a2 + 1) (ad (a2 + 1)) := rfl
  refine z_of (by decide) (Nat.le_of_ble_eq_true rfl) ?_
  intro p e s m below meth c C hr hlk hnm
  refine z_lv (lv' := [(0, .ref (ad c0)), (1, .ref (ad a)), (2, .ref (ad a2))]) [0, 1, 2] rfl ?_
  have lp2 : ∀ (n9 : Nat) (i : Int) (r9 : Nat → Int) (g1 : Nat → va_E), (12 - i).toNat = n9 → (g1 (c0 + 1) = iA cs 13 r9) → (∀ j, j ≠ c0 + 1 → g1 j = g j) → (0 ≤ i ∧ i ≤ 12) → zV p l e ({ frames := 2, cells := 0, slots := 0, locals := 120 } : Room) s m ([.ref (ad c0), .ref (ad a), .ref (ad a2)] : List Value).toArray below meth c (MQ below (zPost D A (rI0 N ad fun r g' => (-2147483648 ≤ r ∧ r ≤ 2147483647) ∧ okLike cs ad g' c0 ∧ ∀ j, j ≠ c0 + 1 → g' j = g j)) ([.ref (ad c0), .ref (ad a), .ref (ad a2)] : List Value).toArray s ({ frames := 2, cells := 0, slots := 0, locals := 120 } : Room).cells ({ frames := 2, cells := 0, slots := 0, locals := 120 } : Room).slots A) D A 8 (N) ad g1 (0) (0) 25 [(3, .int (zI (i))), (0, .ref (ad c0)), (1, .ref (ad a)), (2, .ref (ad a2))] [] := by
    intro n9
    induction n9 using Nat.strongRecOn with
    | ind n9 ih_lp2 =>
      intro i r9 g1 hm9 f1 f3 hx0
      have hay7 : zAt ad (c0) (ad c0) := rfl
      have hay8 : zAt ad (c0 + 1) (ad (c0 + 1)) := rfl
      have hay9 : zAt ad (a) (ad a) := rfl
      have hay10 : zAt ad (a + 1) (ad (a + 1)) := rfl
      have hay11 : zAt ad (a2) (ad a2) := rfl
      have hay12 : zAt ad (a2 + 1) (ad (a2 + 1)) := rfl
      refine z_iload_n C 0 dX1_longestRow_25 rfl ?_
      refine z_aload_n C 2 dX1_longestRow_26 rfl ?_
      refine z_get (v := .int (zI (sz))) C (lt_A0 hN rfl) hay9 ((f3 _ (by omega)).trans ha.1) rfl inA_X3 0 (by decide) q_155 rfl rfl dX1_longestRow_27 ?_
      refine z_icmp_ge (tgt := 135) C dX1_longestRow_30 (by decide) (by omega) (by omega) (fun hby13 => ?_) (fun hby13 => ?_)
      · refine z_aload_n C 1 dX1_longestRow_135 rfl ?_
        refine z_get (v := .ref (ad (c0 + 1))) C (by omega) hay7 ((f3 _ (by omega)).trans hc.1) rfl inA_X1 0 (by decide) q_313 rfl rfl dX1_longestRow_136 ?_
        refine z_aload_n C 3 dX1_longestRow_139 rfl ?_
        refine z_get (v := .int (zI (sz2))) C (by omega) hay11 ((f3 _ (by omega)).trans ha2.1) rfl inA_X3 0 (by decide) q_155 rfl rfl dX1_longestRow_140 ?_
        refine z_iald C (by omega) hay8 f1 ((sz2).toNat) (by omega) (by omega) (by decide) dX1_longestRow_143 ?_
        obtain ⟨xy14, exy15, hxy16⟩ := zI_of (zI (r9 ((sz2).toNat)))
        rw [exy15]
        exact z_iret C hr hlk dX1_longestRow_144 (by decide) (by decide) ⟨xy14, rfl, rfl, rfl, by omega, ⟨_, ((f3 _ (by omega)).trans hc.1), f1⟩, fun j j1 => by exact f3 j j1⟩
      · refine z_iconst (z := 0) C dX1_longestRow_33 rfl ?_
        refine z_istore (lv' := [(4, .int (zI (0))), (3, .int (zI (i))), (0, .ref (ad c0)), (1, .ref (ad a)), (2, .ref (ad a2))]) C dX1_longestRow_34 (by decide) rfl ?_
        refine z_iconst (z := 0) C dX1_longestRow_36 rfl ?_
        refine z_istore (lv' := [(5, .int (zI (0))), (4, .int (zI (0))), (3, .int (zI (i))), (0, .ref (ad c0)), (1, .ref (ad a)), (2, .ref (ad a2))]) C dX1_longestRow_37 (by decide) rfl ?_
        have lp3 : ∀ (n9 : Nat) (j : Int) (co : Int) (r9 : Nat → Int) (g1 : Nat → va_E), (12 - j).toNat = n9 → (g1 (c0 + 1) = iA cs 13 r9) → (∀ j, j ≠ c0 + 1 → g1 j = g j) → (0 ≤ j ∧ j ≤ 12) → (-2147483648 ≤ co ∧ co ≤ 2147483647) → zV p l e ({ frames := 2, cells := 0, slots := 0, locals := 120 } : Room) s m ([.ref (ad c0), .ref (ad a), .ref (ad a2)] : List Value).toArray below meth c (MQ below (zPost D A (rI0 N ad fun r g' => (-2147483648 ≤ r ∧ r ≤ 2147483647) ∧ okLike cs ad g' c0 ∧ ∀ j, j ≠ c0 + 1 → g' j = g j)) ([.ref (ad c0), .ref (ad a), .ref (ad a2)] : List Value).toArray s ({ frames := 2, cells := 0, slots := 0, locals := 120 } : Room).cells ({ frames := 2, cells := 0, slots := 0, locals := 120 } : Room).slots A) D A 8 (N) ad g1 (0) (0) 39 [(5, .int (zI (j))), (4, .int (zI (co))), (3, .int (zI (i))), (0, .ref (ad c0)), (1, .ref (ad a)), (2, .ref (ad a2))] [] := by
          intro n9
          induction n9 using Nat.strongRecOn with
          | ind n9 ih_lp3 =>
            intro j co r9 g1 hm9 f1 f3 hy0 hy1
            have hay17 : zAt ad (c0) (ad c0) := rfl
            have hay18 : zAt ad (c0 + 1) (ad (c0 + 1)) := rfl
            have hay19 : zAt ad (a) (ad a) := rfl
            have hay20 : zAt ad (a + 1) (ad (a + 1)) := rfl
            have hay21 : zAt ad (a2) (ad a2) := rfl
            have hay22 : zAt ad (a2 + 1) (ad (a2 + 1)) := rfl
            refine z_iload C 0 dX1_longestRow_39 rfl ?_
            refine z_aload_n C 5 dX1_longestRow_41 rfl ?_
            refine z_get (v := .int (zI (sz2))) C (by omega) hay21 ((f3 _ (by omega)).trans ha2.1) rfl inA_X3 0 (by decide) q_155 rfl rfl dX1_longestRow_42 ?_
            refine z_icmp_ge (tgt := 129) C dX1_longestRow_45 (by decide) (by omega) (by omega) (fun hby23 => ?_) (fun hby23 => ?_)
            · refine z_iinc (z := i + 1) (lv' := [(3, .int (zI (i + 1))), (5, .int (zI (j))), (4, .int (zI (co))), (0, .ref (ad c0)), (1, .ref (ad a)), (2, .ref (ad a2))]) (j := 2) C dX1_longestRow_129 rfl rfl (by decide) rfl ?_
              refine z_goto (tgt := 25) C dX1_longestRow_132 (by decide) ?_
              refine z_lv (lv' := [(3, .int (zI (i + 1))), (0, .ref (ad c0)), (1, .ref (ad a)), (2, .ref (ad a2))]) [0, 3, 4, 5] rfl ?_
              exact ih_lp2 _ (by omega) (i + 1) _ g1 rfl f1 (fun j j1 => by exact f3 j j1) (by omega)
            · refine z_aload_n C 3 dX1_longestRow_48 rfl ?_
              refine z_get (v := .ref (ad (c0 + 1))) C (by omega) hay17 ((f3 _ (by omega)).trans hc.1) rfl inA_X1 0 (by decide) q_313 rfl rfl dX1_longestRow_49 ?_
              refine z_iload C 0 dX1_longestRow_52 rfl ?_
              refine z_iconst (z := 1) C dX1_longestRow_54 rfl ?_
              refine z_iadd C dX1_longestRow_55 ?_
              refine z_iald C (by omega) hay18 f1 ((j + 1).toNat) (by omega) (by omega) (by decide) dX1_longestRow_56 ?_
              refine z_istore (lv' := [(6, .int (zI (r9 ((j + 1).toNat)))), (5, .int (zI (j))), (4, .int (zI (co))), (3, .int (zI (i))), (0, .ref (ad c0)), (1, .ref (ad a)), (2, .ref (ad a2))]) C dX1_longestRow_57 (by decide) rfl ?_
              refine z_aload_n C 5 dX1_longestRow_59 rfl ?_
              refine z_get (v := .ref (ad (a + 1))) C (lt_A0 hN rfl) hay19 ((f3 _ (by omega)).trans ha.1) rfl inA_X3 2 (by decide) q_163 rfl rfl dX1_longestRow_60 ?_
              refine z_iconst (z := 0) C dX1_longestRow_63 rfl ?_
              refine z_iload_n C 3 dX1_longestRow_64 rfl ?_
              refine z_iadd C dX1_longestRow_65 ?_
              refine z_iald C (lt_A (c := 1) hN rfl) hay20 ((f3 _ (by omega)).trans ha.2) ((0 + i).toNat) (by omega) (by omega) (by decide) dX1_longestRow_66 ?_
              refine z_aload_n C 6 dX1_longestRow_67 rfl ?_
              refine z_get (v := .ref (ad (a2 + 1))) C (by omega) hay21 ((f3 _ (by omega)).trans ha2.1) rfl inA_X3 2 (by decide) q_163 rfl rfl dX1_longestRow_68 ?_
              refine z_iconst (z := 0) C dX1_longestRow_71 rfl ?_
              refine z_iload C 1 dX1_longestRow_72 rfl ?_
              refine z_iadd C dX1_longestRow_74 ?_
              refine z_iald C (by omega) hay22 ((f3 _ (by omega)).trans ha2.2) ((0 + j).toNat) (by omega) (by omega) (by decide) dX1_longestRow_75 ?_
              obtain ⟨xy24, exy25, hxy26⟩ := zI_of (zI (r2 ((0 + j).toNat)))
              rw [exy25]
              obtain ⟨xy27, exy28, hxy29⟩ := zI_of (zI (r ((0 + i).toNat)))
              rw [exy28]
              refine z_icmp_ne (tgt := 83) C dX1_longestRow_76 (by decide) (by omega) (by omega) (fun hby30 => ?_) (fun hby30 => ?_)
              · refine z_iconst (z := 0) C dX1_longestRow_83 rfl ?_
                refine z_istore (lv' := [(7, .int (zI (0))), (6, .int (zI (r9 ((j + 1).toNat)))), (5, .int (zI (j))), (4, .int (zI (co))), (3, .int (zI (i))), (0, .ref (ad c0)), (1, .ref (ad a)), (2, .ref (ad a2))]) C dX1_longestRow_84 (by decide) rfl ?_
                refine z_aload_n C 5 dX1_longestRow_86 rfl ?_
                refine z_get (v := .ref (ad (c0 + 1))) C (by omega) hay17 ((f3 _ (by omega)).trans hc.1) rfl inA_X1 0 (by decide) q_313 rfl rfl dX1_longestRow_87 ?_
                refine z_iload C 2 dX1_longestRow_90 rfl ?_
                refine z_iconst (z := 1) C dX1_longestRow_92 rfl ?_
                refine z_iadd C dX1_longestRow_93 ?_
                refine z_iload C 0 dX1_longestRow_94 rfl ?_
                refine z_if_eq (tgt := 106) C dX1_longestRow_96 (by decide) (by omega) (fun _ => ?_) (fun h => absurd h (by omega))
                refine z_iload C 1 dX1_longestRow_106 rfl ?_
                refine z_aload_n C 5 dX1_longestRow_108 rfl ?_
                refine z_get (v := .ref (ad (c0 + 1))) C (by omega) hay17 ((f3 _ (by omega)).trans hc.1) rfl inA_X1 0 (by decide) q_313 rfl rfl dX1_longestRow_109 ?_
                refine z_iload C 2 dX1_longestRow_112 rfl ?_
                refine z_iald C (by omega) hay18 f1 ((j).toNat) (by omega) (by omega) (by decide) dX1_longestRow_114 ?_
                obtain ⟨xy31, exy32, hxy33⟩ := zI_of (zI (r9 ((j).toNat)))
                rw [exy32]
                obtain ⟨xy34, exy35, hxy36⟩ := zI_of (zI (r9 ((j + 1).toNat)))
                rw [exy35]
                refine z_mmax C q_1338 q_470 q_20 q_471 (by omega) (by omega) (by decide) (Nat.le_of_ble_eq_true rfl) (by decide) (by decide) dX1_longestRow_115 ?_
                obtain ⟨xy37, exy38, hxy39⟩ := mm_max (xy34) (xy31)
                rw [exy38]
                refine z_iast C (by omega) hay18 f1 ((j + 1).toNat) (by omega) (by omega) (by decide) dX1_longestRow_118 (fun gy40 egy41 => ?_)
                have hgy42 := up_s egy41
                refine z_iload C 1 dX1_longestRow_119 rfl ?_
                refine z_istore (lv' := [(4, .int (zI (xy34))), (7, .int (zI (0))), (6, .int (zI (xy34))), (5, .int (zI (j))), (3, .int (zI (i))), (0, .ref (ad c0)), (1, .ref (ad a)), (2, .ref (ad a2))]) C dX1_longestRow_121 (by decide) rfl ?_
                refine z_iinc (z := j + 1) (lv' := [(5, .int (zI (j + 1))), (4, .int (zI (xy34))), (7, .int (zI (0))), (6, .int (zI (xy34))), (3, .int (zI (i))), (0, .ref (ad c0)), (1, .ref (ad a)), (2, .ref (ad a2))]) (j := 3) C dX1_longestRow_123 rfl rfl (by decide) rfl ?_
                refine z_goto (tgt := 39) C dX1_longestRow_126 (by decide) ?_
                refine z_lv (lv' := [(5, .int (zI (j + 1))), (4, .int (zI (xy34))), (3, .int (zI (i))), (0, .ref (ad c0)), (1, .ref (ad a)), (2, .ref (ad a2))]) [0, 1, 4, 5, 6, 7] rfl ?_
                exact ih_lp3 _ (by omega) (j + 1) (xy34) _ gy40 rfl hgy42 (fun j j1 => by rw [egy41, va_up_ne _ _ (by omega)]; exact f3 j j1) (by omega) (by omega)
              · refine z_iconst (z := 1) C dX1_longestRow_79 rfl ?_
                refine z_goto (tgt := 84) C dX1_longestRow_80 (by decide) ?_
                refine z_istore (lv' := [(7, .int (zI (1))), (6, .int (zI (r9 ((j + 1).toNat)))), (5, .int (zI (j))), (4, .int (zI (co))), (3, .int (zI (i))), (0, .ref (ad c0)), (1, .ref (ad a)), (2, .ref (ad a2))]) C dX1_longestRow_84 (by decide) rfl ?_
                refine z_aload_n C 5 dX1_longestRow_86 rfl ?_
                refine z_get (v := .ref (ad (c0 + 1))) C (by omega) hay17 ((f3 _ (by omega)).trans hc.1) rfl inA_X1 0 (by decide) q_313 rfl rfl dX1_longestRow_87 ?_
                refine z_iload C 2 dX1_longestRow_90 rfl ?_
                refine z_iconst (z := 1) C dX1_longestRow_92 rfl ?_
                refine z_iadd C dX1_longestRow_93 ?_
                refine z_iload C 0 dX1_longestRow_94 rfl ?_
                refine z_if_eq (tgt := 106) C dX1_longestRow_96 (by decide) (by omega) (fun h => absurd h (by omega)) (fun _ => ?_)
                refine z_iload C 3 dX1_longestRow_99 rfl ?_
                refine z_iconst (z := 1) C dX1_longestRow_101 rfl ?_
                refine z_iadd C dX1_longestRow_102 ?_
                refine z_goto (tgt := 118) C dX1_longestRow_103 (by decide) ?_
                refine z_iast C (by omega) hay18 f1 ((j + 1).toNat) (by omega) (by omega) (by decide) dX1_longestRow_118 (fun gy43 egy44 => ?_)
                have hgy45 := up_s egy44
                refine z_iload C 1 dX1_longestRow_119 rfl ?_
                refine z_istore (lv' := [(4, .int (zI (r9 ((j + 1).toNat)))), (7, .int (zI (1))), (6, .int (zI (r9 ((j + 1).toNat)))), (5, .int (zI (j))), (3, .int (zI (i))), (0, .ref (ad c0)), (1, .ref (ad a)), (2, .ref (ad a2))]) C dX1_longestRow_121 (by decide) rfl ?_
                refine z_iinc (z := j + 1) (lv' := [(5, .int (zI (j + 1))), (4, .int (zI (r9 ((j + 1).toNat)))), (7, .int (zI (1))), (6, .int (zI (r9 ((j + 1).toNat)))), (3, .int (zI (i))), (0, .ref (ad c0)), (1, .ref (ad a)), (2, .ref (ad a2))]) (j := 3) C dX1_longestRow_123 rfl rfl (by decide) rfl ?_
                refine z_goto (tgt := 39) C dX1_longestRow_126 (by decide) ?_
                obtain ⟨xy46, exy47, hxy48⟩ := zI_of (zI (r9 ((j + 1).toNat)))
                rw [exy47]
                refine z_lv (lv' := [(5, .int (zI (j + 1))), (4, .int (zI (xy46))), (3, .int (zI (i))), (0, .ref (ad c0)), (1, .ref (ad a)), (2, .ref (ad a2))]) [0, 1, 4, 5, 6, 7] rfl ?_
                exact ih_lp3 _ (by omega) (j + 1) (xy46) _ gy43 rfl hgy45 (fun j j1 => by rw [egy44, va_up_ne _ _ (by omega)]; exact f3 j j1) (by omega) (by omega)
        refine z_lv (lv' := [(5, .int (zI (0))), (4, .int (zI (0))), (3, .int (zI (i))), (0, .ref (ad c0)), (1, .ref (ad a)), (2, .ref (ad a2))]) [0, 1, 2, 3, 4, 5] rfl ?_
        exact lp3 _ (0) (0) _ g1 rfl f1 (fun j j1 => by exact f3 j j1) (by omega) (by omega)
  have lp1 : ∀ (n9 : Nat) (j : Int) (r9 : Nat → Int) (g1 : Nat → va_E), (13 - j).toNat = n9 → (g1 (c0 + 1) = iA cs 13 r9) → (∀ j, j ≠ c0 + 1 → g1 j = g j) → (0 ≤ j ∧ j ≤ 13) → zV p l e ({ frames := 2, cells := 0, slots := 0, locals := 120 } : Room) s m ([.ref (ad c0), .ref (ad a), .ref (ad a2)] : List Value).toArray below meth c (MQ below (zPost D A (rI0 N ad fun r g' => (-2147483648 ≤ r ∧ r ≤ 2147483647) ∧ okLike cs ad g' c0 ∧ ∀ j, j ≠ c0 + 1 → g' j = g j)) ([.ref (ad c0), .ref (ad a), .ref (ad a2)] : List Value).toArray s ({ frames := 2, cells := 0, slots := 0, locals := 120 } : Room).cells ({ frames := 2, cells := 0, slots := 0, locals := 120 } : Room).slots A) D A 8 (N) ad g1 (0) (0) 2 [(3, .int (zI (j))), (0, .ref (ad c0)), (1, .ref (ad a)), (2, .ref (ad a2))] [] := by
    intro n9
    induction n9 using Nat.strongRecOn with
    | ind n9 ih_lp1 =>
      intro j r9 g1 hm9 f1 f3 hw0
      have hay49 : zAt ad (c0) (ad c0) := rfl
      have hay50 : zAt ad (c0 + 1) (ad (c0 + 1)) := rfl
      have hay51 : zAt ad (a) (ad a) := rfl
      have hay52 : zAt ad (a + 1) (ad (a + 1)) := rfl
      have hay53 : zAt ad (a2) (ad a2) := rfl
      have hay54 : zAt ad (a2 + 1) (ad (a2 + 1)) := rfl
      refine z_iload_n C 0 dX1_longestRow_2 rfl ?_
      refine z_aload_n C 3 dX1_longestRow_3 rfl ?_
      refine z_get (v := .int (zI (sz2))) C (by omega) hay53 ((f3 _ (by omega)).trans ha2.1) rfl inA_X3 0 (by decide) q_155 rfl rfl dX1_longestRow_4 ?_
      refine z_icmp_gt (tgt := 23) C dX1_longestRow_7 (by decide) (by omega) (by omega) (fun hby55 => ?_) (fun hby55 => ?_)
      · refine z_iconst (z := 0) C dX1_longestRow_23 rfl ?_
        refine z_istore_n (lv' := [(3, .int (zI (0))), (0, .ref (ad c0)), (1, .ref (ad a)), (2, .ref (ad a2))]) C dX1_longestRow_24 rfl (by decide) rfl ?_
        refine z_lv (lv' := [(3, .int (zI (0))), (0, .ref (ad c0)), (1, .ref (ad a)), (2, .ref (ad a2))]) [0, 1, 2, 3] rfl ?_
        exact lp2 _ (0) _ g1 rfl f1 (fun j j1 => by exact f3 j j1) (by omega)
      · refine z_aload_n C 1 dX1_longestRow_10 rfl ?_
        refine z_get (v := .ref (ad (c0 + 1))) C (by omega) hay49 ((f3 _ (by omega)).trans hc.1) rfl inA_X1 0 (by decide) q_313 rfl rfl dX1_longestRow_11 ?_
        refine z_iload_n C 0 dX1_longestRow_14 rfl ?_
        refine z_iconst (z := 0) C dX1_longestRow_15 rfl ?_
        refine z_iast C (by omega) hay50 f1 ((j).toNat) (by omega) (by omega) (by decide) dX1_longestRow_16 (fun gy56 egy57 => ?_)
        have hgy58 := up_s egy57
        refine z_iinc (z := j + 1) (lv' := [(3, .int (zI (j + 1))), (0, .ref (ad c0)), (1, .ref (ad a)), (2, .ref (ad a2))]) (j := 0) C dX1_longestRow_17 rfl rfl (by decide) rfl ?_
        refine z_goto (tgt := 2) C dX1_longestRow_20 (by decide) ?_
        refine z_lv (lv' := [(3, .int (zI (j + 1))), (0, .ref (ad c0)), (1, .ref (ad a)), (2, .ref (ad a2))]) [0, 1, 2, 3] rfl ?_
        exact ih_lp1 _ (by omega) (j + 1) _ gy56 rfl hgy58 (fun j j1 => by rw [egy57, va_up_ne _ _ (by omega)]; exact f3 j j1) (by omega)
  refine z_iconst (z := 0) C dX1_longestRow_0 rfl ?_
  refine z_istore_n (lv' := [(3, .int (zI (0))), (0, .ref (ad c0)), (1, .ref (ad a)), (2, .ref (ad a2))]) C dX1_longestRow_1 rfl (by decide) rfl ?_
  refine z_lv (lv' := [(3, .int (zI (0))), (0, .ref (ad c0)), (1, .ref (ad a)), (2, .ref (ad a2))]) [0, 1, 2, 3] rfl ?_
  exact lp1 _ (0) _ g rfl hc.2 (fun j j1 => by rfl) (by omega)

set_option maxRecDepth 100000 in
set_option maxHeartbeats 4000000 in
theorem c_X1_fewestSteps (l : Launch) (D : va_G) (A : Nat → Prop) (cs : Nat → ClassId) (tt : Nat) (N : Nat) (ad : Nat → Nat) (g : Nat → va_E) (c0 : Nat) (hNc : c0 + 2 ≤ N) (r0 : Nat → Int) (hc : isLike cs ad g c0 r0) (a : Nat) (hN : a + 2 ≤ N) (sz ro : Int) (r : Nat → Int) (hz : 0 ≤ sz ∧ sz ≤ 12) (ha : isPack cs ad g a sz ro r) (a2 : Nat) (hN2 : a2 + 2 ≤ N) (sz2 ro2 : Int) (r2 : Nat → Int) (hz2 : 0 ≤ sz2 ∧ sz2 ≤ 12) (ha2 : isPack cs ad g a2 sz2 ro2 r2) (hca : c0 + 2 ≤ a ∨ a + 2 ≤ c0) (hca2 : c0 + 2 ≤ a2 ∨ a2 + 2 ≤ c0) : zM l yX1_fewestSteps cX1_fewestSteps 9 (some .int) ({ frames := 2, cells := 0, slots := 0, locals := 120 } : Room) D A cs tt N ad g [.ref (ad c0), .ref (ad a), .ref (ad a2)] (rI0 N ad fun r g' => (-2147483648 ≤ r ∧ r ≤ 2147483647) ∧ okLike cs ad g' c0 ∧ ∀ j, j ≠ c0 + 1 → g' j = g j) := by
  have hay1 : zAt ad (c0) (ad c0) := rfl
  have hay2 : zAt ad (c0 + 1) (ad (c0 + 1)) := rfl
  have hay3 : zAt ad (a) (ad a) := rfl
  have hay4 : zAt ad (a + 1) (ad (a + 1)) := rfl
  have hay5 : zAt ad (a2) (ad a2) := rfl
  have hay6 : zAt ad (a2 + 1) (ad (a2 + 1)) := rfl
  refine z_of (by decide) (Nat.le_of_ble_eq_true rfl) ?_
  intro p e s m below meth c C hr hlk hnm
  refine z_lv (lv' := [(0, .ref (ad c0)), (1, .ref (ad a)), (2, .ref (ad a2))]) [0, 1, 2] rfl ?_
  have lp2 : ∀ (n9 : Nat) (i : Int) (r9 : Nat → Int) (g1 : Nat → va_E), (12 - i).toNat = n9 → (g1 (c0 + 1) = iA cs 13 r9) → (∀ j, j ≠ c0 + 1 → g1 j = g j) → (0 ≤ i ∧ i ≤ 12) → zV p l e ({ frames := 2, cells := 0, slots := 0, locals := 120 } : Room) s m ([.ref (ad c0), .ref (ad a), .ref (ad a2)] : List Value).toArray below meth c (MQ below (zPost D A (rI0 N ad fun r g' => (-2147483648 ≤ r ∧ r ≤ 2147483647) ∧ okLike cs ad g' c0 ∧ ∀ j, j ≠ c0 + 1 → g' j = g j)) ([.ref (ad c0), .ref (ad a), .ref (ad a2)] : List Value).toArray s ({ frames := 2, cells := 0, slots := 0, locals := 120 } : Room).cells ({ frames := 2, cells := 0, slots := 0, locals := 120 } : Room).slots A) D A 9 (N) ad g1 (0) (0) 25 [(3, .int (zI (i))), (0, .ref (ad c0)), (1, .ref (ad a)), (2, .ref (ad a2))] [] := by
    intro n9
    induction n9 using Nat.strongRecOn with
    | ind n9 ih_lp2 =>
      intro i r9 g1 hm9 f1 f3 hx0
      have hay7 : zAt ad (c0) (ad c0) := rfl
      have hay8 : zAt ad (c0 + 1) (ad (c0 + 1)) := rfl
      have hay9 : zAt ad (a) (ad a) := rfl
      have hay10 : zAt ad (a + 1) (ad (a + 1)) := rfl
      have hay11 : zAt ad (a2) (ad a2) := rfl
      have hay12 : zAt ad (a2 + 1) (ad (a2 + 1)) := rfl
      refine z_iload_n C 0 dX1_fewestSteps_25 rfl ?_
      refine z_aload_n C 2 dX1_fewestSteps_26 rfl ?_
      refine z_get (v := .int (zI (sz))) C (lt_A0 hN rfl) hay9 ((f3 _ (by omega)).trans ha.1) rfl inA_X3 0 (by decide) q_155 rfl rfl dX1_fewestSteps_27 ?_
      refine z_icmp_ge (tgt := 160) C dX1_fewestSteps_30 (by decide) (by omega) (by omega) (fun hby13 => ?_) (fun hby13 => ?_)
      · refine z_aload_n C 1 dX1_fewestSteps_160 rfl ?_
        refine z_get (v := .ref (ad (c0 + 1))) C (by omega) hay7 ((f3 _ (by omega)).trans hc.1) rfl inA_X1 0 (by decide) q_313 rfl rfl dX1_fewestSteps_161 ?_
        refine z_aload_n C 3 dX1_fewestSteps_164 rfl ?_
        refine z_get (v := .int (zI (sz2))) C (by omega) hay11 ((f3 _ (by omega)).trans ha2.1) rfl inA_X3 0 (by decide) q_155 rfl rfl dX1_fewestSteps_165 ?_
        refine z_iald C (by omega) hay8 f1 ((sz2).toNat) (by omega) (by omega) (by decide) dX1_fewestSteps_168 ?_
        obtain ⟨xy14, exy15, hxy16⟩ := zI_of (zI (r9 ((sz2).toNat)))
        rw [exy15]
        exact z_iret C hr hlk dX1_fewestSteps_169 (by decide) (by decide) ⟨xy14, rfl, rfl, rfl, by omega, ⟨_, ((f3 _ (by omega)).trans hc.1), f1⟩, fun j j1 => by exact f3 j j1⟩
      · refine z_aload_n C 1 dX1_fewestSteps_33 rfl ?_
        refine z_get (v := .ref (ad (c0 + 1))) C (by omega) hay7 ((f3 _ (by omega)).trans hc.1) rfl inA_X1 0 (by decide) q_313 rfl rfl dX1_fewestSteps_34 ?_
        refine z_iconst (z := 0) C dX1_fewestSteps_37 rfl ?_
        refine z_iald C (by omega) hay8 f1 (0) (by omega) (by omega) (by decide) dX1_fewestSteps_38 ?_
        refine z_istore (lv' := [(4, .int (zI (r9 (0)))), (3, .int (zI (i))), (0, .ref (ad c0)), (1, .ref (ad a)), (2, .ref (ad a2))]) C dX1_fewestSteps_39 (by decide) rfl ?_
        refine z_aload_n C 2 dX1_fewestSteps_41 rfl ?_
        refine z_get (v := .ref (ad (c0 + 1))) C (by omega) hay7 ((f3 _ (by omega)).trans hc.1) rfl inA_X1 0 (by decide) q_313 rfl rfl dX1_fewestSteps_42 ?_
        refine z_iconst (z := 0) C dX1_fewestSteps_45 rfl ?_
        refine z_iload_n C 1 dX1_fewestSteps_46 rfl ?_
        refine z_iconst (z := 1) C dX1_fewestSteps_47 rfl ?_
        refine z_iadd C dX1_fewestSteps_48 ?_
        refine z_iast C (by omega) hay8 f1 (0) (by omega) (by omega) (by decide) dX1_fewestSteps_49 (fun gy17 egy18 => ?_)
        have hgy19 := up_s egy18
        refine z_iconst (z := 0) C dX1_fewestSteps_50 rfl ?_
        refine z_istore (lv' := [(5, .int (zI (0))), (4, .int (zI (r9 (0)))), (3, .int (zI (i))), (0, .ref (ad c0)), (1, .ref (ad a)), (2, .ref (ad a2))]) C dX1_fewestSteps_51 (by decide) rfl ?_
        have lp3 : ∀ (n9 : Nat) (j : Int) (co : Int) (r9 : Nat → Int) (g1 : Nat → va_E), (12 - j).toNat = n9 → (g1 (c0 + 1) = iA cs 13 r9) → (∀ j, j ≠ c0 + 1 → g1 j = g j) → (0 ≤ j ∧ j ≤ 12) → (-2147483648 ≤ co ∧ co ≤ 2147483647) → zV p l e ({ frames := 2, cells := 0, slots := 0, locals := 120 } : Room) s m ([.ref (ad c0), .ref (ad a), .ref (ad a2)] : List Value).toArray below meth c (MQ below (zPost D A (rI0 N ad fun r g' => (-2147483648 ≤ r ∧ r ≤ 2147483647) ∧ okLike cs ad g' c0 ∧ ∀ j, j ≠ c0 + 1 → g' j = g j)) ([.ref (ad c0), .ref (ad a), .ref (ad a2)] : List Value).toArray s ({ frames := 2, cells := 0, slots := 0, locals := 120 } : Room).cells ({ frames := 2, cells := 0, slots := 0, locals := 120 } : Room).slots A) D A 9 (N) ad g1 (0) (0) 53 [(5, .int (zI (j))), (4, .int (zI (co))), (3, .int (zI (i))), (0, .ref (ad c0)), (1, .ref (ad a)), (2, .ref (ad a2))] [] := by
          intro n9
          induction n9 using Nat.strongRecOn with
          | ind n9 ih_lp3 =>
            intro j co r9 g1 hm9 f1 f3 hy0 hy1
            have hay20 : zAt ad (c0) (ad c0) := rfl
            have hay21 : zAt ad (c0 + 1) (ad (c0 + 1)) := rfl
            have hay22 : zAt ad (a) (ad a) := rfl
            have hay23 : zAt ad (a + 1) (ad (a + 1)) := rfl
            have hay24 : zAt ad (a2) (ad a2) := rfl
            have hay25 : zAt ad (a2 + 1) (ad (a2 + 1)) := rfl
            refine z_iload C 0 dX1_fewestSteps_53 rfl ?_
            refine z_aload_n C 5 dX1_fewestSteps_55 rfl ?_
            refine z_get (v := .int (zI (sz2))) C (by omega) hay24 ((f3 _ (by omega)).trans ha2.1) rfl inA_X3 0 (by decide) q_155 rfl rfl dX1_fewestSteps_56 ?_
            refine z_icmp_ge (tgt := 154) C dX1_fewestSteps_59 (by decide) (by omega) (by omega) (fun hby26 => ?_) (fun hby26 => ?_)
            · refine z_iinc (z := i + 1) (lv' := [(3, .int (zI (i + 1))), (5, .int (zI (j))), (4, .int (zI (co))), (0, .ref (ad c0)), (1, .ref (ad a)), (2, .ref (ad a2))]) (j := 2) C dX1_fewestSteps_154 rfl rfl (by decide) rfl ?_
              refine z_goto (tgt := 25) C dX1_fewestSteps_157 (by decide) ?_
              refine z_lv (lv' := [(3, .int (zI (i + 1))), (0, .ref (ad c0)), (1, .ref (ad a)), (2, .ref (ad a2))]) [0, 3, 4, 5] rfl ?_
              exact ih_lp2 _ (by omega) (i + 1) _ g1 rfl f1 (fun j j1 => by exact f3 j j1) (by omega)
            · refine z_aload_n C 3 dX1_fewestSteps_62 rfl ?_
              refine z_get (v := .ref (ad (c0 + 1))) C (by omega) hay20 ((f3 _ (by omega)).trans hc.1) rfl inA_X1 0 (by decide) q_313 rfl rfl dX1_fewestSteps_63 ?_
              refine z_iload C 0 dX1_fewestSteps_66 rfl ?_
              refine z_iconst (z := 1) C dX1_fewestSteps_68 rfl ?_
              refine z_iadd C dX1_fewestSteps_69 ?_
              refine z_iald C (by omega) hay21 f1 ((j + 1).toNat) (by omega) (by omega) (by decide) dX1_fewestSteps_70 ?_
              refine z_istore (lv' := [(6, .int (zI (r9 ((j + 1).toNat)))), (5, .int (zI (j))), (4, .int (zI (co))), (3, .int (zI (i))), (0, .ref (ad c0)), (1, .ref (ad a)), (2, .ref (ad a2))]) C dX1_fewestSteps_71 (by decide) rfl ?_
              refine z_aload_n C 5 dX1_fewestSteps_73 rfl ?_
              refine z_get (v := .ref (ad (a + 1))) C (lt_A0 hN rfl) hay22 ((f3 _ (by omega)).trans ha.1) rfl inA_X3 2 (by decide) q_163 rfl rfl dX1_fewestSteps_74 ?_
              refine z_iconst (z := 0) C dX1_fewestSteps_77 rfl ?_
              refine z_iload_n C 3 dX1_fewestSteps_78 rfl ?_
              refine z_iadd C dX1_fewestSteps_79 ?_
              refine z_iald C (lt_A (c := 1) hN rfl) hay23 ((f3 _ (by omega)).trans ha.2) ((0 + i).toNat) (by omega) (by omega) (by decide) dX1_fewestSteps_80 ?_
              refine z_aload_n C 6 dX1_fewestSteps_81 rfl ?_
              refine z_get (v := .ref (ad (a2 + 1))) C (by omega) hay24 ((f3 _ (by omega)).trans ha2.1) rfl inA_X3 2 (by decide) q_163 rfl rfl dX1_fewestSteps_82 ?_
              refine z_iconst (z := 0) C dX1_fewestSteps_85 rfl ?_
              refine z_iload C 1 dX1_fewestSteps_86 rfl ?_
              refine z_iadd C dX1_fewestSteps_88 ?_
              refine z_iald C (by omega) hay25 ((f3 _ (by omega)).trans ha2.2) ((0 + j).toNat) (by omega) (by omega) (by decide) dX1_fewestSteps_89 ?_
              obtain ⟨xy27, exy28, hxy29⟩ := zI_of (zI (r2 ((0 + j).toNat)))
              rw [exy28]
              obtain ⟨xy30, exy31, hxy32⟩ := zI_of (zI (r ((0 + i).toNat)))
              rw [exy31]
              refine z_icmp_ne (tgt := 97) C dX1_fewestSteps_90 (by decide) (by omega) (by omega) (fun hby33 => ?_) (fun hby33 => ?_)
              · refine z_iconst (z := 0) C dX1_fewestSteps_97 rfl ?_
                refine z_istore (lv' := [(7, .int (zI (0))), (6, .int (zI (r9 ((j + 1).toNat)))), (5, .int (zI (j))), (4, .int (zI (co))), (3, .int (zI (i))), (0, .ref (ad c0)), (1, .ref (ad a)), (2, .ref (ad a2))]) C dX1_fewestSteps_98 (by decide) rfl ?_
                refine z_iload C 0 dX1_fewestSteps_100 rfl ?_
                refine z_if_eq (tgt := 110) C dX1_fewestSteps_102 (by decide) (by omega) (fun _ => ?_) (fun h => absurd h (by omega))
                refine z_iload C 3 dX1_fewestSteps_110 rfl ?_
                refine z_iconst (z := 1) C dX1_fewestSteps_112 rfl ?_
                refine z_iadd C dX1_fewestSteps_113 ?_
                refine z_istore (lv' := [(8, .int (zI (co + 1))), (7, .int (zI (0))), (6, .int (zI (r9 ((j + 1).toNat)))), (5, .int (zI (j))), (4, .int (zI (co))), (3, .int (zI (i))), (0, .ref (ad c0)), (1, .ref (ad a)), (2, .ref (ad a2))]) C dX1_fewestSteps_114 (by decide) rfl ?_
                refine z_aload_n C 6 dX1_fewestSteps_116 rfl ?_
                refine z_get (v := .ref (ad (c0 + 1))) C (by omega) hay20 ((f3 _ (by omega)).trans hc.1) rfl inA_X1 0 (by decide) q_313 rfl rfl dX1_fewestSteps_117 ?_
                refine z_iload C 3 dX1_fewestSteps_120 rfl ?_
                refine z_iconst (z := 1) C dX1_fewestSteps_122 rfl ?_
                refine z_iadd C dX1_fewestSteps_123 ?_
                refine z_iload C 0 dX1_fewestSteps_124 rfl ?_
                refine z_iload C 2 dX1_fewestSteps_126 rfl ?_
                refine z_aload_n C 6 dX1_fewestSteps_128 rfl ?_
                refine z_get (v := .ref (ad (c0 + 1))) C (by omega) hay20 ((f3 _ (by omega)).trans hc.1) rfl inA_X1 0 (by decide) q_313 rfl rfl dX1_fewestSteps_129 ?_
                refine z_iload C 3 dX1_fewestSteps_132 rfl ?_
                refine z_iald C (by omega) hay21 f1 ((j).toNat) (by omega) (by omega) (by decide) dX1_fewestSteps_134 ?_
                obtain ⟨xy34, exy35, hxy36⟩ := zI_of (zI (r9 ((j).toNat)))
                rw [exy35]
                obtain ⟨xy37, exy38, hxy39⟩ := zI_of (zI (r9 ((j + 1).toNat)))
                rw [exy38]
                refine z_mmin C q_1343 q_473 q_20 q_474 (by omega) (by omega) (by decide) (Nat.le_of_ble_eq_true rfl) (by decide) (by decide) dX1_fewestSteps_135 ?_
                obtain ⟨xy40, exy41, hxy42⟩ := mm_min (xy37) (xy34)
                rw [exy41]
                refine z_iconst (z := 1) C dX1_fewestSteps_138 rfl ?_
                refine z_iadd C dX1_fewestSteps_139 ?_
                obtain ⟨xy43, exy44, hxy45⟩ := zI_of (zI (xy40 + 1))
                rw [exy44]
                obtain ⟨xy46, exy47, hxy48⟩ := zI_of (zI (co + 1))
                rw [exy47]
                refine z_mmin C q_1343 q_473 q_20 q_474 (by omega) (by omega) (by decide) (Nat.le_of_ble_eq_true rfl) (by decide) (by decide) dX1_fewestSteps_140 ?_
                obtain ⟨xy49, exy50, hxy51⟩ := mm_min (xy46) (xy43)
                rw [exy50]
                refine z_iast C (by omega) hay21 f1 ((j + 1).toNat) (by omega) (by omega) (by decide) dX1_fewestSteps_143 (fun gy52 egy53 => ?_)
                have hgy54 := up_s egy53
                refine z_iload C 2 dX1_fewestSteps_144 rfl ?_
                refine z_istore (lv' := [(4, .int (zI (xy37))), (8, .int (zI (xy46))), (7, .int (zI (0))), (6, .int (zI (xy37))), (5, .int (zI (j))), (3, .int (zI (i))), (0, .ref (ad c0)), (1, .ref (ad a)), (2, .ref (ad a2))]) C dX1_fewestSteps_146 (by decide) rfl ?_
                refine z_iinc (z := j + 1) (lv' := [(5, .int (zI (j + 1))), (4, .int (zI (xy37))), (8, .int (zI (xy46))), (7, .int (zI (0))), (6, .int (zI (xy37))), (3, .int (zI (i))), (0, .ref (ad c0)), (1, .ref (ad a)), (2, .ref (ad a2))]) (j := 4) C dX1_fewestSteps_148 rfl rfl (by decide) rfl ?_
                refine z_goto (tgt := 53) C dX1_fewestSteps_151 (by decide) ?_
                refine z_lv (lv' := [(5, .int (zI (j + 1))), (4, .int (zI (xy37))), (3, .int (zI (i))), (0, .ref (ad c0)), (1, .ref (ad a)), (2, .ref (ad a2))]) [0, 1, 5, 6, 7, 8] rfl ?_
                exact ih_lp3 _ (by omega) (j + 1) (xy37) _ gy52 rfl hgy54 (fun j j1 => by rw [egy53, va_up_ne _ _ (by omega)]; exact f3 j j1) (by omega) (by omega)
              · refine z_iconst (z := 1) C dX1_fewestSteps_93 rfl ?_
                refine z_goto (tgt := 98) C dX1_fewestSteps_94 (by decide) ?_
                refine z_istore (lv' := [(7, .int (zI (1))), (6, .int (zI (r9 ((j + 1).toNat)))), (5, .int (zI (j))), (4, .int (zI (co))), (3, .int (zI (i))), (0, .ref (ad c0)), (1, .ref (ad a)), (2, .ref (ad a2))]) C dX1_fewestSteps_98 (by decide) rfl ?_
                refine z_iload C 0 dX1_fewestSteps_100 rfl ?_
                refine z_if_eq (tgt := 110) C dX1_fewestSteps_102 (by decide) (by omega) (fun h => absurd h (by omega)) (fun _ => ?_)
                refine z_iload C 3 dX1_fewestSteps_105 rfl ?_
                refine z_goto (tgt := 114) C dX1_fewestSteps_107 (by decide) ?_
                refine z_istore (lv' := [(8, .int (zI (co))), (7, .int (zI (1))), (6, .int (zI (r9 ((j + 1).toNat)))), (5, .int (zI (j))), (4, .int (zI (co))), (3, .int (zI (i))), (0, .ref (ad c0)), (1, .ref (ad a)), (2, .ref (ad a2))]) C dX1_fewestSteps_114 (by decide) rfl ?_
                refine z_aload_n C 6 dX1_fewestSteps_116 rfl ?_
                refine z_get (v := .ref (ad (c0 + 1))) C (by omega) hay20 ((f3 _ (by omega)).trans hc.1) rfl inA_X1 0 (by decide) q_313 rfl rfl dX1_fewestSteps_117 ?_
                refine z_iload C 3 dX1_fewestSteps_120 rfl ?_
                refine z_iconst (z := 1) C dX1_fewestSteps_122 rfl ?_
                refine z_iadd C dX1_fewestSteps_123 ?_
                refine z_iload C 0 dX1_fewestSteps_124 rfl ?_
                refine z_iload C 2 dX1_fewestSteps_126 rfl ?_
                refine z_aload_n C 6 dX1_fewestSteps_128 rfl ?_
                refine z_get (v := .ref (ad (c0 + 1))) C (by omega) hay20 ((f3 _ (by omega)).trans hc.1) rfl inA_X1 0 (by decide) q_313 rfl rfl dX1_fewestSteps_129 ?_
                refine z_iload C 3 dX1_fewestSteps_132 rfl ?_
                refine z_iald C (by omega) hay21 f1 ((j).toNat) (by omega) (by omega) (by decide) dX1_fewestSteps_134 ?_
                obtain ⟨xy55, exy56, hxy57⟩ := zI_of (zI (r9 ((j).toNat)))
                rw [exy56]
                obtain ⟨xy58, exy59, hxy60⟩ := zI_of (zI (r9 ((j + 1).toNat)))
                rw [exy59]
                refine z_mmin C q_1343 q_473 q_20 q_474 (by omega) (by omega) (by decide) (Nat.le_of_ble_eq_true rfl) (by decide) (by decide) dX1_fewestSteps_135 ?_
                obtain ⟨xy61, exy62, hxy63⟩ := mm_min (xy58) (xy55)
                rw [exy62]
                refine z_iconst (z := 1) C dX1_fewestSteps_138 rfl ?_
                refine z_iadd C dX1_fewestSteps_139 ?_
                obtain ⟨xy64, exy65, hxy66⟩ := zI_of (zI (xy61 + 1))
                rw [exy65]
                refine z_mmin C q_1343 q_473 q_20 q_474 (by omega) (by omega) (by decide) (Nat.le_of_ble_eq_true rfl) (by decide) (by decide) dX1_fewestSteps_140 ?_
                obtain ⟨xy67, exy68, hxy69⟩ := mm_min (co) (xy64)
                rw [exy68]
                refine z_iast C (by omega) hay21 f1 ((j + 1).toNat) (by omega) (by omega) (by decide) dX1_fewestSteps_143 (fun gy70 egy71 => ?_)
                have hgy72 := up_s egy71
                refine z_iload C 2 dX1_fewestSteps_144 rfl ?_
                refine z_istore (lv' := [(4, .int (zI (xy58))), (8, .int (zI (co))), (7, .int (zI (1))), (6, .int (zI (xy58))), (5, .int (zI (j))), (3, .int (zI (i))), (0, .ref (ad c0)), (1, .ref (ad a)), (2, .ref (ad a2))]) C dX1_fewestSteps_146 (by decide) rfl ?_
                refine z_iinc (z := j + 1) (lv' := [(5, .int (zI (j + 1))), (4, .int (zI (xy58))), (8, .int (zI (co))), (7, .int (zI (1))), (6, .int (zI (xy58))), (3, .int (zI (i))), (0, .ref (ad c0)), (1, .ref (ad a)), (2, .ref (ad a2))]) (j := 4) C dX1_fewestSteps_148 rfl rfl (by decide) rfl ?_
                refine z_goto (tgt := 53) C dX1_fewestSteps_151 (by decide) ?_
                refine z_lv (lv' := [(5, .int (zI (j + 1))), (4, .int (zI (xy58))), (3, .int (zI (i))), (0, .ref (ad c0)), (1, .ref (ad a)), (2, .ref (ad a2))]) [0, 1, 5, 6, 7, 8] rfl ?_
                exact ih_lp3 _ (by omega) (j + 1) (xy58) _ gy70 rfl hgy72 (fun j j1 => by rw [egy71, va_up_ne _ _ (by omega)]; exact f3 j j1) (by omega) (by omega)
        obtain ⟨xy73, exy74, hxy75⟩ := zI_of (zI (r9 (0)))
        rw [exy74]
        refine z_lv (lv' := [(5, .int (zI (0))), (4, .int (zI (xy73))), (3, .int (zI (i))), (0, .ref (ad c0)), (1, .ref (ad a)), (2, .ref (ad a2))]) [0, 1, 2, 3, 4, 5] rfl ?_
        exact lp3 _ (0) (xy73) _ gy17 rfl hgy19 (fun j j1 => by rw [egy18, va_up_ne _ _ (by omega)]; exact f3 j j1) (by omega) (by omega)
  have lp1 : ∀ (n9 : Nat) (j : Int) (r9 : Nat → Int) (g1 : Nat → va_E), (13 - j).toNat = n9 → (g1 (c0 + 1) = iA cs 13 r9) → (∀ j, j ≠ c0 + 1 → g1 j = g j) → (0 ≤ j ∧ j ≤ 13) → zV p l e ({ frames := 2, cells := 0, slots := 0, locals := 120 } : Room) s m ([.ref (ad c0), .ref (ad a), .ref (ad a2)] : List Value).toArray below meth c (MQ below (zPost D A (rI0 N ad fun r g' => (-2147483648 ≤ r ∧ r ≤ 2147483647) ∧ okLike cs ad g' c0 ∧ ∀ j, j ≠ c0 + 1 → g' j = g j)) ([.ref (ad c0), .ref (ad a), .ref (ad a2)] : List Value).toArray s ({ frames := 2, cells := 0, slots := 0, locals := 120 } : Room).cells ({ frames := 2, cells := 0, slots := 0, locals := 120 } : Room).slots A) D A 9 (N) ad g1 (0) (0) 2 [(3, .int (zI (j))), (0, .ref (ad c0)), (1, .ref (ad a)), (2, .ref (ad a2))] [] := by
    intro n9
    induction n9 using Nat.strongRecOn with
    | ind n9 ih_lp1 =>
      intro j r9 g1 hm9 f1 f3 hw0
      have hay76 : zAt ad (c0) (ad c0) := rfl
      have hay77 : zAt ad (c0 + 1) (ad (c0 + 1)) := rfl
      have hay78 : zAt ad (a) (ad a) := rfl
      have hay79 : zAt ad (a + 1) (ad (a + 1)) := rfl
      have hay80 : zAt ad (a2) (ad a2) := rfl
      have hay81 : zAt ad (a2 + 1) (ad (a2 + 1)) := rfl
      refine z_iload_n C 0 dX1_fewestSteps_2 rfl ?_
      refine z_aload_n C 3 dX1_fewestSteps_3 rfl ?_
      refine z_get (v := .int (zI (sz2))) C (by omega) hay80 ((f3 _ (by omega)).trans ha2.1) rfl inA_X3 0 (by decide) q_155 rfl rfl dX1_fewestSteps_4 ?_
      refine z_icmp_gt (tgt := 23) C dX1_fewestSteps_7 (by decide) (by omega) (by omega) (fun hby82 => ?_) (fun hby82 => ?_)
      · refine z_iconst (z := 0) C dX1_fewestSteps_23 rfl ?_
        refine z_istore_n (lv' := [(3, .int (zI (0))), (0, .ref (ad c0)), (1, .ref (ad a)), (2, .ref (ad a2))]) C dX1_fewestSteps_24 rfl (by decide) rfl ?_
        refine z_lv (lv' := [(3, .int (zI (0))), (0, .ref (ad c0)), (1, .ref (ad a)), (2, .ref (ad a2))]) [0, 1, 2, 3] rfl ?_
        exact lp2 _ (0) _ g1 rfl f1 (fun j j1 => by exact f3 j j1) (by omega)
      · refine z_aload_n C 1 dX1_fewestSteps_10 rfl ?_
        refine z_get (v := .ref (ad (c0 + 1))) C (by omega) hay76 ((f3 _ (by omega)).trans hc.1) rfl inA_X1 0 (by decide) q_313 rfl rfl dX1_fewestSteps_11 ?_
        refine z_iload_n C 0 dX1_fewestSteps_14 rfl ?_
        refine z_iload_n C 0 dX1_fewestSteps_15 rfl ?_
        refine z_iast C (by omega) hay77 f1 ((j).toNat) (by omega) (by omega) (by decide) dX1_fewestSteps_16 (fun gy83 egy84 => ?_)
        have hgy85 := up_s egy84
        refine z_iinc (z := j + 1) (lv' := [(3, .int (zI (j + 1))), (0, .ref (ad c0)), (1, .ref (ad a)), (2, .ref (ad a2))]) (j := 0) C dX1_fewestSteps_17 rfl rfl (by decide) rfl ?_
        refine z_goto (tgt := 2) C dX1_fewestSteps_20 (by decide) ?_
        refine z_lv (lv' := [(3, .int (zI (j + 1))), (0, .ref (ad c0)), (1, .ref (ad a)), (2, .ref (ad a2))]) [0, 1, 2, 3] rfl ?_
        exact ih_lp1 _ (by omega) (j + 1) _ gy83 rfl hgy85 (fun j j1 => by rw [egy84, va_up_ne _ _ (by omega)]; exact f3 j j1) (by omega)
  refine z_iconst (z := 0) C dX1_fewestSteps_0 rfl ?_
  refine z_istore_n (lv' := [(3, .int (zI (0))), (0, .ref (ad c0)), (1, .ref (ad a)), (2, .ref (ad a2))]) C dX1_fewestSteps_1 rfl (by decide) rfl ?_
  refine z_lv (lv' := [(3, .int (zI (0))), (0, .ref (ad c0)), (1, .ref (ad a)), (2, .ref (ad a2))]) [0, 1, 2, 3] rfl ?_
  exact lp1 _ (0) _ g rfl hc.2 (fun j j1 => by rfl) (by omega)

