section
-- 37.like.lean.txt
section ZQ
variable {p : Program} {l : Launch} {e : Env} {R : Room} {s : State} {m : MethodId} {args : Array Value} {below : List Frame} {meth : Method} {c : Code} {Q : State → Prop} {D : va_G} {A : Nat → Prop} {cs : Nat → ClassId} {tt : Nat} {cc : ByteArray} {nL : Nat} {own : String} {N : Nat} {ad : Nat → Nat} {g : Nat → va_E} {k n pc : Nat} {lv lv' : List (Nat × Value)} {rest : List Value}
theorem z_aaldA (C : zC p s m args c cc nL own D A cs tt) {i a : Nat} (hi : i < N) (ha : ad i = a) {cA : ClassId} {ty : FieldType} {M : Nat} {r : Nat → Option Nat} (hg : g i = rA cA M r) (t : Nat) (ht : (tyL cs)[t]? = some (cA, .array ty)) (j : Nat) {z : Int} (hz : z = (j : Int)) (hj : j < M) (hM : M ≤ 2147483647) {v : Nat} (hv : r j = some v) (hdg : decode cc pc = .ok (.aaload, 1)) (kk : zV p l e R s m args below meth c Q D A nL N ad g k n (pc + 1) (lv) (.ref v :: rest)) : zV p l e R s m args below meth c Q D A nL N ad g k n (pc) (lv) (.int (zI z) :: .ref a :: rest) := by
  subst hz; subst ha
  refine fun H locs ls hP hD hS hl => ?_
  have hin : vp_in (zI (j : Int)) M := zI_in hj hM
  have hcl : (zI (j : Int)).toNatClampNeg = j := zI_clN (by omega)
  have hlt : (zI (j : Int)).toNatClampNeg < M := by rw [hcl]; exact hj
  exact W.aald (v := va_rf (r (zI (j : Int)).toNatClampNeg)) (ty := .array ty) C.1 C.2.1 (show H[ad i]? = some (arrV cA M (fun j => va_rf (r j))) from hP i (ad i, .inl (cA, M, .inr (.inr (.inr (.inr r))))) ((wl_at hi).trans (by rw [hg]))) ((C.2.2.2.2.2.1.2 t _ ht).1 M (fun j => va_rf (r j))) rfl (fun q => by cases q) (by show ¬ (zI (j : Int) < 0 ∨ (arrV _ _ _).slots.size ≤ _); rw [arrV_size]; exact hin) (by show (arrV _ _ _).slots[_]? = _; rw [arrV_read _ _ hlt]) rfl rfl hdg (by rw [hcl, hv]; exact kk H locs ls hP hD hS hl)
end ZQ
abbrev okGss (cs : Nat → ClassId) (ad : Nat → Nat) (g : Nat → va_E) (i : Nat) : Prop := ∃ (mn fi : Int) (u : Nat → Int) (q : Nat → Nat → Int), (∀ k, k < 4 → 0 ≤ u k ∧ u k ≤ 1200) ∧ isGss cs ad g i mn fi u q
theorem okGss.mv {cs : Nat → ClassId} {ad ad' : Nat → Nat} {g g' : Nat → va_E} {i : Nat} (hA : ∀ j, i ≤ j → j < i + 7 → ad' j = ad j) (hG : ∀ j, i ≤ j → j < i + 7 → g' j = g j) (h : okGss cs ad g i) : okGss cs ad' g' i := by
  obtain ⟨mn, fi, u, q, h1, h2⟩ := h
  exact ⟨mn, fi, u, q, h1, h2.mv hA hG⟩
abbrev okLike (cs : Nat → ClassId) (ad : Nat → Nat) (g : Nat → va_E) (i : Nat) : Prop := ∃ r : Nat → Int, isLike cs ad g i r
theorem okLike.mv {cs : Nat → ClassId} {ad ad' : Nat → Nat} {g g' : Nat → va_E} {i : Nat} (hA : ∀ j, i ≤ j → j < i + 2 → ad' j = ad j) (hG : ∀ j, i ≤ j → j < i + 2 → g' j = g j) (h : okLike cs ad g i) : okLike cs ad' g' i := by
  obtain ⟨r, h1⟩ := h
  exact ⟨r, h1.mv hA hG⟩

set_option maxRecDepth 100000 in
set_option maxHeartbeats 4000000 in
theorem c_X0_clear (l : Launch) (D : va_G) (A : Nat → Prop) (cs : Nat → ClassId) (tt : Nat) (N : Nat) (ad : Nat → Nat) (g : Nat → va_E) (a : Nat) (hN : a + 7 ≤ N) (ha : okGss cs ad g a) : zM l yX0_clear cX0_clear 2 none ({ frames := 1, cells := 0, slots := 0, locals := 60 } : Room) D A cs tt N ad g [.ref (ad a)] (rV0 N ad fun g' => okGss cs ad g' a ∧ ∀ j, j < a ∨ a + 7 ≤ j → g' j = g j) := by
  obtain ⟨mn, fi, u, q, h1, h2, h3, ⟨rwv, h4, h5⟩, h6⟩ := id ha
  have hay1 : zAt ad (a) (ad a) := rfl
  have hay2 : zAt ad (a + 1) (ad (a + 1)) := rfl
  have hay3 : zAt ad (a + 2) (ad (a + 2)) := rfl
  refine z_of (by decide) (Nat.le_of_ble_eq_true rfl) ?_
  intro p e s m below meth c C hr hlk hnm
  refine z_lv (lv' := [(0, .ref (ad a))]) [0] rfl ?_
  refine z_aload_n C 0 dX0_clear_0 rfl ?_
  refine z_iconst (z := 0) C dX0_clear_1 rfl ?_
  refine z_put (fs' := [.int (zI (0)), .int (zI (fi)), .ref (ad (a + 1)), .ref (ad (a + 2))]) C (lt_A0 hN rfl) hay1 h2 tyX0 tyX0_ok nmX0 rfl inA_X0 0 (by decide) q_291 rfl rfl rfl rfl (Nat.le_of_ble_eq_true rfl) rfl dX0_clear_2 (fun gy4 egy5 => ?_)
  have hgy6 := up_s egy5
  refine z_aload_n C 0 dX0_clear_5 rfl ?_
  refine z_iconst (z := -1) C dX0_clear_6 rfl ?_
  refine z_put (fs' := [.int (zI (0)), .int (zI (-1)), .ref (ad (a + 1)), .ref (ad (a + 2))]) C (lt_A0 hN rfl) hay1 hgy6 tyX0 tyX0_ok nmX0 rfl inA_X0 1 (by decide) q_293 rfl rfl rfl rfl (Nat.le_of_ble_eq_true rfl) rfl dX0_clear_7 (fun gy7 egy8 => ?_)
  have hgy9 := up_s egy8
  refine z_iconst (z := 0) C dX0_clear_10 rfl ?_
  refine z_istore_n (lv' := [(1, .int (zI (0))), (0, .ref (ad a))]) C dX0_clear_11 rfl (by decide) rfl ?_
  refine z_iload_n C 0 dX0_clear_12 rfl ?_
  refine z_aload_n C 1 dX0_clear_13 rfl ?_
  refine z_get (v := .ref (ad (a + 1))) C (lt_A0 hN rfl) hay1 hgy9 rfl inA_X0 2 (by decide) q_295 rfl rfl dX0_clear_14 ?_
  have hgy10 := up_n egy5 h3 (ne_o (i := a) (c := 1) (d := 0) rfl)
  have hgy11 := up_n egy8 hgy10 (ne_o (i := a) (c := 1) (d := 0) rfl)
  refine z_alen (z := 4) C (lt_A (c := 1) hN rfl) hay2 hgy11 1 rfl rfl dX0_clear_17 ?_
  refine z_icmp_ge (tgt := 34) C dX0_clear_18 (by decide) (by omega) (by omega) (fun h => absurd h (by omega)) (fun _ => ?_)
  refine z_aload_n C 1 dX0_clear_21 rfl ?_
  refine z_get (v := .ref (ad (a + 1))) C (lt_A0 hN rfl) hay1 hgy9 rfl inA_X0 2 (by decide) q_295 rfl rfl dX0_clear_22 ?_
  refine z_iload_n C 0 dX0_clear_25 rfl ?_
  refine z_iconst (z := 0) C dX0_clear_26 rfl ?_
  refine z_iast C (lt_A (c := 1) hN rfl) hay2 hgy11 (0) (by omega) (by omega) (by decide) dX0_clear_27 (fun gy12 egy13 => ?_)
  have hgy14 := up_s egy13
  refine z_iinc (z := 1) (lv' := [(1, .int (zI (1))), (0, .ref (ad a))]) (j := 0) C dX0_clear_28 rfl (congrArg zI (by omega)) (by decide) rfl ?_
  refine z_goto (tgt := 12) C dX0_clear_31 (by decide) ?_
  refine z_iload_n C 0 dX0_clear_12 rfl ?_
  refine z_aload_n C 1 dX0_clear_13 rfl ?_
  have hgy15 := up_n egy13 hgy9 (ne_o (i := a) (c := 0) (d := 1) rfl)
  refine z_get (v := .ref (ad (a + 1))) C (lt_A0 hN rfl) hay1 hgy15 rfl inA_X0 2 (by decide) q_295 rfl rfl dX0_clear_14 ?_
  refine z_alen (z := 4) C (lt_A (c := 1) hN rfl) hay2 hgy14 1 rfl rfl dX0_clear_17 ?_
  refine z_icmp_ge (tgt := 34) C dX0_clear_18 (by decide) (by omega) (by omega) (fun h => absurd h (by omega)) (fun _ => ?_)
  refine z_aload_n C 1 dX0_clear_21 rfl ?_
  refine z_get (v := .ref (ad (a + 1))) C (lt_A0 hN rfl) hay1 hgy15 rfl inA_X0 2 (by decide) q_295 rfl rfl dX0_clear_22 ?_
  refine z_iload_n C 0 dX0_clear_25 rfl ?_
  refine z_iconst (z := 0) C dX0_clear_26 rfl ?_
  refine z_iast C (lt_A (c := 1) hN rfl) hay2 hgy14 (1) (by omega) (by omega) (by decide) dX0_clear_27 (fun gy16 egy17 => ?_)
  have hgy18 := up_s egy17
  refine z_iinc (z := 2) (lv' := [(1, .int (zI (2))), (0, .ref (ad a))]) (j := 0) C dX0_clear_28 rfl (congrArg zI (by omega)) (by decide) rfl ?_
  refine z_goto (tgt := 12) C dX0_clear_31 (by decide) ?_
  refine z_iload_n C 0 dX0_clear_12 rfl ?_
  refine z_aload_n C 1 dX0_clear_13 rfl ?_
  have hgy19 := up_n egy17 hgy15 (ne_o (i := a) (c := 0) (d := 1) rfl)
  refine z_get (v := .ref (ad (a + 1))) C (lt_A0 hN rfl) hay1 hgy19 rfl inA_X0 2 (by decide) q_295 rfl rfl dX0_clear_14 ?_
  refine z_alen (z := 4) C (lt_A (c := 1) hN rfl) hay2 hgy18 1 rfl rfl dX0_clear_17 ?_
  refine z_icmp_ge (tgt := 34) C dX0_clear_18 (by decide) (by omega) (by omega) (fun h => absurd h (by omega)) (fun _ => ?_)
  refine z_aload_n C 1 dX0_clear_21 rfl ?_
  refine z_get (v := .ref (ad (a + 1))) C (lt_A0 hN rfl) hay1 hgy19 rfl inA_X0 2 (by decide) q_295 rfl rfl dX0_clear_22 ?_
  refine z_iload_n C 0 dX0_clear_25 rfl ?_
  refine z_iconst (z := 0) C dX0_clear_26 rfl ?_
  refine z_iast C (lt_A (c := 1) hN rfl) hay2 hgy18 (2) (by omega) (by omega) (by decide) dX0_clear_27 (fun gy20 egy21 => ?_)
  have hgy22 := up_s egy21
  refine z_iinc (z := 3) (lv' := [(1, .int (zI (3))), (0, .ref (ad a))]) (j := 0) C dX0_clear_28 rfl (congrArg zI (by omega)) (by decide) rfl ?_
  refine z_goto (tgt := 12) C dX0_clear_31 (by decide) ?_
  refine z_iload_n C 0 dX0_clear_12 rfl ?_
  refine z_aload_n C 1 dX0_clear_13 rfl ?_
  have hgy23 := up_n egy21 hgy19 (ne_o (i := a) (c := 0) (d := 1) rfl)
  refine z_get (v := .ref (ad (a + 1))) C (lt_A0 hN rfl) hay1 hgy23 rfl inA_X0 2 (by decide) q_295 rfl rfl dX0_clear_14 ?_
  refine z_alen (z := 4) C (lt_A (c := 1) hN rfl) hay2 hgy22 1 rfl rfl dX0_clear_17 ?_
  refine z_icmp_ge (tgt := 34) C dX0_clear_18 (by decide) (by omega) (by omega) (fun h => absurd h (by omega)) (fun _ => ?_)
  refine z_aload_n C 1 dX0_clear_21 rfl ?_
  refine z_get (v := .ref (ad (a + 1))) C (lt_A0 hN rfl) hay1 hgy23 rfl inA_X0 2 (by decide) q_295 rfl rfl dX0_clear_22 ?_
  refine z_iload_n C 0 dX0_clear_25 rfl ?_
  refine z_iconst (z := 0) C dX0_clear_26 rfl ?_
  refine z_iast C (lt_A (c := 1) hN rfl) hay2 hgy22 (3) (by omega) (by omega) (by decide) dX0_clear_27 (fun gy24 egy25 => ?_)
  have hgy26 := up_s egy25
  refine z_iinc (z := 4) (lv' := [(1, .int (zI (4))), (0, .ref (ad a))]) (j := 0) C dX0_clear_28 rfl (congrArg zI (by omega)) (by decide) rfl ?_
  refine z_goto (tgt := 12) C dX0_clear_31 (by decide) ?_
  refine z_iload_n C 0 dX0_clear_12 rfl ?_
  refine z_aload_n C 1 dX0_clear_13 rfl ?_
  have hgy27 := up_n egy25 hgy23 (ne_o (i := a) (c := 0) (d := 1) rfl)
  refine z_get (v := .ref (ad (a + 1))) C (lt_A0 hN rfl) hay1 hgy27 rfl inA_X0 2 (by decide) q_295 rfl rfl dX0_clear_14 ?_
  refine z_alen (z := 4) C (lt_A (c := 1) hN rfl) hay2 hgy26 1 rfl rfl dX0_clear_17 ?_
  refine z_icmp_ge (tgt := 34) C dX0_clear_18 (by decide) (by omega) (by omega) (fun _ => ?_) (fun h => absurd h (by omega))
  have hgy28 := up_n egy5 h4 (ne_o (i := a) (c := 2) (d := 0) rfl)
  have hgy29 := up_n egy8 hgy28 (ne_o (i := a) (c := 2) (d := 0) rfl)
  have hgy30 := up_n egy13 hgy29 (ne_o (i := a) (c := 2) (d := 1) rfl)
  have hgy31 := up_n egy17 hgy30 (ne_o (i := a) (c := 2) (d := 1) rfl)
  have hgy32 := up_n egy21 hgy31 (ne_o (i := a) (c := 2) (d := 1) rfl)
  have hgy33 := up_n egy25 hgy32 (ne_o (i := a) (c := 2) (d := 1) rfl)
  have hu : ∀ k, k < 4 → 0 ≤ (uZ (uZ (uZ (uZ (u) (0) (0)) (1) (0)) (2) (0)) (3) (0)) k ∧ (uZ (uZ (uZ (uZ (u) (0) (0)) (1) (0)) (2) (0)) (3) (0)) k ≤ 1200 := fun k hk => by rcases (show k = 0 ∨ k = 1 ∨ k = 2 ∨ k = 3 by omega) with rfl | rfl | rfl | rfl <;> simp [uZ]
  exact z_vret C hr hlk dX0_clear_34 (by decide) (by decide) ⟨rfl, rfl, rfl, ⟨_, _, _, q, hu, hgy27, hgy26, ⟨rwv, hgy33, h5⟩, fun k hk => by rw [egy25, va_up_ne _ _ (by omega)]; rw [egy21, va_up_ne _ _ (by omega)]; rw [egy17, va_up_ne _ _ (by omega)]; rw [egy13, va_up_ne _ _ (by omega)]; rw [egy8, va_up_ne _ _ (by omega)]; rw [egy5, va_up_ne _ _ (by omega)]; exact h6 k hk⟩, fun j j1 => by rw [egy25, va_up_ne _ _ (by omega)]; rw [egy21, va_up_ne _ _ (by omega)]; rw [egy17, va_up_ne _ _ (by omega)]; rw [egy13, va_up_ne _ _ (by omega)]; rw [egy8, va_up_ne _ _ (by omega)]; rw [egy5, va_up_ne _ _ (by omega)]⟩

set_option maxRecDepth 100000 in
set_option maxHeartbeats 4000000 in
theorem c_X0_add (l : Launch) (D : va_G) (A : Nat → Prop) (cs : Nat → ClassId) (tt : Nat) (N : Nat) (ad : Nat → Nat) (g : Nat → va_E) (a : Nat) (hN : a + 7 ≤ N) (ha : okGss cs ad g a) (z : Int) (hz : -2147483648 ≤ z ∧ z ≤ 2147483647) : zM l yX0_add cX0_add 2 none ({ frames := 1, cells := 0, slots := 0, locals := 60 } : Room) D A cs tt N ad g [.ref (ad a), .int (zI (z))] (rV0 N ad fun g' => okGss cs ad g' a ∧ ∀ j, j < a ∨ a + 7 ≤ j → g' j = g j) := by
  obtain ⟨mn, fi, u, q, h1, h2, h3, ⟨rwv, h4, h5⟩, h6⟩ := id ha
  have hay1 : zAt ad (a) (ad a) := rfl
  have hay2 : zAt ad (a + 1) (ad (a + 1)) := rfl
  have hay3 : zAt ad (a + 2) (ad (a + 2)) := rfl
  refine z_of (by decide) (Nat.le_of_ble_eq_true rfl) ?_
  intro p e s m below meth c C hr hlk hnm
  refine z_lv (lv' := [(0, .ref (ad a)), (1, .int (zI (z)))]) [0, 1] rfl ?_
  refine z_aload_n C 0 dX0_add_0 rfl ?_
  refine z_get (v := .int (zI (mn))) C (lt_A0 hN rfl) hay1 h2 rfl inA_X0 0 (by decide) q_291 rfl rfl dX0_add_1 ?_
  obtain ⟨xy4, exy5, hxy6⟩ := zI_of (zI (mn))
  rw [exy5]
  refine z_if_ne (tgt := 12) C dX0_add_4 (by decide) (by omega) (fun hby7 => ?_) (fun hby7 => ?_)
  · refine z_aload_n C 0 dX0_add_12 rfl ?_
    refine z_dup C dX0_add_13 rfl ?_
    refine z_get (v := .int (zI (mn))) C (lt_A0 hN rfl) hay1 h2 rfl inA_X0 0 (by decide) q_291 rfl rfl dX0_add_14 ?_
    refine z_iconst (z := 1) C dX0_add_17 rfl ?_
    refine z_iadd C dX0_add_18 ?_
    refine z_put (fs' := [.int (zI (mn + 1)), .int (zI (fi)), .ref (ad (a + 1)), .ref (ad (a + 2))]) C (lt_A0 hN rfl) hay1 h2 tyX0 tyX0_ok nmX0 rfl inA_X0 0 (by decide) q_291 rfl rfl rfl rfl (Nat.le_of_ble_eq_true rfl) rfl dX0_add_19 (fun gy8 egy9 => ?_)
    have hgy10 := up_s egy9
    have hgy11 := up_n egy9 h3 (ne_o (i := a) (c := 1) (d := 0) rfl)
    have hgy12 := up_n egy9 h4 (ne_o (i := a) (c := 2) (d := 0) rfl)
    exact z_vret C hr hlk dX0_add_22 (by decide) (by decide) ⟨rfl, rfl, rfl, ⟨_, _, _, q, h1, hgy10, hgy11, ⟨rwv, hgy12, h5⟩, fun k hk => by rw [egy9, va_up_ne _ _ (by omega)]; exact h6 k hk⟩, fun j j1 => by rw [egy9, va_up_ne _ _ (by omega)]⟩
  · refine z_aload_n C 0 dX0_add_7 rfl ?_
    refine z_iload_n C 1 dX0_add_8 rfl ?_
    refine z_put (fs' := [.int (zI (mn)), .int (zI (z)), .ref (ad (a + 1)), .ref (ad (a + 2))]) C (lt_A0 hN rfl) hay1 h2 tyX0 tyX0_ok nmX0 rfl inA_X0 1 (by decide) q_293 rfl rfl rfl rfl (Nat.le_of_ble_eq_true rfl) rfl dX0_add_9 (fun gy13 egy14 => ?_)
    have hgy15 := up_s egy14
    refine z_aload_n C 0 dX0_add_12 rfl ?_
    refine z_dup C dX0_add_13 rfl ?_
    refine z_get (v := .int (zI (mn))) C (lt_A0 hN rfl) hay1 hgy15 rfl inA_X0 0 (by decide) q_291 rfl rfl dX0_add_14 ?_
    refine z_iconst (z := 1) C dX0_add_17 rfl ?_
    refine z_iadd C dX0_add_18 ?_
    refine z_put (fs' := [.int (zI (mn + 1)), .int (zI (z)), .ref (ad (a + 1)), .ref (ad (a + 2))]) C (lt_A0 hN rfl) hay1 hgy15 tyX0 tyX0_ok nmX0 rfl inA_X0 0 (by decide) q_291 rfl rfl rfl rfl (Nat.le_of_ble_eq_true rfl) rfl dX0_add_19 (fun gy16 egy17 => ?_)
    have hgy18 := up_s egy17
    have hgy19 := up_n egy14 h3 (ne_o (i := a) (c := 1) (d := 0) rfl)
    have hgy20 := up_n egy17 hgy19 (ne_o (i := a) (c := 1) (d := 0) rfl)
    have hgy21 := up_n egy14 h4 (ne_o (i := a) (c := 2) (d := 0) rfl)
    have hgy22 := up_n egy17 hgy21 (ne_o (i := a) (c := 2) (d := 0) rfl)
    exact z_vret C hr hlk dX0_add_22 (by decide) (by decide) ⟨rfl, rfl, rfl, ⟨_, _, _, q, h1, hgy18, hgy20, ⟨rwv, hgy22, h5⟩, fun k hk => by rw [egy17, va_up_ne _ _ (by omega)]; rw [egy14, va_up_ne _ _ (by omega)]; exact h6 k hk⟩, fun j j1 => by rw [egy17, va_up_ne _ _ (by omega)]; rw [egy14, va_up_ne _ _ (by omega)]⟩

set_option maxRecDepth 100000 in
set_option maxHeartbeats 4000000 in
theorem c_X0_see (l : Launch) (D : va_G) (A : Nat → Prop) (cs : Nat → ClassId) (tt : Nat) (N : Nat) (ad : Nat → Nat) (g : Nat → va_E) (a : Nat) (hN : a + 7 ≤ N) (ha : okGss cs ad g a) (z : Int) (hzs : 0 ≤ z ∧ z ≤ 3) (z1 : Int) (hz1 : -2147483648 ≤ z1 ∧ z1 ≤ 2147483647) : zM l yX0_see cX0_see 5 none ({ frames := 1, cells := 0, slots := 0, locals := 60 } : Room) D A cs tt N ad g [.ref (ad a), .int (zI (z)), .int (zI (z1))] (rV0 N ad fun g' => okGss cs ad g' a ∧ ∀ j, j < a ∨ a + 7 ≤ j → g' j = g j) := by
  obtain ⟨mn, fi, u, q, h1, h2, h3, ⟨rwv, h4, h5⟩, h6⟩ := id ha
  have hay1 : zAt ad (a) (ad a) := rfl
  have hay2 : zAt ad (a + 1) (ad (a + 1)) := rfl
  have hay3 : zAt ad (a + 2) (ad (a + 2)) := rfl
  refine z_of (by decide) (Nat.le_of_ble_eq_true rfl) ?_
  intro p e s m below meth c C hr hlk hnm
  refine z_lv (lv' := [(0, .ref (ad a)), (1, .int (zI (z))), (2, .int (zI (z1)))]) [0, 1, 2] rfl ?_
  have huz := h1 (z).toNat (by omega)
  refine z_aload_n C 0 dX0_see_0 rfl ?_
  refine z_get (v := .ref (ad (a + 2))) C (lt_A0 hN rfl) hay1 h2 rfl inA_X0 3 (by decide) q_297 rfl rfl dX0_see_1 ?_
  refine z_iload_n C 1 dX0_see_4 rfl ?_
  refine z_aaldA C (lt_A (c := 2) hN rfl) hay3 h4 6 rfl (z).toNat (by omega) (by omega) (by decide) (h5 (z).toNat (by omega)) dX0_see_5 ?_
  have hay4 : zAt ad (a + 3 + (z).toNat) (ad (a + 3 + (z).toNat)) := rfl
  refine z_astore_n (lv' := [(3, .ref (ad (a + 3 + (z).toNat))), (0, .ref (ad a)), (1, .int (zI (z))), (2, .int (zI (z1)))]) C dX0_see_6 rfl (by decide) rfl ?_
  refine z_iconst (z := 0) C dX0_see_7 rfl ?_
  refine z_istore (lv' := [(4, .int (zI (0))), (3, .ref (ad (a + 3 + (z).toNat))), (0, .ref (ad a)), (1, .int (zI (z))), (2, .int (zI (z1)))]) C dX0_see_8 (by decide) rfl ?_
  have lp : ∀ (n9 : Nat) (k : Int) (g1 : Nat → va_E), (1200 - k).toNat = n9 → (g1 = g) → (0 ≤ k ∧ k ≤ 1200) → zV p l e ({ frames := 1, cells := 0, slots := 0, locals := 60 } : Room) s m ([.ref (ad a), .int (zI (z)), .int (zI (z1))] : List Value).toArray below meth c (MQ below (zPost D A (rV0 N ad fun g' => okGss cs ad g' a ∧ ∀ j, j < a ∨ a + 7 ≤ j → g' j = g j)) ([.ref (ad a), .int (zI (z)), .int (zI (z1))] : List Value).toArray s ({ frames := 1, cells := 0, slots := 0, locals := 60 } : Room).cells ({ frames := 1, cells := 0, slots := 0, locals := 60 } : Room).slots A) D A 5 (N) ad g1 (0) (0) 10 [(4, .int (zI (k))), (3, .ref (ad (a + 3 + (z).toNat))), (0, .ref (ad a)), (1, .int (zI (z))), (2, .int (zI (z1)))] [] := by
    intro n9
    induction n9 using Nat.strongRecOn with
    | ind n9 ih =>
      intro k g1 hm9 hg1 hk9
      subst hg1
      have hay5 : zAt ad (a) (ad a) := rfl
      have hay6 : zAt ad (a + 1) (ad (a + 1)) := rfl
      have hay7 : zAt ad (a + 2) (ad (a + 2)) := rfl
      have hay8 : zAt ad (a + 3 + (z).toNat) (ad (a + 3 + (z).toNat)) := rfl
      refine z_iload C 0 dX0_see_10 rfl ?_
      refine z_aload_n C 2 dX0_see_12 rfl ?_
      refine z_get (v := .ref (ad (a + 1))) C (lt_A0 hN rfl) hay5 h2 rfl inA_X0 2 (by decide) q_295 rfl rfl dX0_see_13 ?_
      refine z_iload_n C 3 dX0_see_16 rfl ?_
      refine z_iald C (lt_A (c := 1) hN rfl) hay6 h3 ((z).toNat) (by omega) (by omega) (by decide) dX0_see_17 ?_
      refine z_icmp_ge (tgt := 36) C dX0_see_18 (by decide) (by omega) (by omega) (fun hby9 => ?_) (fun hby9 => ?_)
      · refine z_aload_n C 2 dX0_see_36 rfl ?_
        refine z_get (v := .ref (ad (a + 1))) C (lt_A0 hN rfl) hay5 h2 rfl inA_X0 2 (by decide) q_295 rfl rfl dX0_see_37 ?_
        refine z_iload_n C 3 dX0_see_40 rfl ?_
        refine z_iald C (lt_A (c := 1) hN rfl) hay6 h3 ((z).toNat) (by omega) (by omega) (by decide) dX0_see_41 ?_
        refine z_aload_n C 1 dX0_see_42 rfl ?_
        refine z_alen (z := 1200) C (by omega) hay8 (h6 (z).toNat (by omega)) 1 rfl rfl dX0_see_43 ?_
        refine z_icmp_ge (tgt := 66) C dX0_see_44 (by decide) (by omega) (by omega) (fun hby10 => ?_) (fun hby10 => ?_)
        · exact z_vret C hr hlk dX0_see_66 (by decide) (by decide) ⟨rfl, rfl, rfl, ha, fun j _ => rfl⟩
        · refine z_aload_n C 1 dX0_see_47 rfl ?_
          refine z_aload_n C 2 dX0_see_48 rfl ?_
          refine z_get (v := .ref (ad (a + 1))) C (lt_A0 hN rfl) hay5 h2 rfl inA_X0 2 (by decide) q_295 rfl rfl dX0_see_49 ?_
          refine z_iload_n C 3 dX0_see_52 rfl ?_
          refine z_iald C (lt_A (c := 1) hN rfl) hay6 h3 ((z).toNat) (by omega) (by omega) (by decide) dX0_see_53 ?_
          refine z_iload_n C 4 dX0_see_54 rfl ?_
          refine z_iast C (by omega) hay8 (h6 (z).toNat (by omega)) ((u ((z).toNat)).toNat) (by omega) (by omega) (by decide) dX0_see_55 (fun gy11 egy12 => ?_)
          have hgy13 := up_s egy12
          refine z_aload_n C 2 dX0_see_56 rfl ?_
          have hgy14 := up_n egy12 h2 (by omega)
          refine z_get (v := .ref (ad (a + 1))) C (lt_A0 hN rfl) hay5 hgy14 rfl inA_X0 2 (by decide) q_295 rfl rfl dX0_see_57 ?_
          refine z_iload_n C 3 dX0_see_60 rfl ?_
          refine z_dup2 C dX0_see_61 rfl rfl ?_
          have hgy15 := up_n egy12 h3 (by omega)
          refine z_iald C (lt_A (c := 1) hN rfl) hay6 hgy15 ((z).toNat) (by omega) (by omega) (by decide) dX0_see_62 ?_
          refine z_iconst (z := 1) C dX0_see_63 rfl ?_
          refine z_iadd C dX0_see_64 ?_
          refine z_iast C (lt_A (c := 1) hN rfl) hay6 hgy15 ((z).toNat) (by omega) (by omega) (by decide) dX0_see_65 (fun gy16 egy17 => ?_)
          have hgy18 := up_s egy17
          have hgy19 := up_n egy17 hgy14 (ne_o (i := a) (c := 0) (d := 1) rfl)
          have hgy20 := up_n egy12 h4 (by omega)
          have hgy21 := up_n egy17 hgy20 (ne_o (i := a) (c := 2) (d := 1) rfl)
          have hgy22 := up_n egy17 hgy13 (by omega)
          have hu : ∀ k, k < 4 → 0 ≤ (uZ (u) ((z).toNat) ((u ((z).toNat)) + 1)) k ∧ (uZ (u) ((z).toNat) ((u ((z).toNat)) + 1)) k ≤ 1200 := fun k hk => by
              by_cases e : k = (z).toNat
              · subst e; rw [uZ_s]; omega
              · rw [uZ_n _ _ e]; exact h1 k hk
          have hq6 : ∀ k, k < 4 → gy16 (a + 3 + k) = iA cs 1200 (if k = (z).toNat then uZ (q (z).toNat) ((u ((z).toNat)).toNat) (z1) else q k) := fun k hk => by
              by_cases e : k = (z).toNat
              · subst e; rw [if_pos rfl]; exact hgy22
              · rw [if_neg e]; rw [egy17, va_up_ne _ _ (by omega)]; rw [egy12, va_up_ne _ _ (by omega)]; exact h6 k hk
          exact z_vret C hr hlk dX0_see_66 (by decide) (by decide) ⟨rfl, rfl, rfl, ⟨_, _, _, _, hu, hgy19, hgy18, ⟨rwv, hgy21, h5⟩, hq6⟩, fun j j1 => by rw [egy17, va_up_ne _ _ (by omega)]; rw [egy12, va_up_ne _ _ (by omega)]⟩
      · refine z_aload_n C 1 dX0_see_21 rfl ?_
        refine z_iload C 0 dX0_see_22 rfl ?_
        refine z_iald C (by omega) hay8 (h6 (z).toNat (by omega)) ((k).toNat) (by omega) (by omega) (by decide) dX0_see_24 ?_
        refine z_iload_n C 4 dX0_see_25 rfl ?_
        obtain ⟨xy23, exy24, hxy25⟩ := zI_of (zI ((q (z).toNat) ((k).toNat)))
        rw [exy24]
        refine z_icmp_ne (tgt := 30) C dX0_see_26 (by decide) (by omega) (by omega) (fun hby26 => ?_) (fun hby26 => ?_)
        · refine z_iinc (z := k + 1) (lv' := [(4, .int (zI (k + 1))), (3, .ref (ad (a + 3 + (z).toNat))), (0, .ref (ad a)), (1, .int (zI (z))), (2, .int (zI (z1)))]) (j := 0) C dX0_see_30 rfl rfl (by decide) rfl ?_
          refine z_goto (tgt := 10) C dX0_see_33 (by decide) ?_
          refine z_lv (lv' := [(4, .int (zI (k + 1))), (3, .ref (ad (a + 3 + (z).toNat))), (0, .ref (ad a)), (1, .int (zI (z))), (2, .int (zI (z1)))]) [0, 1, 2, 3, 4] rfl ?_
          exact ih _ (by omega) (k + 1) _ rfl rfl (by omega)
        · exact z_vret C hr hlk dX0_see_29 (by decide) (by decide) ⟨rfl, rfl, rfl, ha, fun j _ => rfl⟩
  refine z_lv (lv' := [(4, .int (zI (0))), (3, .ref (ad (a + 3 + (z).toNat))), (0, .ref (ad a)), (1, .int (zI (z))), (2, .int (zI (z1)))]) [0, 1, 2, 3, 4] rfl ?_
  exact lp _ 0 _ rfl rfl (by omega)

set_option maxRecDepth 100000 in
set_option maxHeartbeats 4000000 in
theorem c_X1_longestRow (l : Launch) (D : va_G) (A : Nat → Prop) (cs : Nat → ClassId) (tt : Nat) (N : Nat) (ad : Nat → Nat) (g : Nat → va_E) (c0 : Nat) (hNc : c0 + 2 ≤ N) (r0 : Nat → Int) (hc : isLike cs ad g c0 r0) (a : Nat) (hN : a + 2 ≤ N) (sz ro : Int) (r : Nat → Int) (hz : 0 ≤ sz ∧ sz ≤ 12) (ha : isPack cs ad g a sz ro r) (a2 : Nat) (hN2 : a2 + 2 ≤ N) (sz2 ro2 : Int) (r2 : Nat → Int) (hz2 : 0 ≤ sz2 ∧ sz2 ≤ 12) (ha2 : isPack cs ad g a2 sz2 ro2 r2) (hca : c0 + 2 ≤ a ∨ a + 2 ≤ c0) (hca2 : c0 + 2 ≤ a2 ∨ a2 + 2 ≤ c0) : zM l yX1_longestRow cX1_longestRow 8 (some .int) ({ frames := 2, cells := 0, slots := 0, locals := 120 } : Room) D A cs tt N ad g [.ref (ad c0), .ref (ad a), .ref (ad a2)] (rI0 N ad fun r g' => (-2147483648 ≤ r ∧ r ≤ 2147483647) ∧ okLike cs ad g' c0 ∧ ∀ j, j ≠ c0 + 1 → g' j = g j) := by
  have hay1 : zAt ad (c0) (ad c0) := rfl
  have hay2 : zAt ad (c0 + 1) (ad (c0 + 1)) := rfl
  have hay3 : zAt ad (a) (ad a) := rfl
  have hay4 : zAt ad (a + 1) (ad (a + 1)) := rfl
  have hay5 : zAt ad (a2) (ad a2) := rfl
  have hay6 : zAt ad (a2 + 1) (ad (a2 + 1)) := rfl
  refine z_of (by decide) (Nat.le_of_ble_eq_true rfl) ?_
  intro p e s m below meth c C hr hlk hnm
  refine z_lv (lv' := [(0, .ref (ad c0)), (1, .ref (ad a)), (2, .ref (ad a2))]) [0, 1, 2] rfl ?_
  have lp2 : ∀ (n9 : Nat) (i : Int) (r9 : Nat → Int) (g1 : Nat → va_E), (12 - i).toNat = n9 → (g1 (c0 + 1) = iA cs 13 r9) → (∀ j, j ≠ c0 + 1 → g1 j = g j) → (0 ≤ i ∧ i ≤ 12) → zV p l e ({ frames := 2, cells := 0, slots := 0, locals := 120 } : Room) s m ([.ref (ad c0), .ref (ad a), .ref (ad a2)] : List Value).toArray below meth c (MQ below (zPost D A (rI0 N ad fun r g' => (-2147483648 ≤ r ∧ r ≤ 2147483647) ∧ okLike cs ad g' c0 ∧ ∀ j, j ≠ c0 + 1 → g' j = g j)) ([.ref (ad c0), .ref (ad a), .ref (ad a2)] : List Value).toArray s ({ frames := 2, cells := 0, slots := 0, locals := 120 } : Room).cells ({ frames := 2, cells := 0, slots := 0, locals := 120 } : Room).slots A) D A 8 (N) ad g1 (0) (0) 25 [(3, .int (zI (i))), (0, .ref (ad c0)), (1, .ref (ad a)), (2, .ref (ad a2))] [] := by
    intro n9
    induction n9 using Nat.strongRecOn with
    | ind n9 ih_lp2 =>
      intro i r9 g1 hm9 f1 f3 hx0
      have hay7 : zAt ad (c0) (ad c0) := rfl
      have hay8 : zAt ad (c0 + 1) (ad (c0 + 1)) := rfl
      have hay9 : zAt ad (a) (ad a) := rfl
      have hay10 : zAt ad (a + 1) (ad (a + 1)) := rfl
      have hay11 : zAt ad (a2) (ad a2) := rfl
      have hay12 : zAt ad (a2 + 1) (ad (a2 + 1)) := rfl
      refine z_iload_n C 0 dX1_longestRow_25 rfl ?_
      refine z_aload_n C 2 dX1_longestRow_26 rfl ?_
      refine z_get (v := .int (zI (sz))) C (lt_A0 hN rfl) hay9 ((f3 _ (by omega)).trans ha.1) rfl inA_X3 0 (by decide) q_155 rfl rfl dX1_longestRow_27 ?_
      refine z_icmp_ge (tgt := 135) C dX1_longestRow_30 (by decide) (by omega) (by omega) (fun hby13 => ?_) (fun hby13 => ?_)
      · refine z_aload_n C 1 dX1_longestRow_135 rfl ?_
        refine z_get (v := .ref (ad (c0 + 1))) C (by omega) hay7 ((f3 _ (by omega)).trans hc.1) rfl inA_X1 0 (by decide) q_313 rfl rfl dX1_longestRow_136 ?_
        refine z_aload_n C 3 dX1_longestRow_139 rfl ?_
        refine z_get (v := .int (zI (sz2))) C (by omega) hay11 ((f3 _ (by omega)).trans ha2.1) rfl inA_X3 0 (by decide) q_155 rfl rfl dX1_longestRow_140 ?_
        refine z_iald C (by omega) hay8 f1 ((sz2).toNat) (by omega) (by omega) (by decide) dX1_longestRow_143 ?_
        obtain ⟨xy14, exy15, hxy16⟩ := zI_of (zI (r9 ((sz2).toNat)))
        rw [exy15]
        exact z_iret C hr hlk dX1_longestRow_144 (by decide) (by decide) ⟨xy14, rfl, rfl, rfl, by omega, ⟨_, ((f3 _ (by omega)).trans hc.1), f1⟩, fun j j1 => by exact f3 j j1⟩
      · refine z_iconst (z := 0) C dX1_longestRow_33 rfl ?_
        refine z_istore (lv' := [(4, .int (zI (0))), (3, .int (zI (i))), (0, .ref (ad c0)), (1, .ref (ad a)), (2, .ref (ad a2))]) C dX1_longestRow_34 (by decide) rfl ?_
        refine z_iconst (z := 0) C dX1_longestRow_36 rfl ?_
        refine z_istore (lv' := [(5, .int (zI (0))), (4, .int (zI (0))), (3, .int (zI (i))), (0, .ref (ad c0)), (1, .ref (ad a)), (2, .ref (ad a2))]) C dX1_longestRow_37 (by decide) rfl ?_
        have lp3 : ∀ (n9 : Nat) (j : Int) (co : Int) (r9 : Nat → Int) (g1 : Nat → va_E), (12 - j).toNat = n9 → (g1 (c0 + 1) = iA cs 13 r9) → (∀ j, j ≠ c0 + 1 → g1 j = g j) → (0 ≤ j ∧ j ≤ 12) → (-2147483648 ≤ co ∧ co ≤ 2147483647) → zV p l e ({ frames := 2, cells := 0, slots := 0, locals := 120 } : Room) s m ([.ref (ad c0), .ref (ad a), .ref (ad a2)] : List Value).toArray below meth c (MQ below (zPost D A (rI0 N ad fun r g' => (-2147483648 ≤ r ∧ r ≤ 2147483647) ∧ okLike cs ad g' c0 ∧ ∀ j, j ≠ c0 + 1 → g' j = g j)) ([.ref (ad c0), .ref (ad a), .ref (ad a2)] : List Value).toArray s ({ frames := 2, cells := 0, slots := 0, locals := 120 } : Room).cells ({ frames := 2, cells := 0, slots := 0, locals := 120 } : Room).slots A) D A 8 (N) ad g1 (0) (0) 39 [(5, .int (zI (j))), (4, .int (zI (co))), (3, .int (zI (i))), (0, .ref (ad c0)), (1, .ref (ad a)), (2, .ref (ad a2))] [] := by
          intro n9
          induction n9 using Nat.strongRecOn with
          | ind n9 ih_lp3 =>
            intro j co r9 g1 hm9 f1 f3 hy0 hy1
            have hay17 : zAt ad (c0) (ad c0) := rfl
            have hay18 : zAt ad (c0 + 1) (ad (c0 + 1)) := rfl
            have hay19 : zAt ad (a) (ad a) := rfl
            have hay20 : zAt ad (a + 1) (ad (a + 1)) := rfl
            have hay21 : zAt ad (a2) (ad a2) := rfl
            have hay22 : zAt ad (a2 + 1) (ad (a2 + 1)) := rfl
            refine z_iload C 0 dX1_longestRow_39 rfl ?_
            refine z_aload_n C 5 dX1_longestRow_41 rfl ?_
            refine z_get (v := .int (zI (sz2))) C (by omega) hay21 ((f3 _ (by omega)).trans ha2.1) rfl inA_X3 0 (by decide) q_155 rfl rfl dX1_longestRow_42 ?_
            refine z_icmp_ge (tgt := 129) C dX1_longestRow_45 (by decide) (by omega) (by omega) (fun hby23 => ?_) (fun hby23 => ?_)
            · refine z_iinc (z := i + 1) (lv' := [(3, .int (zI (i + 1))), (5, .int (zI (j))), (4, .int (zI (co))), (0, .ref (ad c0)), (1, .ref (ad a)), (2, .ref (ad a2))]) (j := 2) C dX1_longestRow_129 rfl rfl (by decide) rfl ?_
              refine z_goto (tgt := 25) C dX1_longestRow_132 (by decide) ?_
              refine z_lv (lv' := [(3, .int (zI (i + 1))), (0, .ref (ad c0)), (1, .ref (ad a)), (2, .ref (ad a2))]) [0, 3, 4, 5] rfl ?_
              exact ih_lp2 _ (by omega) (i + 1) _ g1 rfl f1 (fun j j1 => by exact f3 j j1) (by omega)
            · refine z_aload_n C 3 dX1_longestRow_48 rfl ?_
              refine z_get (v := .ref (ad (c0 + 1))) C (by omega) hay17 ((f3 _ (by omega)).trans hc.1) rfl inA_X1 0 (by decide) q_313 rfl rfl dX1_longestRow_49 ?_
              refine z_iload C 0 dX1_longestRow_52 rfl ?_
              refine z_iconst (z := 1) C dX1_longestRow_54 rfl ?_
              refine z_iadd C dX1_longestRow_55 ?_
              refine z_iald C (by omega) hay18 f1 ((j + 1).toNat) (by omega) (by omega) (by decide) dX1_longestRow_56 ?_
              refine z_istore (lv' := [(6, .int (zI (r9 ((j + 1).toNat)))), (5, .int (zI (j))), (4, .int (zI (co))), (3, .int (zI (i))), (0, .ref (ad c0)), (1, .ref (ad a)), (2, .ref (ad a2))]) C dX1_longestRow_57 (by decide) rfl ?_
              refine z_aload_n C 5 dX1_longestRow_59 rfl ?_
              refine z_get (v := .ref (ad (a + 1))) C (lt_A0 hN rfl) hay19 ((f3 _ (by omega)).trans ha.1) rfl inA_X3 2 (by decide) q_163 rfl rfl dX1_longestRow_60 ?_
              refine z_iconst (z := 0) C dX1_longestRow_63 rfl ?_
              refine z_iload_n C 3 dX1_longestRow_64 rfl ?_
              refine z_iadd C dX1_longestRow_65 ?_
              refine z_iald C (lt_A (c := 1) hN rfl) hay20 ((f3 _ (by omega)).trans ha.2) ((0 + i).toNat) (by omega) (by omega) (by decide) dX1_longestRow_66 ?_
              refine z_aload_n C 6 dX1_longestRow_67 rfl ?_
              refine z_get (v := .ref (ad (a2 + 1))) C (by omega) hay21 ((f3 _ (by omega)).trans ha2.1) rfl inA_X3 2 (by decide) q_163 rfl rfl dX1_longestRow_68 ?_
              refine z_iconst (z := 0) C dX1_longestRow_71 rfl ?_
              refine z_iload C 1 dX1_longestRow_72 rfl ?_
              refine z_iadd C dX1_longestRow_74 ?_
              refine z_iald C (by omega) hay22 ((f3 _ (by omega)).trans ha2.2) ((0 + j).toNat) (by omega) (by omega) (by decide) dX1_longestRow_75 ?_
              obtain ⟨xy24, exy25, hxy26⟩ := zI_of (zI (r2 ((0 + j).toNat)))
              rw [exy25]
              obtain ⟨xy27, exy28, hxy29⟩ := zI_of (zI (r ((0 + i).toNat)))
              rw [exy28]
              refine z_icmp_ne (tgt := 83) C dX1_longestRow_76 (by decide) (by omega) (by omega) (fun hby30 => ?_) (fun hby30 => ?_)
              · refine z_iconst (z := 0) C dX1_longestRow_83 rfl ?_
                refine z_istore (lv' := [(7, .int (zI (0))), (6, .int (zI (r9 ((j + 1).toNat)))), (5, .int (zI (j))), (4, .int (zI (co))), (3, .int (zI (i))), (0, .ref (ad c0)), (1, .ref (ad a)), (2, .ref (ad a2))]) C dX1_longestRow_84 (by decide) rfl ?_
                refine z_aload_n C 5 dX1_longestRow_86 rfl ?_
                refine z_get (v := .ref (ad (c0 + 1))) C (by omega) hay17 ((f3 _ (by omega)).trans hc.1) rfl inA_X1 0 (by decide) q_313 rfl rfl dX1_longestRow_87 ?_
                refine z_iload C 2 dX1_longestRow_90 rfl ?_
                refine z_iconst (z := 1) C dX1_longestRow_92 rfl ?_
                refine z_iadd C dX1_longestRow_93 ?_
                refine z_iload C 0 dX1_longestRow_94 rfl ?_
                refine z_if_eq (tgt := 106) C dX1_longestRow_96 (by decide) (by omega) (fun _ => ?_) (fun h => absurd h (by omega))
                refine z_iload C 1 dX1_longestRow_106 rfl ?_
                refine z_aload_n C 5 dX1_longestRow_108 rfl ?_
                refine z_get (v := .ref (ad (c0 + 1))) C (by omega) hay17 ((f3 _ (by omega)).trans hc.1) rfl inA_X1 0 (by decide) q_313 rfl rfl dX1_longestRow_109 ?_
                refine z_iload C 2 dX1_longestRow_112 rfl ?_
                refine z_iald C (by omega) hay18 f1 ((j).toNat) (by omega) (by omega) (by decide) dX1_longestRow_114 ?_
                obtain ⟨xy31, exy32, hxy33⟩ := zI_of (zI (r9 ((j).toNat)))
                rw [exy32]
                obtain ⟨xy34, exy35, hxy36⟩ := zI_of (zI (r9 ((j + 1).toNat)))
                rw [exy35]
                refine z_mmax C q_1338 q_470 q_20 q_471 (by omega) (by omega) (by decide) (Nat.le_of_ble_eq_true rfl) (by decide) (by decide) dX1_longestRow_115 ?_
                obtain ⟨xy37, exy38, hxy39⟩ := mm_max (xy34) (xy31)
                rw [exy38]
                refine z_iast C (by omega) hay18 f1 ((j + 1).toNat) (by omega) (by omega) (by decide) dX1_longestRow_118 (fun gy40 egy41 => ?_)
                have hgy42 := up_s egy41
                refine z_iload C 1 dX1_longestRow_119 rfl ?_
                refine z_istore (lv' := [(4, .int (zI (xy34))), (7, .int (zI (0))), (6, .int (zI (xy34))), (5, .int (zI (j))), (3, .int (zI (i))), (0, .ref (ad c0)), (1, .ref (ad a)), (2, .ref (ad a2))]) C dX1_longestRow_121 (by decide) rfl ?_
                refine z_iinc (z := j + 1) (lv' := [(5, .int (zI (j + 1))), (4, .int (zI (xy34))), (7, .int (zI (0))), (6, .int (zI (xy34))), (3, .int (zI (i))), (0, .ref (ad c0)), (1, .ref (ad a)), (2, .ref (ad a2))]) (j := 3) C dX1_longestRow_123 rfl rfl (by decide) rfl ?_
                refine z_goto (tgt := 39) C dX1_longestRow_126 (by decide) ?_
                refine z_lv (lv' := [(5, .int (zI (j + 1))), (4, .int (zI (xy34))), (3, .int (zI (i))), (0, .ref (ad c0)), (1, .ref (ad a)), (2, .ref (ad a2))]) [0, 1, 4, 5, 6, 7] rfl ?_
                exact ih_lp3 _ (by omega) (j + 1) (xy34) _ gy40 rfl hgy42 (fun j j1 => by rw [egy41, va_up_ne _ _ (by omega)]; exact f3 j j1) (by omega) (by omega)
              · refine z_iconst (z := 1) C dX1_longestRow_79 rfl ?_
                refine z_goto (tgt := 84) C dX1_longestRow_80 (by decide) ?_
                refine z_istore (lv' := [(7, .int (zI (1))), (6, .int (zI (r9 ((j + 1).toNat)))), (5, .int (zI (j))), (4, .int (zI (co))), (3, .int (zI (i))), (0, .ref (ad c0)), (1, .ref (ad a)), (2, .ref (ad a2))]) C dX1_longestRow_84 (by decide) rfl ?_
                refine z_aload_n C 5 dX1_longestRow_86 rfl ?_
                refine z_get (v := .ref (ad (c0 + 1))) C (by omega) hay17 ((f3 _ (by omega)).trans hc.1) rfl inA_X1 0 (by decide) q_313 rfl rfl dX1_longestRow_87 ?_
                refine z_iload C 2 dX1_longestRow_90 rfl ?_
                refine z_iconst (z := 1) C dX1_longestRow_92 rfl ?_
                refine z_iadd C dX1_longestRow_93 ?_
                refine z_iload C 0 dX1_longestRow_94 rfl ?_
                refine z_if_eq (tgt := 106) C dX1_longestRow_96 (by decide) (by omega) (fun h => absurd h (by omega)) (fun _ => ?_)
                refine z_iload C 3 dX1_longestRow_99 rfl ?_
                refine z_iconst (z := 1) C dX1_longestRow_101 rfl ?_
                refine z_iadd C dX1_longestRow_102 ?_
                refine z_goto (tgt := 118) C dX1_longestRow_103 (by decide) ?_
                refine z_iast C (by omega) hay18 f1 ((j + 1).toNat) (by omega) (by omega) (by decide) dX1_longestRow_118 (fun gy43 egy44 => ?_)
                have hgy45 := up_s egy44
                refine z_iload C 1 dX1_longestRow_119 rfl ?_
                refine z_istore (lv' := [(4, .int (zI (r9 ((j + 1).toNat)))), (7, .int (zI (1))), (6, .int (zI (r9 ((j + 1).toNat)))), (5, .int (zI (j))), (3, .int (zI (i))), (0, .ref (ad c0)), (1, .ref (ad a)), (2, .ref (ad a2))]) C dX1_longestRow_121 (by decide) rfl ?_
                refine z_iinc (z := j + 1) (lv' := [(5, .int (zI (j + 1))), (4, .int (zI (r9 ((j + 1).toNat)))), (7, .int (zI (1))), (6, .int (zI (r9 ((j + 1).toNat)))), (3, .int (zI (i))), (0, .ref (ad c0)), (1, .ref (ad a)), (2, .ref (ad a2))]) (j := 3) C dX1_longestRow_123 rfl rfl (by decide) rfl ?_
                refine z_goto (tgt := 39) C dX1_longestRow_126 (by decide) ?_
                obtain ⟨xy46, exy47, hxy48⟩ := zI_of (zI (r9 ((j + 1).toNat)))
                rw [exy47]
                refine z_lv (lv' := [(5, .int (zI (j + 1))), (4, .int (zI (xy46))), (3, .int (zI (i))), (0, .ref (ad c0)), (1, .ref (ad a)), (2, .ref (ad a2))]) [0, 1, 4, 5, 6, 7] rfl ?_
                exact ih_lp3 _ (by omega) (j + 1) (xy46) _ gy43 rfl hgy45 (fun j j1 => by rw [egy44, va_up_ne _ _ (by omega)]; exact f3 j j1) (by omega) (by omega)
        refine z_lv (lv' := [(5, .int (zI (0))), (4, .int (zI (0))), (3, .int (zI (i))), (0, .ref (ad c0)), (1, .ref (ad a)), (2, .ref (ad a2))]) [0, 1, 2, 3, 4, 5] rfl ?_
        exact lp3 _ (0) (0) _ g1 rfl f1 (fun j j1 => by exact f3 j j1) (by omega) (by omega)
  have lp1 : ∀ (n9 : Nat) (j : Int) (r9 : Nat → Int) (g1 : Nat → va_E), (13 - j).toNat = n9 → (g1 (c0 + 1) = iA cs 13 r9) → (∀ j, j ≠ c0 + 1 → g1 j = g j) → (0 ≤ j ∧ j ≤ 13) → zV p l e ({ frames := 2, cells := 0, slots := 0, locals := 120 } : Room) s m ([.ref (ad c0), .ref (ad a), .ref (ad a2)] : List Value).toArray below meth c (MQ below (zPost D A (rI0 N ad fun r g' => (-2147483648 ≤ r ∧ r ≤ 2147483647) ∧ okLike cs ad g' c0 ∧ ∀ j, j ≠ c0 + 1 → g' j = g j)) ([.ref (ad c0), .ref (ad a), .ref (ad a2)] : List Value).toArray s ({ frames := 2, cells := 0, slots := 0, locals := 120 } : Room).cells ({ frames := 2, cells := 0, slots := 0, locals := 120 } : Room).slots A) D A 8 (N) ad g1 (0) (0) 2 [(3, .int (zI (j))), (0, .ref (ad c0)), (1, .ref (ad a)), (2, .ref (ad a2))] [] := by
    intro n9
    induction n9 using Nat.strongRecOn with
    | ind n9 ih_lp1 =>
      intro j r9 g1 hm9 f1 f3 hw0
      have hay49 : zAt ad (c0) (ad c0) := rfl
      have hay50 : zAt ad (c0 + 1) (ad (c0 + 1)) := rfl
      have hay51 : zAt ad (a) (ad a) := rfl
      have hay52 : zAt ad (a + 1) (ad (a + 1)) := rfl
      have hay53 : zAt ad (a2) (ad a2) := rfl
      have hay54 : zAt ad (a2 + 1) (ad (a2 + 1)) := rfl
      refine z_iload_n C 0 dX1_longestRow_2 rfl ?_
      refine z_aload_n C 3 dX1_longestRow_3 rfl ?_
      refine z_get (v := .int (zI (sz2))) C (by omega) hay53 ((f3 _ (by omega)).trans ha2.1) rfl inA_X3 0 (by decide) q_155 rfl rfl dX1_longestRow_4 ?_
      refine z_icmp_gt (tgt := 23) C dX1_longestRow_7 (by decide) (by omega) (by omega) (fun hby55 => ?_) (fun hby55 => ?_)
      · refine z_iconst (z := 0) C dX1_longestRow_23 rfl ?_
        refine z_istore_n (lv' := [(3, .int (zI (0))), (0, .ref (ad c0)), (1, .ref (ad a)), (2, .ref (ad a2))]) C dX1_longestRow_24 rfl (by decide) rfl ?_
        refine z_lv (lv' := [(3, .int (zI (0))), (0, .ref (ad c0)), (1, .ref (ad a)), (2, .ref (ad a2))]) [0, 1, 2, 3] rfl ?_
        exact lp2 _ (0) _ g1 rfl f1 (fun j j1 => by exact f3 j j1) (by omega)
      · refine z_aload_n C 1 dX1_longestRow_10 rfl ?_
        refine z_get (v := .ref (ad (c0 + 1))) C (by omega) hay49 ((f3 _ (by omega)).trans hc.1) rfl inA_X1 0 (by decide) q_313 rfl rfl dX1_longestRow_11 ?_
        refine z_iload_n C 0 dX1_longestRow_14 rfl ?_
        refine z_iconst (z := 0) C dX1_longestRow_15 rfl ?_
        refine z_iast C (by omega) hay50 f1 ((j).toNat) (by omega) (by omega) (by decide) dX1_longestRow_16 (fun gy56 egy57 => ?_)
        have hgy58 := up_s egy57
        refine z_iinc (z := j + 1) (lv' := [(3, .int (zI (j + 1))), (0, .ref (ad c0)), (1, .ref (ad a)), (2, .ref (ad a2))]) (j := 0) C dX1_longestRow_17 rfl rfl (by decide) rfl ?_
        refine z_goto (tgt := 2) C dX1_longestRow_20 (by decide) ?_
        refine z_lv (lv' := [(3, .int (zI (j + 1))), (0, .ref (ad c0)), (1, .ref (ad a)), (2, .ref (ad a2))]) [0, 1, 2, 3] rfl ?_
        exact ih_lp1 _ (by omega) (j + 1) _ gy56 rfl hgy58 (fun j j1 => by rw [egy57, va_up_ne _ _ (by omega)]; exact f3 j j1) (by omega)
  refine z_iconst (z := 0) C dX1_longestRow_0 rfl ?_
  refine z_istore_n (lv' := [(3, .int (zI (0))), (0, .ref (ad c0)), (1, .ref (ad a)), (2, .ref (ad a2))]) C dX1_longestRow_1 rfl (by decide) rfl ?_
  refine z_lv (lv' := [(3, .int (zI (0))), (0, .ref (ad c0)), (1, .ref (ad a)), (2, .ref (ad a2))]) [0, 1, 2, 3] rfl ?_
  exact lp1 _ (0) _ g rfl hc.2 (fun j j1 => by rfl) (by omega)

set_option maxRecDepth 100000 in
set_option maxHeartbeats 4000000 in
theorem c_X1_fewestSteps (l : Launch) (D : va_G) (A : Nat → Prop) (cs : Nat → ClassId) (tt : Nat) (N : Nat) (ad : Nat → Nat) (g : Nat → va_E) (c0 : Nat) (hNc : c0 + 2 ≤ N) (r0 : Nat → Int) (hc : isLike cs ad g c0 r0) (a : Nat) (hN : a + 2 ≤ N) (sz ro : Int) (r : Nat → Int) (hz : 0 ≤ sz ∧ sz ≤ 12) (ha : isPack cs ad g a sz ro r) (a2 : Nat) (hN2 : a2 + 2 ≤ N) (sz2 ro2 : Int) (r2 : Nat → Int) (hz2 : 0 ≤ sz2 ∧ sz2 ≤ 12) (ha2 : isPack cs ad g a2 sz2 ro2 r2) (hca : c0 + 2 ≤ a ∨ a + 2 ≤ c0) (hca2 : c0 + 2 ≤ a2 ∨ a2 + 2 ≤ c0) : zM l yX1_fewestSteps cX1_fewestSteps 9 (some .int) ({ frames := 2, cells := 0, slots := 0, locals := 120 } : Room) D A cs tt N ad g [.ref (ad c0), .ref (ad a), .ref (ad a2)] (rI0 N ad fun r g' => (-2147483648 ≤ r ∧ r ≤ 2147483647) ∧ okLike cs ad g' c0 ∧ ∀ j, j ≠ c0 + 1 → g' j = g j) := by
  have hay1 : zAt ad (c0) (ad c0) := rfl
  have hay2 : zAt ad (c0 + 1) (ad (c0 + 1)) := rfl
  have hay3 : zAt ad (a) (ad a) := rfl
  have hay4 : zAt ad (a + 1) (ad (a + 1)) := rfl
  have hay5 : zAt ad (a2) (ad a2) := rfl
  have hay6 : zAt ad (a2 + 1) (ad (a2 + 1)) := rfl
  refine z_of (by decide) (Nat.le_of_ble_eq_true rfl) ?_
  intro p e s m below meth c C hr hlk hnm
  refine z_lv (lv' := [(0, .ref (ad c0)), (1, .ref (ad a)), (2, .ref (ad a2))]) [0, 1, 2] rfl ?_
  have lp2 : ∀ (n9 : Nat) (i : Int) (r9 : Nat → Int) (g1 : Nat → va_E), (12 - i).toNat = n9 → (g1 (c0 + 1) = iA cs 13 r9) → (∀ j, j ≠ c0 + 1 → g1 j = g j) → (0 ≤ i ∧ i ≤ 12) → zV p l e ({ frames := 2, cells := 0, slots := 0, locals := 120 } : Room) s m ([.ref (ad c0), .ref (ad a), .ref (ad a2)] : List Value).toArray below meth c (MQ below (zPost D A (rI0 N ad fun r g' => (-2147483648 ≤ r ∧ r ≤ 2147483647) ∧ okLike cs ad g' c0 ∧ ∀ j, j ≠ c0 + 1 → g' j = g j)) ([.ref (ad c0), .ref (ad a), .ref (ad a2)] : List Value).toArray s ({ frames := 2, cells := 0, slots := 0, locals := 120 } : Room).cells ({ frames := 2, cells := 0, slots := 0, locals := 120 } : Room).slots A) D A 9 (N) ad g1 (0) (0) 25 [(3, .int (zI (i))), (0, .ref (ad c0)), (1, .ref (ad a)), (2, .ref (ad a2))] [] := by
    intro n9
    induction n9 using Nat.strongRecOn with
    | ind n9 ih_lp2 =>
      intro i r9 g1 hm9 f1 f3 hx0
      have hay7 : zAt ad (c0) (ad c0) := rfl
      have hay8 : zAt ad (c0 + 1) (ad (c0 + 1)) := rfl
      have hay9 : zAt ad (a) (ad a) := rfl
      have hay10 : zAt ad (a + 1) (ad (a + 1)) := rfl
      have hay11 : zAt ad (a2) (ad a2) := rfl
      have hay12 : zAt ad (a2 + 1) (ad (a2 + 1)) := rfl
      refine z_iload_n C 0 dX1_fewestSteps_25 rfl ?_
      refine z_aload_n C 2 dX1_fewestSteps_26 rfl ?_
      refine z_get (v := .int (zI (sz))) C (lt_A0 hN rfl) hay9 ((f3 _ (by omega)).trans ha.1) rfl inA_X3 0 (by decide) q_155 rfl rfl dX1_fewestSteps_27 ?_
      refine z_icmp_ge (tgt := 160) C dX1_fewestSteps_30 (by decide) (by omega) (by omega) (fun hby13 => ?_) (fun hby13 => ?_)
      · refine z_aload_n C 1 dX1_fewestSteps_160 rfl ?_
        refine z_get (v := .ref (ad (c0 + 1))) C (by omega) hay7 ((f3 _ (by omega)).trans hc.1) rfl inA_X1 0 (by decide) q_313 rfl rfl dX1_fewestSteps_161 ?_
        refine z_aload_n C 3 dX1_fewestSteps_164 rfl ?_
        refine z_get (v := .int (zI (sz2))) C (by omega) hay11 ((f3 _ (by omega)).trans ha2.1) rfl inA_X3 0 (by decide) q_155 rfl rfl dX1_fewestSteps_165 ?_
        refine z_iald C (by omega) hay8 f1 ((sz2).toNat) (by omega) (by omega) (by decide) dX1_fewestSteps_168 ?_
        obtain ⟨xy14, exy15, hxy16⟩ := zI_of (zI (r9 ((sz2).toNat)))
        rw [exy15]
        exact z_iret C hr hlk dX1_fewestSteps_169 (by decide) (by decide) ⟨xy14, rfl, rfl, rfl, by omega, ⟨_, ((f3 _ (by omega)).trans hc.1), f1⟩, fun j j1 => by exact f3 j j1⟩
      · refine z_aload_n C 1 dX1_fewestSteps_33 rfl ?_
        refine z_get (v := .ref (ad (c0 + 1))) C (by omega) hay7 ((f3 _ (by omega)).trans hc.1) rfl inA_X1 0 (by decide) q_313 rfl rfl dX1_fewestSteps_34 ?_
        refine z_iconst (z := 0) C dX1_fewestSteps_37 rfl ?_
        refine z_iald C (by omega) hay8 f1 (0) (by omega) (by omega) (by decide) dX1_fewestSteps_38 ?_
        refine z_istore (lv' := [(4, .int (zI (r9 (0)))), (3, .int (zI (i))), (0, .ref (ad c0)), (1, .ref (ad a)), (2, .ref (ad a2))]) C dX1_fewestSteps_39 (by decide) rfl ?_
        refine z_aload_n C 2 dX1_fewestSteps_41 rfl ?_
        refine z_get (v := .ref (ad (c0 + 1))) C (by omega) hay7 ((f3 _ (by omega)).trans hc.1) rfl inA_X1 0 (by decide) q_313 rfl rfl dX1_fewestSteps_42 ?_
        refine z_iconst (z := 0) C dX1_fewestSteps_45 rfl ?_
        refine z_iload_n C 1 dX1_fewestSteps_46 rfl ?_
        refine z_iconst (z := 1) C dX1_fewestSteps_47 rfl ?_
        refine z_iadd C dX1_fewestSteps_48 ?_
        refine z_iast C (by omega) hay8 f1 (0) (by omega) (by omega) (by decide) dX1_fewestSteps_49 (fun gy17 egy18 => ?_)
        have hgy19 := up_s egy18
        refine z_iconst (z := 0) C dX1_fewestSteps_50 rfl ?_
        refine z_istore (lv' := [(5, .int (zI (0))), (4, .int (zI (r9 (0)))), (3, .int (zI (i))), (0, .ref (ad c0)), (1, .ref (ad a)), (2, .ref (ad a2))]) C dX1_fewestSteps_51 (by decide) rfl ?_
        have lp3 : ∀ (n9 : Nat) (j : Int) (co : Int) (r9 : Nat → Int) (g1 : Nat → va_E), (12 - j).toNat = n9 → (g1 (c0 + 1) = iA cs 13 r9) → (∀ j, j ≠ c0 + 1 → g1 j = g j) → (0 ≤ j ∧ j ≤ 12) → (-2147483648 ≤ co ∧ co ≤ 2147483647) → zV p l e ({ frames := 2, cells := 0, slots := 0, locals := 120 } : Room) s m ([.ref (ad c0), .ref (ad a), .ref (ad a2)] : List Value).toArray below meth c (MQ below (zPost D A (rI0 N ad fun r g' => (-2147483648 ≤ r ∧ r ≤ 2147483647) ∧ okLike cs ad g' c0 ∧ ∀ j, j ≠ c0 + 1 → g' j = g j)) ([.ref (ad c0), .ref (ad a), .ref (ad a2)] : List Value).toArray s ({ frames := 2, cells := 0, slots := 0, locals := 120 } : Room).cells ({ frames := 2, cells := 0, slots := 0, locals := 120 } : Room).slots A) D A 9 (N) ad g1 (0) (0) 53 [(5, .int (zI (j))), (4, .int (zI (co))), (3, .int (zI (i))), (0, .ref (ad c0)), (1, .ref (ad a)), (2, .ref (ad a2))] [] := by
          intro n9
          induction n9 using Nat.strongRecOn with
          | ind n9 ih_lp3 =>
            intro j co r9 g1 hm9 f1 f3 hy0 hy1
            have hay20 : zAt ad (c0) (ad c0) := rfl
            have hay21 : zAt ad (c0 + 1) (ad (c0 + 1)) := rfl
            have hay22 : zAt ad (a) (ad a) := rfl
            have hay23 : zAt ad (a + 1) (ad (a + 1)) := rfl
            have hay24 : zAt ad (a2) (ad a2) := rfl
            have hay25 : zAt ad (a2 + 1) (ad (a2 + 1)) := rfl
            refine z_iload C 0 dX1_fewestSteps_53 rfl ?_
            refine z_aload_n C 5 dX1_fewestSteps_55 rfl ?_
            refine z_get (v := .int (zI (sz2))) C (by omega) hay24 ((f3 _ (by omega)).trans ha2.1) rfl inA_X3 0 (by decide) q_155 rfl rfl dX1_fewestSteps_56 ?_
            refine z_icmp_ge (tgt := 154) C dX1_fewestSteps_59 (by decide) (by omega) (by omega) (fun hby26 => ?_) (fun hby26 => ?_)
            · refine z_iinc (z := i + 1) (lv' := [(3, .int (zI (i + 1))), (5, .int (zI (j))), (4, .int (zI (co))), (0, .ref (ad c0)), (1, .ref (ad a)), (2, .ref (ad a2))]) (j := 2) C dX1_fewestSteps_154 rfl rfl (by decide) rfl ?_
              refine z_goto (tgt := 25) C dX1_fewestSteps_157 (by decide) ?_
              refine z_lv (lv' := [(3, .int (zI (i + 1))), (0, .ref (ad c0)), (1, .ref (ad a)), (2, .ref (ad a2))]) [0, 3, 4, 5] rfl ?_
              exact ih_lp2 _ (by omega) (i + 1) _ g1 rfl f1 (fun j j1 => by exact f3 j j1) (by omega)
            · refine z_aload_n C 3 dX1_fewestSteps_62 rfl ?_
              refine z_get (v := .ref (ad (c0 + 1))) C (by omega) hay20 ((f3 _ (by omega)).trans hc.1) rfl inA_X1 0 (by decide) q_313 rfl rfl dX1_fewestSteps_63 ?_
              refine z_iload C 0 dX1_fewestSteps_66 rfl ?_
              refine z_iconst (z := 1) C dX1_fewestSteps_68 rfl ?_
              refine z_iadd C dX1_fewestSteps_69 ?_
              refine z_iald C (by omega) hay21 f1 ((j + 1).toNat) (by omega) (by omega) (by decide) dX1_fewestSteps_70 ?_
              refine z_istore (lv' := [(6, .int (zI (r9 ((j + 1).toNat)))), (5, .int (zI (j))), (4, .int (zI (co))), (3, .int (zI (i))), (0, .ref (ad c0)), (1, .ref (ad a)), (2, .ref (ad a2))]) C dX1_fewestSteps_71 (by decide) rfl ?_
              refine z_aload_n C 5 dX1_fewestSteps_73 rfl ?_
              refine z_get (v := .ref (ad (a + 1))) C (lt_A0 hN rfl) hay22 ((f3 _ (by omega)).trans ha.1) rfl inA_X3 2 (by decide) q_163 rfl rfl dX1_fewestSteps_74 ?_
              refine z_iconst (z := 0) C dX1_fewestSteps_77 rfl ?_
              refine z_iload_n C 3 dX1_fewestSteps_78 rfl ?_
              refine z_iadd C dX1_fewestSteps_79 ?_
              refine z_iald C (lt_A (c := 1) hN rfl) hay23 ((f3 _ (by omega)).trans ha.2) ((0 + i).toNat) (by omega) (by omega) (by decide) dX1_fewestSteps_80 ?_
              refine z_aload_n C 6 dX1_fewestSteps_81 rfl ?_
              refine z_get (v := .ref (ad (a2 + 1))) C (by omega) hay24 ((f3 _ (by omega)).trans ha2.1) rfl inA_X3 2 (by decide) q_163 rfl rfl dX1_fewestSteps_82 ?_
              refine z_iconst (z := 0) C dX1_fewestSteps_85 rfl ?_
              refine z_iload C 1 dX1_fewestSteps_86 rfl ?_
              refine z_iadd C dX1_fewestSteps_88 ?_
              refine z_iald C (by omega) hay25 ((f3 _ (by omega)).trans ha2.2) ((0 + j).toNat) (by omega) (by omega) (by decide) dX1_fewestSteps_89 ?_
              obtain ⟨xy27, exy28, hxy29⟩ := zI_of (zI (r2 ((0 + j).toNat)))
              rw [exy28]
              obtain ⟨xy30, exy31, hxy32⟩ := zI_of (zI (r ((0 + i).toNat)))
              rw [exy31]
              refine z_icmp_ne (tgt := 97) C dX1_fewestSteps_90 (by decide) (by omega) (by omega) (fun hby33 => ?_) (fun hby33 => ?_)
              · refine z_iconst (z := 0) C dX1_fewestSteps_97 rfl ?_
                refine z_istore (lv' := [(7, .int (zI (0))), (6, .int (zI (r9 ((j + 1).toNat)))), (5, .int (zI (j))), (4, .int (zI (co))), (3, .int (zI (i))), (0, .ref (ad c0)), (1, .ref (ad a)), (2, .ref (ad a2))]) C dX1_fewestSteps_98 (by decide) rfl ?_
                refine z_iload C 0 dX1_fewestSteps_100 rfl ?_
                refine z_if_eq (tgt := 110) C dX1_fewestSteps_102 (by decide) (by omega) (fun _ => ?_) (fun h => absurd h (by omega))
                refine z_iload C 3 dX1_fewestSteps_110 rfl ?_
                refine z_iconst (z := 1) C dX1_fewestSteps_112 rfl ?_
                refine z_iadd C dX1_fewestSteps_113 ?_
                refine z_istore (lv' := [(8, .int (zI (co + 1))), (7, .int (zI (0))), (6, .int (zI (r9 ((j + 1).toNat)))), (5, .int (zI (j))), (4, .int (zI (co))), (3, .int (zI (i))), (0, .ref (ad c0)), (1, .ref (ad a)), (2, .ref (ad a2))]) C dX1_fewestSteps_114 (by decide) rfl ?_
                refine z_aload_n C 6 dX1_fewestSteps_116 rfl ?_
                refine z_get (v := .ref (ad (c0 + 1))) C (by omega) hay20 ((f3 _ (by omega)).trans hc.1) rfl inA_X1 0 (by decide) q_313 rfl rfl dX1_fewestSteps_117 ?_
                refine z_iload C 3 dX1_fewestSteps_120 rfl ?_
                refine z_iconst (z := 1) C dX1_fewestSteps_122 rfl ?_
                refine z_iadd C dX1_fewestSteps_123 ?_
                refine z_iload C 0 dX1_fewestSteps_124 rfl ?_
                refine z_iload C 2 dX1_fewestSteps_126 rfl ?_
                refine z_aload_n C 6 dX1_fewestSteps_128 rfl ?_
                refine z_get (v := .ref (ad (c0 + 1))) C (by omega) hay20 ((f3 _ (by omega)).trans hc.1) rfl inA_X1 0 (by decide) q_313 rfl rfl dX1_fewestSteps_129 ?_
                refine z_iload C 3 dX1_fewestSteps_132 rfl ?_
                refine z_iald C (by omega) hay21 f1 ((j).toNat) (by omega) (by omega) (by decide) dX1_fewestSteps_134 ?_
                obtain ⟨xy34, exy35, hxy36⟩ := zI_of (zI (r9 ((j).toNat)))
                rw [exy35]
                obtain ⟨xy37, exy38, hxy39⟩ := zI_of (zI (r9 ((j + 1).toNat)))
                rw [exy38]
                refine z_mmin C q_1343 q_473 q_20 q_474 (by omega) (by omega) (by decide) (Nat.le_of_ble_eq_true rfl) (by decide) (by decide) dX1_fewestSteps_135 ?_
                obtain ⟨xy40, exy41, hxy42⟩ := mm_min (xy37) (xy34)
                rw [exy41]
                refine z_iconst (z := 1) C dX1_fewestSteps_138 rfl ?_
                refine z_iadd C dX1_fewestSteps_139 ?_
                obtain ⟨xy43, exy44, hxy45⟩ := zI_of (zI (xy40 + 1))
                rw [exy44]
                obtain ⟨xy46, exy47, hxy48⟩ := zI_of (zI (co + 1))
                rw [exy47]
                refine z_mmin C q_1343 q_473 q_20 q_474 (by omega) (by omega) (by decide) (Nat.le_of_ble_eq_true rfl) (by decide) (by decide) dX1_fewestSteps_140 ?_
                obtain ⟨xy49, exy50, hxy51⟩ := mm_min (xy46) (xy43)
                rw [exy50]
                refine z_iast C (by omega) hay21 f1 ((j + 1).toNat) (by omega) (by omega) (by decide) dX1_fewestSteps_143 (fun gy52 egy53 => ?_)
                have hgy54 := up_s egy53
                refine z_iload C 2 dX1_fewestSteps_144 rfl ?_
                refine z_istore (lv' := [(4, .int (zI (xy37))), (8, .int (zI (xy46))), (7, .int (zI (0))), (6, .int (zI (xy37))), (5, .int (zI (j))), (3, .int (zI (i))), (0, .ref (ad c0)), (1, .ref (ad a)), (2, .ref (ad a2))]) C dX1_fewestSteps_146 (by decide) rfl ?_
                refine z_iinc (z := j + 1) (lv' := [(5, .int (zI (j + 1))), (4, .int (zI (xy37))), (8, .int (zI (xy46))), (7, .int (zI (0))), (6, .int (zI (xy37))), (3, .int (zI (i))), (0, .ref (ad c0)), (1, .ref (ad a)), (2, .ref (ad a2))]) (j := 4) C dX1_fewestSteps_148 rfl rfl (by decide) rfl ?_
                refine z_goto (tgt := 53) C dX1_fewestSteps_151 (by decide) ?_
                refine z_lv (lv' := [(5, .int (zI (j + 1))), (4, .int (zI (xy37))), (3, .int (zI (i))), (0, .ref (ad c0)), (1, .ref (ad a)), (2, .ref (ad a2))]) [0, 1, 5, 6, 7, 8] rfl ?_
                exact ih_lp3 _ (by omega) (j + 1) (xy37) _ gy52 rfl hgy54 (fun j j1 => by rw [egy53, va_up_ne _ _ (by omega)]; exact f3 j j1) (by omega) (by omega)
              · refine z_iconst (z := 1) C dX1_fewestSteps_93 rfl ?_
                refine z_goto (tgt := 98) C dX1_fewestSteps_94 (by decide) ?_
                refine z_istore (lv' := [(7, .int (zI (1))), (6, .int (zI (r9 ((j + 1).toNat)))), (5, .int (zI (j))), (4, .int (zI (co))), (3, .int (zI (i))), (0, .ref (ad c0)), (1, .ref (ad a)), (2, .ref (ad a2))]) C dX1_fewestSteps_98 (by decide) rfl ?_
                refine z_iload C 0 dX1_fewestSteps_100 rfl ?_
                refine z_if_eq (tgt := 110) C dX1_fewestSteps_102 (by decide) (by omega) (fun h => absurd h (by omega)) (fun _ => ?_)
                refine z_iload C 3 dX1_fewestSteps_105 rfl ?_
                refine z_goto (tgt := 114) C dX1_fewestSteps_107 (by decide) ?_
                refine z_istore (lv' := [(8, .int (zI (co))), (7, .int (zI (1))), (6, .int (zI (r9 ((j + 1).toNat)))), (5, .int (zI (j))), (4, .int (zI (co))), (3, .int (zI (i))), (0, .ref (ad c0)), (1, .ref (ad a)), (2, .ref (ad a2))]) C dX1_fewestSteps_114 (by decide) rfl ?_
                refine z_aload_n C 6 dX1_fewestSteps_116 rfl ?_
                refine z_get (v := .ref (ad (c0 + 1))) C (by omega) hay20 ((f3 _ (by omega)).trans hc.1) rfl inA_X1 0 (by decide) q_313 rfl rfl dX1_fewestSteps_117 ?_
                refine z_iload C 3 dX1_fewestSteps_120 rfl ?_
                refine z_iconst (z := 1) C dX1_fewestSteps_122 rfl ?_
                refine z_iadd C dX1_fewestSteps_123 ?_
                refine z_iload C 0 dX1_fewestSteps_124 rfl ?_
                refine z_iload C 2 dX1_fewestSteps_126 rfl ?_
                refine z_aload_n C 6 dX1_fewestSteps_128 rfl ?_
                refine z_get (v := .ref (ad (c0 + 1))) C (by omega) hay20 ((f3 _ (by omega)).trans hc.1) rfl inA_X1 0 (by decide) q_313 rfl rfl dX1_fewestSteps_129 ?_
                refine z_iload C 3 dX1_fewestSteps_132 rfl ?_
                refine z_iald C (by omega) hay21 f1 ((j).toNat) (by omega) (by omega) (by decide) dX1_fewestSteps_134 ?_
                obtain ⟨xy55, exy56, hxy57⟩ := zI_of (zI (r9 ((j).toNat)))
                rw [exy56]
                obtain ⟨xy58, exy59, hxy60⟩ := zI_of (zI (r9 ((j + 1).toNat)))
                rw [exy59]
                refine z_mmin C q_1343 q_473 q_20 q_474 (by omega) (by omega) (by decide) (Nat.le_of_ble_eq_true rfl) (by decide) (by decide) dX1_fewestSteps_135 ?_
                obtain ⟨xy61, exy62, hxy63⟩ := mm_min (xy58) (xy55)
                rw [exy62]
                refine z_iconst (z := 1) C dX1_fewestSteps_138 rfl ?_
                refine z_iadd C dX1_fewestSteps_139 ?_
                obtain ⟨xy64, exy65, hxy66⟩ := zI_of (zI (xy61 + 1))
                rw [exy65]
                refine z_mmin C q_1343 q_473 q_20 q_474 (by omega) (by omega) (by decide) (Nat.le_of_ble_eq_true rfl) (by decide) (by decide) dX1_fewestSteps_140 ?_
                obtain ⟨xy67, exy68, hxy69⟩ := mm_min (co) (xy64)
                rw [exy68]
                refine z_iast C (by omega) hay21 f1 ((j + 1).toNat) (by omega) (by omega) (by decide) dX1_fewestSteps_143 (fun gy70 egy71 => ?_)
                have hgy72 := up_s egy71
                refine z_iload C 2 dX1_fewestSteps_144 rfl ?_
                refine z_istore (lv' := [(4, .int (zI (xy58))), (8, .int (zI (co))), (7, .int (zI (1))), (6, .int (zI (xy58))), (5, .int (zI (j))), (3, .int (zI (i))), (0, .ref (ad c0)), (1, .ref (ad a)), (2, .ref (ad a2))]) C dX1_fewestSteps_146 (by decide) rfl ?_
                refine z_iinc (z := j + 1) (lv' := [(5, .int (zI (j + 1))), (4, .int (zI (xy58))), (8, .int (zI (co))), (7, .int (zI (1))), (6, .int (zI (xy58))), (3, .int (zI (i))), (0, .ref (ad c0)), (1, .ref (ad a)), (2, .ref (ad a2))]) (j := 4) C dX1_fewestSteps_148 rfl rfl (by decide) rfl ?_
                refine z_goto (tgt := 53) C dX1_fewestSteps_151 (by decide) ?_
                refine z_lv (lv' := [(5, .int (zI (j + 1))), (4, .int (zI (xy58))), (3, .int (zI (i))), (0, .ref (ad c0)), (1, .ref (ad a)), (2, .ref (ad a2))]) [0, 1, 5, 6, 7, 8] rfl ?_
                exact ih_lp3 _ (by omega) (j + 1) (xy58) _ gy70 rfl hgy72 (fun j j1 => by rw [egy71, va_up_ne _ _ (by omega)]; exact f3 j j1) (by omega) (by omega)
        obtain ⟨xy73, exy74, hxy75⟩ := zI_of (zI (r9 (0)))
        rw [exy74]
        refine z_lv (lv' := [(5, .int (zI (0))), (4, .int (zI (xy73))), (3, .int (zI (i))), (0, .ref (ad c0)), (1, .ref (ad a)), (2, .ref (ad a2))]) [0, 1, 2, 3, 4, 5] rfl ?_
        exact lp3 _ (0) (xy73) _ gy17 rfl hgy19 (fun j j1 => by rw [egy18, va_up_ne _ _ (by omega)]; exact f3 j j1) (by omega) (by omega)
  have lp1 : ∀ (n9 : Nat) (j : Int) (r9 : Nat → Int) (g1 : Nat → va_E), (13 - j).toNat = n9 → (g1 (c0 + 1) = iA cs 13 r9) → (∀ j, j ≠ c0 + 1 → g1 j = g j) → (0 ≤ j ∧ j ≤ 13) → zV p l e ({ frames := 2, cells := 0, slots := 0, locals := 120 } : Room) s m ([.ref (ad c0), .ref (ad a), .ref (ad a2)] : List Value).toArray below meth c (MQ below (zPost D A (rI0 N ad fun r g' => (-2147483648 ≤ r ∧ r ≤ 2147483647) ∧ okLike cs ad g' c0 ∧ ∀ j, j ≠ c0 + 1 → g' j = g j)) ([.ref (ad c0), .ref (ad a), .ref (ad a2)] : List Value).toArray s ({ frames := 2, cells := 0, slots := 0, locals := 120 } : Room).cells ({ frames := 2, cells := 0, slots := 0, locals := 120 } : Room).slots A) D A 9 (N) ad g1 (0) (0) 2 [(3, .int (zI (j))), (0, .ref (ad c0)), (1, .ref (ad a)), (2, .ref (ad a2))] [] := by
    intro n9
    induction n9 using Nat.strongRecOn with
    | ind n9 ih_lp1 =>
      intro j r9 g1 hm9 f1 f3 hw0
      have hay76 : zAt ad (c0) (ad c0) := rfl
      have hay77 : zAt ad (c0 + 1) (ad (c0 + 1)) := rfl
      have hay78 : zAt ad (a) (ad a) := rfl
      have hay79 : zAt ad (a + 1) (ad (a + 1)) := rfl
      have hay80 : zAt ad (a2) (ad a2) := rfl
      have hay81 : zAt ad (a2 + 1) (ad (a2 + 1)) := rfl
      refine z_iload_n C 0 dX1_fewestSteps_2 rfl ?_
      refine z_aload_n C 3 dX1_fewestSteps_3 rfl ?_
      refine z_get (v := .int (zI (sz2))) C (by omega) hay80 ((f3 _ (by omega)).trans ha2.1) rfl inA_X3 0 (by decide) q_155 rfl rfl dX1_fewestSteps_4 ?_
      refine z_icmp_gt (tgt := 23) C dX1_fewestSteps_7 (by decide) (by omega) (by omega) (fun hby82 => ?_) (fun hby82 => ?_)
      · refine z_iconst (z := 0) C dX1_fewestSteps_23 rfl ?_
        refine z_istore_n (lv' := [(3, .int (zI (0))), (0, .ref (ad c0)), (1, .ref (ad a)), (2, .ref (ad a2))]) C dX1_fewestSteps_24 rfl (by decide) rfl ?_
        refine z_lv (lv' := [(3, .int (zI (0))), (0, .ref (ad c0)), (1, .ref (ad a)), (2, .ref (ad a2))]) [0, 1, 2, 3] rfl ?_
        exact lp2 _ (0) _ g1 rfl f1 (fun j j1 => by exact f3 j j1) (by omega)
      · refine z_aload_n C 1 dX1_fewestSteps_10 rfl ?_
        refine z_get (v := .ref (ad (c0 + 1))) C (by omega) hay76 ((f3 _ (by omega)).trans hc.1) rfl inA_X1 0 (by decide) q_313 rfl rfl dX1_fewestSteps_11 ?_
        refine z_iload_n C 0 dX1_fewestSteps_14 rfl ?_
        refine z_iload_n C 0 dX1_fewestSteps_15 rfl ?_
        refine z_iast C (by omega) hay77 f1 ((j).toNat) (by omega) (by omega) (by decide) dX1_fewestSteps_16 (fun gy83 egy84 => ?_)
        have hgy85 := up_s egy84
        refine z_iinc (z := j + 1) (lv' := [(3, .int (zI (j + 1))), (0, .ref (ad c0)), (1, .ref (ad a)), (2, .ref (ad a2))]) (j := 0) C dX1_fewestSteps_17 rfl rfl (by decide) rfl ?_
        refine z_goto (tgt := 2) C dX1_fewestSteps_20 (by decide) ?_
        refine z_lv (lv' := [(3, .int (zI (j + 1))), (0, .ref (ad c0)), (1, .ref (ad a)), (2, .ref (ad a2))]) [0, 1, 2, 3] rfl ?_
        exact ih_lp1 _ (by omega) (j + 1) _ gy83 rfl hgy85 (fun j j1 => by rw [egy84, va_up_ne _ _ (by omega)]; exact f3 j j1) (by omega)
  refine z_iconst (z := 0) C dX1_fewestSteps_0 rfl ?_
  refine z_istore_n (lv' := [(3, .int (zI (0))), (0, .ref (ad c0)), (1, .ref (ad a)), (2, .ref (ad a2))]) C dX1_fewestSteps_1 rfl (by decide) rfl ?_
  refine z_lv (lv' := [(3, .int (zI (0))), (0, .ref (ad c0)), (1, .ref (ad a)), (2, .ref (ad a2))]) [0, 1, 2, 3] rfl ?_
  exact lp1 _ (0) _ g rfl hc.2 (fun j j1 => by rfl) (by omega)
end
section
-- 38.words.lean.txt
-- words of rec0
theorem q_1266 : (Jvm.Cond.methodLink "SnowRecorder" (424 : Nat) ({ cls := "java/lang/Math", name := "min", desc := "(II)I" } : Jvm.MethodName)) ∈ AW := AW_m6 66 (by decide +kernel) (by decide +kernel)
theorem q_1440 : (Jvm.Cond.constant "SnowRecorder" (466 : Nat) (1103515245 : Int32)) ∈ AW := AW_m7 0 (by decide +kernel) (by decide +kernel)
theorem q_158 : (Jvm.Cond.fieldLink "SnowRecorder" (193 : Nat) "SnowRecorder$Pack" "size" "I") ∈ AW := AW_m1 158 (by decide +kernel) (by decide +kernel)
theorem q_186 : (Jvm.Cond.fieldLink "SnowRecorder" (150 : Nat) "SnowRecorder$World" "pits" "I") ∈ AW := AW_m1 186 (by decide +kernel) (by decide +kernel)
theorem q_19 : (Jvm.Cond.initialized "java/lang/IllegalArgumentException") ∈ AW := AW_m1 19 (by decide +kernel) (by decide +kernel)
theorem q_191 : (Jvm.Cond.fieldLink "SnowRecorder" (280 : Nat) "SnowRecorder$World" "packs" "[LSnowRecorder$Pack;") ∈ AW := AW_m1 191 (by decide +kernel) (by decide +kernel)
theorem q_24 : (Jvm.Cond.initialized "java/util/NoSuchElementException") ∈ AW := AW_m1 24 (by decide +kernel) (by decide +kernel)
theorem q_258 : (Jvm.Cond.fieldLink "SnowRecorder" (112 : Nat) "SnowRecorder$State" "now" "LSnowRecorder$World;") ∈ AW := AW_m2 18 (by decide +kernel) (by decide +kernel)
theorem q_537 : (Jvm.Cond.methodLink "SnowRecorder" (268 : Nat) ({ cls := "SnowRecorder", name := "isSlope", desc := "(I)Z" } : Jvm.MethodName)) ∈ AW := AW_m3 57 (by decide +kernel) (by decide +kernel)
theorem q_539 : (Jvm.Cond.instanceMethod ({ cls := "SnowRecorder", name := "isSlope", desc := "(I)Z" } : Jvm.MethodName)) ∈ AW := AW_m3 59 (by decide +kernel) (by decide +kernel)
theorem q_540 : (Jvm.Cond.code ({ cls := "SnowRecorder", name := "isSlope", desc := "(I)Z" } : Jvm.MethodName) prog_1_method_37_code (2 : Nat) (Option.some Jvm.ClassFile.FieldType.boolean)) ∈ AW := AW_m3 60 (by decide +kernel) (by decide +kernel)
theorem q_658 : (Jvm.Cond.classLink "SnowRecorder" (86 : Nat) "java/lang/IllegalArgumentException") ∈ AW := AW_m3 178 (by decide +kernel) (by decide +kernel)
theorem q_90 : (Jvm.Cond.fieldLink "SnowRecorder" (115 : Nat) "SnowRecorder$Plan" "slopes" "I") ∈ AW := AW_m1 90 (by decide +kernel) (by decide +kernel)
theorem q_904 : (Jvm.Cond.classLink "SnowRecorder" (165 : Nat) "java/util/NoSuchElementException") ∈ AW := AW_m4 184 (by decide +kernel) (by decide +kernel)
theorem q_940 : (Jvm.Cond.methodLink "SnowRecorder" (300 : Nat) ({ cls := "SnowRecorder", name := "needSlope", desc := "(I)V" } : Jvm.MethodName)) ∈ AW := AW_m4 220 (by decide +kernel) (by decide +kernel)
theorem q_942 : (Jvm.Cond.instanceMethod ({ cls := "SnowRecorder", name := "needSlope", desc := "(I)V" } : Jvm.MethodName)) ∈ AW := AW_m4 222 (by decide +kernel) (by decide +kernel)
theorem q_943 : (Jvm.Cond.code ({ cls := "SnowRecorder", name := "needSlope", desc := "(I)V" } : Jvm.MethodName) prog_1_method_38_code (2 : Nat) (Option.none : Option Jvm.ClassFile.FieldType)) ∈ AW := AW_m4 223 (by decide +kernel) (by decide +kernel)
theorem s_24 : Cond.selects "SnowRecorder" ({ cls := "SnowRecorder", name := "needSlope", desc := "(I)V" } : Jvm.MethodName) ({ cls := "SnowRecorder", name := "needSlope", desc := "(I)V" } : Jvm.MethodName) ∈ AW := AW_m 24 (by decide +kernel) (by decide +kernel)
theorem s_5 : Cond.selects "SnowRecorder" ({ cls := "SnowRecorder", name := "isSlope", desc := "(I)Z" } : Jvm.MethodName) ({ cls := "SnowRecorder", name := "isSlope", desc := "(I)Z" } : Jvm.MethodName) ∈ AW := AW_m 5 (by decide +kernel) (by decide +kernel)
theorem hd_yX9_isSlope : yX9_isSlope.cls ≠ "java/lang/invoke/MethodHandle" ∧ yX9_isSlope.cls ≠ "java/lang/invoke/VarHandle" ∧ (parseMethodDescriptor yX9_isSlope.desc).map (fun d => d.parameters.length) = some 1 := by decide +kernel
theorem hd_yX9_needSlope : yX9_needSlope.cls ≠ "java/lang/invoke/MethodHandle" ∧ yX9_needSlope.cls ≠ "java/lang/invoke/VarHandle" ∧ (parseMethodDescriptor yX9_needSlope.desc).map (fun d => d.parameters.length) = some 1 := by decide +kernel
theorem mv_yX9_isSlope : zWv yX9_isSlope cX9_isSlope 2 (some .boolean) := ⟨q_539, s_5, q_1, q_540⟩
theorem mv_yX9_needSlope : zWv yX9_needSlope cX9_needSlope 2 none := ⟨q_942, s_24, q_1, q_943⟩
end
section
-- 39.dec.lean.txt
-- decode rows of rec0
theorem dX9_isSlope_0 : decode cX9_isSlope 0 = .ok (.iload_n 1, 1) := by decide +kernel
theorem dX9_isSlope_1 : decode cX9_isSlope 1 = .ok (.ifCond .lt 18, 3) := by decide +kernel
theorem dX9_isSlope_19 : decode cX9_isSlope 19 = .ok (.iconst 0, 1) := by decide +kernel
theorem dX9_isSlope_20 : decode cX9_isSlope 20 = .ok (.ireturn, 1) := by decide +kernel
theorem dX9_isSlope_4 : decode cX9_isSlope 4 = .ok (.iload_n 1, 1) := by decide +kernel
theorem dX9_isSlope_5 : decode cX9_isSlope 5 = .ok (.aload_n 0, 1) := by decide +kernel
theorem dX9_isSlope_6 : decode cX9_isSlope 6 = .ok (.getfield 30, 3) := by decide +kernel
theorem dX9_isSlope_9 : decode cX9_isSlope 9 = .ok (.getfield 115, 3) := by decide +kernel
theorem dX9_isSlope_12 : decode cX9_isSlope 12 = .ok (.if_icmp .ge 7, 3) := by decide +kernel
theorem dX9_isSlope_15 : decode cX9_isSlope 15 = .ok (.iconst 1, 1) := by decide +kernel
theorem dX9_isSlope_16 : decode cX9_isSlope 16 = .ok (.goto 4, 3) := by decide +kernel
theorem dX9_needSlope_0 : decode cX9_needSlope 0 = .ok (.aload_n 0, 1) := by decide +kernel
theorem dX9_needSlope_1 : decode cX9_needSlope 1 = .ok (.iload_n 1, 1) := by decide +kernel
theorem dX9_needSlope_2 : decode cX9_needSlope 2 = .ok (.invokevirtual 268, 3) := by decide +kernel
theorem dX9_needSlope_5 : decode cX9_needSlope 5 = .ok (.ifCond .ne 14, 3) := by decide +kernel
theorem dX9_needSlope_19 : decode cX9_needSlope 19 = .ok (.return_, 1) := by decide +kernel
theorem dX9_needSlope_8 : decode cX9_needSlope 8 = .ok (.new 165, 3) := by decide +kernel
theorem dX9_needSlope_11 : decode cX9_needSlope 11 = .ok (.dup, 1) := by decide +kernel
theorem dX9_needSlope_12 : decode cX9_needSlope 12 = .ok (.ldc_w 414, 3) := by decide +kernel
theorem dX9_needSlope_15 : decode cX9_needSlope 15 = .ok (.invokespecial 169, 3) := by decide +kernel
theorem dX9_needSlope_18 : decode cX9_needSlope 18 = .ok (.athrow, 1) := by decide +kernel
theorem dX9_packOf_0 : decode cX9_packOf 0 = .ok (.aload_n 0, 1) := by decide +kernel
theorem dX9_packOf_1 : decode cX9_packOf 1 = .ok (.iload_n 1, 1) := by decide +kernel
theorem dX9_packOf_2 : decode cX9_packOf 2 = .ok (.invokevirtual 300, 3) := by decide +kernel
theorem dX9_packOf_5 : decode cX9_packOf 5 = .ok (.aload_n 0, 1) := by decide +kernel
theorem dX9_packOf_6 : decode cX9_packOf 6 = .ok (.getfield 37, 3) := by decide +kernel
theorem dX9_packOf_9 : decode cX9_packOf 9 = .ok (.getfield 112, 3) := by decide +kernel
theorem dX9_packOf_12 : decode cX9_packOf 12 = .ok (.getfield 280, 3) := by decide +kernel
theorem dX9_packOf_15 : decode cX9_packOf 15 = .ok (.iload_n 1, 1) := by decide +kernel
theorem dX9_packOf_16 : decode cX9_packOf 16 = .ok (.aaload, 1) := by decide +kernel
theorem dX9_packOf_17 : decode cX9_packOf 17 = .ok (.areturn, 1) := by decide +kernel
theorem dX9_needLayer_0 : decode cX9_needLayer 0 = .ok (.iload_n 2, 1) := by decide +kernel
theorem dX9_needLayer_1 : decode cX9_needLayer 1 = .ok (.ifCond .lt 11, 3) := by decide +kernel
theorem dX9_needLayer_12 : decode cX9_needLayer 12 = .ok (.new 165, 3) := by decide +kernel
theorem dX9_needLayer_15 : decode cX9_needLayer 15 = .ok (.dup, 1) := by decide +kernel
theorem dX9_needLayer_16 : decode cX9_needLayer 16 = .ok (.ldc_w 416, 3) := by decide +kernel
theorem dX9_needLayer_19 : decode cX9_needLayer 19 = .ok (.invokespecial 169, 3) := by decide +kernel
theorem dX9_needLayer_22 : decode cX9_needLayer 22 = .ok (.athrow, 1) := by decide +kernel
theorem dX9_needLayer_4 : decode cX9_needLayer 4 = .ok (.iload_n 2, 1) := by decide +kernel
theorem dX9_needLayer_5 : decode cX9_needLayer 5 = .ok (.aload_n 1, 1) := by decide +kernel
theorem dX9_needLayer_6 : decode cX9_needLayer 6 = .ok (.getfield 193, 3) := by decide +kernel
theorem dX9_needLayer_9 : decode cX9_needLayer 9 = .ok (.if_icmp .lt 14, 3) := by decide +kernel
theorem dX9_needLayer_23 : decode cX9_needLayer 23 = .ok (.return_, 1) := by decide +kernel
theorem dX9_needPit_0 : decode cX9_needPit 0 = .ok (.iload_n 1, 1) := by decide +kernel
theorem dX9_needPit_1 : decode cX9_needPit 1 = .ok (.ifCond .lt 17, 3) := by decide +kernel
theorem dX9_needPit_18 : decode cX9_needPit 18 = .ok (.new 165, 3) := by decide +kernel
theorem dX9_needPit_21 : decode cX9_needPit 21 = .ok (.dup, 1) := by decide +kernel
theorem dX9_needPit_22 : decode cX9_needPit 22 = .ok (.ldc_w 418, 3) := by decide +kernel
theorem dX9_needPit_25 : decode cX9_needPit 25 = .ok (.invokespecial 169, 3) := by decide +kernel
theorem dX9_needPit_28 : decode cX9_needPit 28 = .ok (.athrow, 1) := by decide +kernel
theorem dX9_needPit_4 : decode cX9_needPit 4 = .ok (.iload_n 1, 1) := by decide +kernel
theorem dX9_needPit_5 : decode cX9_needPit 5 = .ok (.aload_n 0, 1) := by decide +kernel
theorem dX9_needPit_6 : decode cX9_needPit 6 = .ok (.getfield 37, 3) := by decide +kernel
theorem dX9_needPit_9 : decode cX9_needPit 9 = .ok (.getfield 112, 3) := by decide +kernel
theorem dX9_needPit_12 : decode cX9_needPit 12 = .ok (.getfield 150, 3) := by decide +kernel
theorem dX9_needPit_15 : decode cX9_needPit 15 = .ok (.if_icmp .lt 14, 3) := by decide +kernel
theorem dX9_needPit_29 : decode cX9_needPit 29 = .ok (.return_, 1) := by decide +kernel
theorem dX9_needWhat_0 : decode cX9_needWhat 0 = .ok (.iload_n 0, 1) := by decide +kernel
theorem dX9_needWhat_1 : decode cX9_needWhat 1 = .ok (.ifCond .lt 8, 3) := by decide +kernel
theorem dX9_needWhat_9 : decode cX9_needWhat 9 = .ok (.new 165, 3) := by decide +kernel
theorem dX9_needWhat_12 : decode cX9_needWhat 12 = .ok (.dup, 1) := by decide +kernel
theorem dX9_needWhat_13 : decode cX9_needWhat 13 = .ok (.ldc_w 420, 3) := by decide +kernel
theorem dX9_needWhat_16 : decode cX9_needWhat 16 = .ok (.invokespecial 169, 3) := by decide +kernel
theorem dX9_needWhat_19 : decode cX9_needWhat 19 = .ok (.athrow, 1) := by decide +kernel
theorem dX9_needWhat_4 : decode cX9_needWhat 4 = .ok (.iload_n 0, 1) := by decide +kernel
theorem dX9_needWhat_5 : decode cX9_needWhat 5 = .ok (.iload_n 1, 1) := by decide +kernel
theorem dX9_needWhat_6 : decode cX9_needWhat 6 = .ok (.if_icmp .le 14, 3) := by decide +kernel
theorem dX9_needWhat_20 : decode cX9_needWhat 20 = .ok (.return_, 1) := by decide +kernel
theorem dX9_needHours_0 : decode cX9_needHours 0 = .ok (.iload_n 0, 1) := by decide +kernel
theorem dX9_needHours_1 : decode cX9_needHours 1 = .ok (.iload_n 1, 1) := by decide +kernel
theorem dX9_needHours_2 : decode cX9_needHours 2 = .ok (.if_icmp .lt 8, 3) := by decide +kernel
theorem dX9_needHours_10 : decode cX9_needHours 10 = .ok (.new 86, 3) := by decide +kernel
theorem dX9_needHours_13 : decode cX9_needHours 13 = .ok (.dup, 1) := by decide +kernel
theorem dX9_needHours_14 : decode cX9_needHours 14 = .ok (.ldc_w 422, 3) := by decide +kernel
theorem dX9_needHours_17 : decode cX9_needHours 17 = .ok (.invokespecial 90, 3) := by decide +kernel
theorem dX9_needHours_20 : decode cX9_needHours 20 = .ok (.athrow, 1) := by decide +kernel
theorem dX9_needHours_5 : decode cX9_needHours 5 = .ok (.iload_n 0, 1) := by decide +kernel
theorem dX9_needHours_6 : decode cX9_needHours 6 = .ok (.iload_n 2, 1) := by decide +kernel
theorem dX9_needHours_7 : decode cX9_needHours 7 = .ok (.if_icmp .le 14, 3) := by decide +kernel
theorem dX9_needHours_21 : decode cX9_needHours 21 = .ok (.return_, 1) := by decide +kernel
theorem dX9_extraOf_0 : decode cX9_extraOf 0 = .ok (.iload_n 0, 1) := by decide +kernel
theorem dX9_extraOf_1 : decode cX9_extraOf 1 = .ok (.bipush 10, 2) := by decide +kernel
theorem dX9_extraOf_3 : decode cX9_extraOf 3 = .ok (.invokestatic 424, 3) := by decide +kernel
theorem dX9_extraOf_6 : decode cX9_extraOf 6 = .ok (.istore_n 1, 1) := by decide +kernel
theorem dX9_extraOf_7 : decode cX9_extraOf 7 = .ok (.iload_n 0, 1) := by decide +kernel
theorem dX9_extraOf_8 : decode cX9_extraOf 8 = .ok (.iload_n 1, 1) := by decide +kernel
theorem dX9_extraOf_9 : decode cX9_extraOf 9 = .ok (.isub, 1) := by decide +kernel
theorem dX9_extraOf_10 : decode cX9_extraOf 10 = .ok (.bipush 10, 2) := by decide +kernel
theorem dX9_extraOf_12 : decode cX9_extraOf 12 = .ok (.invokestatic 424, 3) := by decide +kernel
theorem dX9_extraOf_15 : decode cX9_extraOf 15 = .ok (.istore_n 2, 1) := by decide +kernel
theorem dX9_extraOf_16 : decode cX9_extraOf 16 = .ok (.iload_n 0, 1) := by decide +kernel
theorem dX9_extraOf_17 : decode cX9_extraOf 17 = .ok (.iload_n 1, 1) := by decide +kernel
theorem dX9_extraOf_18 : decode cX9_extraOf 18 = .ok (.isub, 1) := by decide +kernel
theorem dX9_extraOf_19 : decode cX9_extraOf 19 = .ok (.iload_n 2, 1) := by decide +kernel
theorem dX9_extraOf_20 : decode cX9_extraOf 20 = .ok (.isub, 1) := by decide +kernel
theorem dX9_extraOf_21 : decode cX9_extraOf 21 = .ok (.istore_n 3, 1) := by decide +kernel
theorem dX9_extraOf_22 : decode cX9_extraOf 22 = .ok (.iload_n 1, 1) := by decide +kernel
theorem dX9_extraOf_23 : decode cX9_extraOf 23 = .ok (.iconst 2, 1) := by decide +kernel
theorem dX9_extraOf_24 : decode cX9_extraOf 24 = .ok (.iload_n 2, 1) := by decide +kernel
theorem dX9_extraOf_25 : decode cX9_extraOf 25 = .ok (.imul, 1) := by decide +kernel
theorem dX9_extraOf_26 : decode cX9_extraOf 26 = .ok (.iadd, 1) := by decide +kernel
theorem dX9_extraOf_27 : decode cX9_extraOf 27 = .ok (.iconst 4, 1) := by decide +kernel
theorem dX9_extraOf_28 : decode cX9_extraOf 28 = .ok (.iload_n 3, 1) := by decide +kernel
theorem dX9_extraOf_29 : decode cX9_extraOf 29 = .ok (.imul, 1) := by decide +kernel
theorem dX9_extraOf_30 : decode cX9_extraOf 30 = .ok (.iadd, 1) := by decide +kernel
theorem dX9_extraOf_31 : decode cX9_extraOf 31 = .ok (.ireturn, 1) := by decide +kernel
theorem dX9_nextSeed_0 : decode cX9_nextSeed 0 = .ok (.iload_n 0, 1) := by decide +kernel
theorem dX9_nextSeed_1 : decode cX9_nextSeed 1 = .ok (.ldc_w 466, 3) := by decide +kernel
theorem dX9_nextSeed_4 : decode cX9_nextSeed 4 = .ok (.imul, 1) := by decide +kernel
theorem dX9_nextSeed_5 : decode cX9_nextSeed 5 = .ok (.sipush 12345, 3) := by decide +kernel
theorem dX9_nextSeed_8 : decode cX9_nextSeed 8 = .ok (.iadd, 1) := by decide +kernel
theorem dX9_nextSeed_9 : decode cX9_nextSeed 9 = .ok (.ireturn, 1) := by decide +kernel
end
section
-- 40.rec0.lean.txt
abbrev okRdr (ad : Nat → Nat) (g : Nat → va_E) (i : Nat) : Prop := ∃ (x0 x1 x3 x4 x5 x6 x7 x8 : Int) (tx : Nat), g i = oC 9 [.int (zI x0), .int (zI x1), .ref tx, .int (zI x3), .int (zI x4), .int (zI x5), .int (zI x6), .int (zI x7), .int (zI x8)]
theorem okRdr.mv {ad ad' : Nat → Nat} {g g' : Nat → va_E} {i : Nat} (hA : ∀ j, i ≤ j → j < i + 1 → ad' j = ad j) (hG : ∀ j, i ≤ j → j < i + 1 → g' j = g j) (h : okRdr ad g i) : okRdr ad' g' i := by
  obtain ⟨x0, x1, x3, x4, x5, x6, x7, x8, tx, h⟩ := h
  exact ⟨x0, x1, x3, x4, x5, x6, x7, x8, tx, by rw [hG _ (by omega) (by omega)]; exact h⟩
abbrev okPlan (cs : Nat → ClassId) (ad : Nat → Nat) (g : Nat → va_E) (i : Nat) : Prop := ∃ (sl ho ua : Int) (st op ai fa mu tb : Nat → Int), (0 ≤ sl ∧ sl ≤ 4) ∧ (0 ≤ ho ∧ ho ≤ 24) ∧ isPlan cs ad g i sl ho ua st op ai fa mu tb
theorem okPlan.mv {cs : Nat → ClassId} {ad ad' : Nat → Nat} {g g' : Nat → va_E} {i : Nat} (hA : ∀ j, i ≤ j → j < i + 7 → ad' j = ad j) (hG : ∀ j, i ≤ j → j < i + 7 → g' j = g j) (h : okPlan cs ad g i) : okPlan cs ad' g' i := by
  obtain ⟨sl, ho, ua, st, op, ai, fa, mu, tb, h1, h2, h3⟩ := h
  exact ⟨sl, ho, ua, st, op, ai, fa, mu, tb, h1, h2, h3.mv hA hG⟩
/-- the builder: its bytes lie at the role that was made with it, or at one that came later -/
abbrev okBld (cs : Nat → ClassId) (ad : Nat → Nat) (g : Nat → va_E) (N : Nat) : Prop := ∃ (v cap : Nat) (ml cn : Int) (by' : Nat → Int), (v = 920 ∨ 952 ≤ v) ∧ v < N ∧ cap ≤ 1000 ∧ (0 ≤ cn ∧ cn ≤ (cap : Int)) ∧ ((0 ≤ ml ∧ ml ≤ 1) ∧ ∀ j, -128 ≤ by' j ∧ by' j ≤ 127) ∧ g 919 = oC 1 [.ref (ad v), .int (zI 0), .int (zI ml), .int (zI cn)] ∧ g v = bA cs cap by'
theorem okBld.mv {cs : Nat → ClassId} {ad ad' : Nat → Nat} {g g' : Nat → va_E} {N : Nat} (hA : ∀ j, 919 ≤ j → (j < 921 ∨ (952 ≤ j ∧ j < N)) → ad' j = ad j) (hG : ∀ j, 919 ≤ j → (j < 921 ∨ (952 ≤ j ∧ j < N)) → g' j = g j) (h : okBld cs ad g N) : okBld cs ad' g' N := by
  obtain ⟨v, cap, ml, cn, b, h1, h2, h3, h4, h5, h6, h7⟩ := h
  exact ⟨v, cap, ml, cn, b, h1, h2, h3, h4, h5, by rw [hG _ (by omega) (by omega), hA v (by omega) (by omega)]; exact h6, by rw [hG _ (by omega) (by omega)]; exact h7⟩
abbrev rcC (ad : Nat → Nat) (t fp im : Int) : va_E := oC 11 [.ref (ad 1), .int (zI t), .int (zI fp), .ref (ad 2), .ref (ad 4), .ref (ad 11), .ref (ad 447), .int (zI im), .ref (ad 883), .ref (ad 890), .ref (ad 900), .ref (ad 910), .ref (ad 917), .ref (ad 919)]
/-- the recorder at role 0: tape size t, fault place fp, imaged im, notes nz (kept kz), the plan -/
def okRec (cs : Nat → ClassId) (ad : Nat → Nat) (g : Nat → va_E) (N : Nat) (t fp im nz kz sl ho ua : Int) (st op ai fa mu tb tp : Nat → Int) : Prop :=
  g 0 = rcC ad t fp im ∧ (0 ≤ t ∧ t ≤ 900) ∧ (0 ≤ im ∧ im ≤ 1) ∧ g 1 = bA cs 900 tp ∧ okRdr ad g 2 ∧ isPlan cs ad g 4 sl ho ua st op ai fa mu tb ∧ (0 ≤ sl ∧ sl ≤ 4) ∧ (0 ≤ ho ∧ ho ≤ 24) ∧ (∃ ac : Int, okState cs ad g 11 ac nz) ∧ (∃ ac : Int, okState cs ad g 447 ac kz) ∧ okPlan cs ad g 883 ∧ okWorld cs ad g 890 ∧ okWorld cs ad g 900 ∧ okGss cs ad g 910 ∧ okLike cs ad g 917 ∧ okBld cs ad g N

abbrev oX (g g' : Nat → va_E) : Prop := ∀ j, (11 ≤ j ∧ j < 883) ∨ 921 ≤ j → j < 952 → g' j = g j

set_option maxRecDepth 100000 in
set_option maxHeartbeats 4000000 in
theorem c_X9_isSlope (l : Launch) (D : va_G) (A : Nat → Prop) (cs : Nat → ClassId) (tt : Nat) (N : Nat) (ad : Nat → Nat) (g : Nat → va_E) (hN : 952 ≤ N) (t fp im nz kz sl ho ua : Int) (st op ai fa mu tb tp : Nat → Int) (hR : okRec cs ad g N t fp im nz kz sl ho ua st op ai fa mu tb tp) (z : Int) (hz : -2147483648 ≤ z ∧ z ≤ 2147483647) : zM l yX9_isSlope cX9_isSlope 2 (some .boolean) ({ frames := 1, cells := 0, slots := 0, locals := 60 } : Room) D A cs tt N ad g [.ref (ad 0), .int (zI (z))] (rI0 N ad fun r g' => (r = (if 0 ≤ z ∧ z < sl then 1 else 0)) ∧ g = g') := by
  obtain ⟨ary1, bry1, cry1, dry1, ery1, fry1, gry11, hry1, ⟨acry1, iry1⟩, ⟨kcry1, jry1⟩, kry1, lry1, mry1, nry1, ory1, pry1⟩ := id hR
  have hay2 : zAt ad (0) (ad 0) := rfl
  have hay3 : zAt ad (1) (ad 1) := rfl
  have hay4 : zAt ad (2) (ad 2) := rfl
  have hay5 : zAt ad (4) (ad 4) := rfl
  have hay6 : zAt ad (11) (ad 11) := rfl
  have hay7 : zAt ad (447) (ad 447) := rfl
  have hay8 : zAt ad (883) (ad 883) := rfl
  have hay9 : zAt ad (890) (ad 890) := rfl
  have hay10 : zAt ad (900) (ad 900) := rfl
  have hay11 : zAt ad (910) (ad 910) := rfl
  have hay12 : zAt ad (917) (ad 917) := rfl
  have hay13 : zAt ad (919) (ad 919) := rfl
  have hay14 : zAt ad (4 + 1) (ad (4 + 1)) := rfl
  have hay15 : zAt ad (4 + 2) (ad (4 + 2)) := rfl
  have hay16 : zAt ad (4 + 3) (ad (4 + 3)) := rfl
  have hay17 : zAt ad (4 + 4) (ad (4 + 4)) := rfl
  have hay18 : zAt ad (4 + 5) (ad (4 + 5)) := rfl
  have hay19 : zAt ad (4 + 6) (ad (4 + 6)) := rfl
  obtain ⟨thcy20, zhcy20, ohcy20, rhcy20, hzhcy20, hthcy20, hwhcy20⟩ := id lry1
  obtain ⟨thcy21, zhcy21, ohcy21, rhcy21, hzhcy21, hthcy21, hwhcy21⟩ := id mry1
  refine z_of (by decide) (Nat.le_of_ble_eq_true rfl) ?_
  intro p e s m below meth c C hr hlk hnm
  refine z_lv (lv' := [(0, .ref (ad 0)), (1, .int (zI (z)))]) [0, 1] rfl ?_
  refine z_iload_n C 1 dX9_isSlope_0 rfl ?_
  refine z_if_lt (tgt := 19) C dX9_isSlope_1 (by decide) (by omega) (fun hby22 => ?_) (fun hby22 => ?_)
  · refine z_iconst (z := 0) C dX9_isSlope_19 rfl ?_
    exact z_zret C hr hlk dX9_isSlope_20 (by decide) (by decide) (by decide) ⟨0, rfl, rfl, rfl, by rw [if_neg (by omega)], rfl⟩
  · refine z_iload_n C 1 dX9_isSlope_4 rfl ?_
    refine z_aload_n C 0 dX9_isSlope_5 rfl ?_
    refine z_get (v := .ref (ad 4)) C (lt_K hN (rfl : Nat.blt (0) 952 = true)) hay2 ary1 rfl inA_X9 4 (by decide) q_353 rfl rfl dX9_isSlope_6 ?_
    refine z_get (v := .int (zI (sl))) C (lt_K hN (rfl : Nat.blt (4) 952 = true)) hay5 fry1.1 rfl inA_X5 0 (by decide) q_90 rfl rfl dX9_isSlope_9 ?_
    refine z_icmp_ge (tgt := 19) C dX9_isSlope_12 (by decide) (by omega) (by omega) (fun hby23 => ?_) (fun hby23 => ?_)
    · refine z_iconst (z := 0) C dX9_isSlope_19 rfl ?_
      exact z_zret C hr hlk dX9_isSlope_20 (by decide) (by decide) (by decide) ⟨0, rfl, rfl, rfl, by rw [if_neg (by omega)], rfl⟩
    · refine z_iconst (z := 1) C dX9_isSlope_15 rfl ?_
      refine z_goto (tgt := 20) C dX9_isSlope_16 (by decide) ?_
      exact z_zret C hr hlk dX9_isSlope_20 (by decide) (by decide) (by decide) ⟨1, rfl, rfl, rfl, by rw [if_pos (by omega)], rfl⟩

set_option maxRecDepth 100000 in
set_option maxHeartbeats 4000000 in
theorem c_X9_needSlope (l : Launch) (D : va_G) (A : Nat → Prop) (cs : Nat → ClassId) (tt : Nat) (N : Nat) (ad : Nat → Nat) (g : Nat → va_E) (hN : 952 ≤ N) (t fp im nz kz sl ho ua : Int) (st op ai fa mu tb tp : Nat → Int) (hR : okRec cs ad g N t fp im nz kz sl ho ua st op ai fa mu tb tp) (hl0 : l.stackTraces = false) (z : Int) (hz : -2147483648 ≤ z ∧ z ≤ 2147483647) : zMX l yX9_needSlope cX9_needSlope 2 none ({ frames := 6, cells := 1, slots := 6, locals := 360 } : Room) D A cs tt N ad g [.ref (ad 0), .int (zI (z))] (rV0 N ad fun g' => (0 ≤ z ∧ z < sl) ∧ g = g') (fun E N' ad' g' => E = eNS ∧ N' = N ∧ ad' = ad ∧ g' = g) := by
  obtain ⟨ary1, bry1, cry1, dry1, ery1, fry1, gry11, hry1, ⟨acry1, iry1⟩, ⟨kcry1, jry1⟩, kry1, lry1, mry1, nry1, ory1, pry1⟩ := id hR
  have hay2 : zAt ad (0) (ad 0) := rfl
  have hay3 : zAt ad (1) (ad 1) := rfl
  have hay4 : zAt ad (2) (ad 2) := rfl
  have hay5 : zAt ad (4) (ad 4) := rfl
  have hay6 : zAt ad (11) (ad 11) := rfl
  have hay7 : zAt ad (447) (ad 447) := rfl
  have hay8 : zAt ad (883) (ad 883) := rfl
  have hay9 : zAt ad (890) (ad 890) := rfl
  have hay10 : zAt ad (900) (ad 900) := rfl
  have hay11 : zAt ad (910) (ad 910) := rfl
  have hay12 : zAt ad (917) (ad 917) := rfl
  have hay13 : zAt ad (919) (ad 919) := rfl
  have hay14 : zAt ad (4 + 1) (ad (4 + 1)) := rfl
  have hay15 : zAt ad (4 + 2) (ad (4 + 2)) := rfl
  have hay16 : zAt ad (4 + 3) (ad (4 + 3)) := rfl
  have hay17 : zAt ad (4 + 4) (ad (4 + 4)) := rfl
  have hay18 : zAt ad (4 + 5) (ad (4 + 5)) := rfl
  have hay19 : zAt ad (4 + 6) (ad (4 + 6)) := rfl
  obtain ⟨thcy20, zhcy20, ohcy20, rhcy20, hzhcy20, hthcy20, hwhcy20⟩ := id lry1
  obtain ⟨thcy21, zhcy21, ohcy21, rhcy21, hzhcy21, hthcy21, hwhcy21⟩ := id mry1
  refine z_ofX (by decide) (Nat.le_of_ble_eq_true rfl) ?_
  intro p e s m below meth c C hr hlk hxt
  refine z_lv (lv' := [(0, .ref (ad 0)), (1, .int (zI (z)))]) [0, 1] rfl ?_
  refine z_aload_n C 0 dX9_needSlope_0 rfl ?_
  refine z_iload_n C 1 dX9_needSlope_1 rfl ?_
  have hrecy23 : okRec cs ad g N (t) (fp) (im) (nz) (kz) (sl) (ho) (ua) (st) (op) (ai) (fa) (mu) (tb) (tp) := ⟨ary1, bry1, cry1, dry1, ery1, fry1, gry11, hry1, ⟨_, iry1⟩, ⟨_, jry1⟩, kry1, lry1, mry1, nry1, ory1, pry1⟩
  refine z_cV (As := [.int (zI (z))]) (rest := []) (ci := 11) C (c_X9_isSlope l D A cs tt N ad _ hN _ _ _ _ _ _ _ _ _ _ _ _ _ _ _ hrecy23 (z) (by omega)) (lt_K hN (rfl : Nat.blt (0) 952 = true)) hay2 ary1 rfl rfl mv_yX9_isSlope q_537 hd_yX9_isSlope (by decide) (Nat.le_of_ble_eq_true rfl) (by decide) dX9_needSlope_2 rfl (kI0 fun vy22 gvy22 hvy22 => ?_)
  obtain ⟨hvy22, rfl⟩ := hvy22
  have hbvy22 : (vy22 = 1 ∧ 0 ≤ z ∧ z < sl) ∨ (vy22 = 0 ∧ ¬ (0 ≤ z ∧ z < sl)) := by rw [hvy22]; by_cases e9 : 0 ≤ z ∧ z < sl; (rw [if_pos e9]; exact Or.inl ⟨rfl, e9⟩); (rw [if_neg e9]; exact Or.inr ⟨rfl, e9⟩)
  refine z_if_ne (tgt := 19) C dX9_needSlope_5 (by decide) (by omega) (fun hby24 => ?_) (fun hby24 => ?_)
  · exact z_rX (z_vret C hr hlk dX9_needSlope_19 (by decide) (by decide) ⟨rfl, rfl, rfl, by omega, rfl⟩)
  · exact z_thrNW (cls := eNS) (text := "no such slope") C hl0 (ix := 13) (rx := nsB) ns0 ns1 ns2 ns5 (by decide +kernel) q_904 q_24 (by decide +kernel) at_NS gd_NS dX9_needSlope_8 dX9_needSlope_11 dX9_needSlope_12 dX9_needSlope_15 dX9_needSlope_18 hxt (by decide) (Nat.le_of_ble_eq_true rfl) (by decide) (by decide) hlk (by decide) (by decide) ⟨rfl, rfl, rfl, rfl⟩

set_option maxRecDepth 100000 in
set_option maxHeartbeats 4000000 in
theorem c_X9_packOf (l : Launch) (D : va_G) (A : Nat → Prop) (cs : Nat → ClassId) (tt : Nat) (N : Nat) (ad : Nat → Nat) (g : Nat → va_E) (hN : 952 ≤ N) (t fp im nz kz sl ho ua : Int) (st op ai fa mu tb tp : Nat → Int) (hR : okRec cs ad g N t fp im nz kz sl ho ua st op ai fa mu tb tp) (hl0 : l.stackTraces = false) (z : Int) (hz : -2147483648 ≤ z ∧ z ≤ 2147483647) : zMX l yX9_packOf cX9_packOf 2 (some (.object "SnowRecorder$Pack")) ({ frames := 7, cells := 1, slots := 6, locals := 420 } : Room) D A cs tt N ad g [.ref (ad 0), .int (zI (z))] (rR0 N ad fun a g' => (0 ≤ z ∧ z < sl) ∧ a = ad (11 + 1 + 2 + 2 * (z).toNat) ∧ g = g') (fun E N' ad' g' => E = eNS ∧ N' = N ∧ ad' = ad ∧ g' = g) := by
  obtain ⟨ary1, bry1, cry1, dry1, ery1, fry1, gry11, hry1, ⟨acry1, iry1⟩, ⟨kcry1, jry1⟩, kry1, lry1, mry1, nry1, ory1, pry1⟩ := id hR
  have hay2 : zAt ad (0) (ad 0) := rfl
  have hay3 : zAt ad (1) (ad 1) := rfl
  have hay4 : zAt ad (2) (ad 2) := rfl
  have hay5 : zAt ad (4) (ad 4) := rfl
  have hay6 : zAt ad (11) (ad 11) := rfl
  have hay7 : zAt ad (447) (ad 447) := rfl
  have hay8 : zAt ad (883) (ad 883) := rfl
  have hay9 : zAt ad (890) (ad 890) := rfl
  have hay10 : zAt ad (900) (ad 900) := rfl
  have hay11 : zAt ad (910) (ad 910) := rfl
  have hay12 : zAt ad (917) (ad 917) := rfl
  have hay13 : zAt ad (919) (ad 919) := rfl
  have hay14 : zAt ad (4 + 1) (ad (4 + 1)) := rfl
  have hay15 : zAt ad (4 + 2) (ad (4 + 2)) := rfl
  have hay16 : zAt ad (4 + 3) (ad (4 + 3)) := rfl
  have hay17 : zAt ad (4 + 4) (ad (4 + 4)) := rfl
  have hay18 : zAt ad (4 + 5) (ad (4 + 5)) := rfl
  have hay19 : zAt ad (4 + 6) (ad (4 + 6)) := rfl
  obtain ⟨thcy20, zhcy20, ohcy20, rhcy20, hzhcy20, hthcy20, hwhcy20⟩ := id lry1
  obtain ⟨thcy21, zhcy21, ohcy21, rhcy21, hzhcy21, hthcy21, hwhcy21⟩ := id mry1
  obtain ⟨asy22, bsy22, csy22, dsy22, esy22, ⟨ptsy22, fsy22, gsy221⟩, hsy22, ⟨nusy22, nvsy22, nwsy22, isy22, jsy22, ksy22, lsy22, msy22, nsy22⟩, rfsy22, osy22⟩ := id iry1
  have hay23 : zAt ad (11 + 1) (ad (11 + 1)) := rfl
  have hay24 : zAt ad (11 + 11) (ad (11 + 11)) := rfl
  have hay25 : zAt ad (11 + 12) (ad (11 + 12)) := rfl
  have hay26 : zAt ad (11 + 13) (ad (11 + 13)) := rfl
  have hay27 : zAt ad (11 + 13 + 1) (ad (11 + 13 + 1)) := rfl
  have hay28 : zAt ad (11 + 13 + 2) (ad (11 + 13 + 2)) := rfl
  have hay29 : zAt ad (11 + 13 + 3) (ad (11 + 13 + 3)) := rfl
  have hay30 : zAt ad (11 + 17) (ad (11 + 17)) := rfl
  obtain ⟨uy31t, uy31z, uy31o, uy31r, uy31z4, uy31t5, uy311, ⟨uy31u, uy312, uy313⟩, uy314⟩ := id csy22
  have hay32 : zAt ad (11 + 1) (ad (11 + 1)) := rfl
  have hay33 : zAt ad (11 + 1 + 1) (ad (11 + 1 + 1)) := rfl
  refine z_ofX (by decide) (Nat.le_of_ble_eq_true rfl) ?_
  intro p e s m below meth c C hr hlk hxt
  refine z_lv (lv' := [(0, .ref (ad 0)), (1, .int (zI (z)))]) [0, 1] rfl ?_
  refine z_aload_n C 0 dX9_packOf_0 rfl ?_
  refine z_iload_n C 1 dX9_packOf_1 rfl ?_
  have hrecy35 : okRec cs ad g N (t) (fp) (im) (nz) (kz) (sl) (ho) (ua) (st) (op) (ai) (fa) (mu) (tb) (tp) := ⟨ary1, bry1, cry1, dry1, ery1, fry1, gry11, hry1, ⟨_, iry1⟩, ⟨_, jry1⟩, kry1, lry1, mry1, nry1, ory1, pry1⟩
  refine z_cVX (As := [.int (zI (z))]) (rest := []) (ci := 11) C (c_X9_needSlope l D A cs tt N ad _ hN _ _ _ _ _ _ _ _ _ _ _ _ _ _ _ hrecy35 hl0 (z) (by omega)) (lt_K hN (rfl : Nat.blt (0) 952 = true)) hay2 ary1 rfl rfl mv_yX9_needSlope q_940 hd_yX9_needSlope (by decide) (Nat.le_of_ble_eq_true rfl) (by decide) dX9_packOf_2 rfl (fun E N' ad' g' h => by obtain ⟨rfl, rfl, rfl, rfl⟩ := h; exact z_uout C hxt hlk (by decide) (by decide) ⟨rfl, rfl, rfl, rfl⟩) (kV0 fun gvy34 hvy34 => ?_)
  obtain ⟨hvy34, rfl⟩ := hvy34
  refine z_aload_n C 0 dX9_packOf_5 rfl ?_
  refine z_get (v := .ref (ad 11)) C (lt_K hN (rfl : Nat.blt (0) 952 = true)) hay2 ary1 rfl inA_X9 5 (by decide) q_354 rfl rfl dX9_packOf_6 ?_
  refine z_get (v := .ref (ad (11 + 1))) C (lt_K hN (rfl : Nat.blt (11) 952 = true)) hay6 iry1.1 rfl inA_X6 0 (by decide) q_258 rfl rfl dX9_packOf_9 ?_
  refine z_get (v := .ref (ad (11 + 1 + 1))) C (lt_K hN (rfl : Nat.blt (11 + 1) 952 = true)) hay32 uy311 rfl inA_X8 6 (by decide) q_191 rfl rfl dX9_packOf_12 ?_
  refine z_iload_n C 1 dX9_packOf_15 rfl ?_
  refine z_aald C (lt_K hN (rfl : Nat.blt (11 + 1 + 1) 952 = true)) hay33 uy312 3 rfl ((z).toNat) (by omega) (by omega) (by decide) (uy313 (z).toNat (by omega)) dX9_packOf_16 ?_
  have hay36 : zAt ad (11 + 1 + 2 + 2 * (z).toNat) (ad (11 + 1 + 2 + 2 * (z).toNat)) := rfl
  have hay37 : zAt ad (11 + 1 + 2 + 2 * (z).toNat + 1) (ad (11 + 1 + 2 + 2 * (z).toNat + 1)) := rfl
  have hpy38 := uy314 (z).toNat (by omega)
  have hqy39 := uy31z4 (z).toNat (by omega)
  exact z_rX (z_aret C hr (Or.inl ⟨_, rfl⟩) hlk dX9_packOf_17 (by decide) (by decide) ⟨_, rfl, rfl, rfl, by omega, rfl, rfl⟩)

set_option maxRecDepth 100000 in
set_option maxHeartbeats 4000000 in
theorem c_X9_needLayer (l : Launch) (D : va_G) (A : Nat → Prop) (cs : Nat → ClassId) (tt : Nat) (N : Nat) (ad : Nat → Nat) (g : Nat → va_E) (a : Nat) (hN : a + 2 ≤ N) (sz ro : Int) (r : Nat → Int) (hz : 0 ≤ sz ∧ sz ≤ 12) (ha : isPack cs ad g a sz ro r) (hl0 : l.stackTraces = false) (x : Nat) (z : Int) (hzz : -2147483648 ≤ z ∧ z ≤ 2147483647) : zMX l yX9_needLayer cX9_needLayer 3 none ({ frames := 6, cells := 1, slots := 6, locals := 360 } : Room) D A cs tt N ad g [.ref x, .ref (ad a), .int (zI (z))] (rV0 N ad fun g' => (0 ≤ z ∧ z < sz) ∧ g = g') (fun E N' ad' g' => E = eNS ∧ N' = N ∧ ad' = ad ∧ g' = g) := by
  have hay1 : zAt ad (a) (ad a) := rfl
  have hay2 : zAt ad (a + 1) (ad (a + 1)) := rfl
  refine z_ofX (by decide) (Nat.le_of_ble_eq_true rfl) ?_
  intro p e s m below meth c C hr hlk hxt
  refine z_lv (lv' := [(0, .ref x), (1, .ref (ad a)), (2, .int (zI (z)))]) [0, 1, 2] rfl ?_
  refine z_iload_n C 2 dX9_needLayer_0 rfl ?_
  refine z_if_lt (tgt := 12) C dX9_needLayer_1 (by decide) (by omega) (fun hby3 => ?_) (fun hby3 => ?_)
  · exact z_thrNW (cls := eNS) (text := "no such layer") C hl0 (ix := 13) (rx := nsB) ns0 ns1 ns2 ns5 (by decide +kernel) q_904 q_24 (by decide +kernel) at_NS gd_NS dX9_needLayer_12 dX9_needLayer_15 dX9_needLayer_16 dX9_needLayer_19 dX9_needLayer_22 hxt (by decide) (Nat.le_of_ble_eq_true rfl) (by decide) (by decide) hlk (by decide) (by decide) ⟨rfl, rfl, rfl, rfl⟩
  · refine z_iload_n C 2 dX9_needLayer_4 rfl ?_
    refine z_aload_n C 1 dX9_needLayer_5 rfl ?_
    refine z_get (v := .int (zI (sz))) C (lt_A0 hN rfl) hay1 ha.1 rfl inA_X3 0 (by decide) q_158 rfl rfl dX9_needLayer_6 ?_
    refine z_icmp_lt (tgt := 23) C dX9_needLayer_9 (by decide) (by omega) (by omega) (fun hby4 => ?_) (fun hby4 => ?_)
    · exact z_rX (z_vret C hr hlk dX9_needLayer_23 (by decide) (by decide) ⟨rfl, rfl, rfl, by omega, rfl⟩)
    · exact z_thrNW (cls := eNS) (text := "no such layer") C hl0 (ix := 13) (rx := nsB) ns0 ns1 ns2 ns5 (by decide +kernel) q_904 q_24 (by decide +kernel) at_NS gd_NS dX9_needLayer_12 dX9_needLayer_15 dX9_needLayer_16 dX9_needLayer_19 dX9_needLayer_22 hxt (by decide) (Nat.le_of_ble_eq_true rfl) (by decide) (by decide) hlk (by decide) (by decide) ⟨rfl, rfl, rfl, rfl⟩

set_option maxRecDepth 100000 in
set_option maxHeartbeats 4000000 in
theorem c_X9_needPit (l : Launch) (D : va_G) (A : Nat → Prop) (cs : Nat → ClassId) (tt : Nat) (N : Nat) (ad : Nat → Nat) (g : Nat → va_E) (hN : 952 ≤ N) (t fp im nz kz sl ho ua : Int) (st op ai fa mu tb tp : Nat → Int) (hR : okRec cs ad g N t fp im nz kz sl ho ua st op ai fa mu tb tp) (hl0 : l.stackTraces = false) (z : Int) (hz : -2147483648 ≤ z ∧ z ≤ 2147483647) : zMX l yX9_needPit cX9_needPit 2 none ({ frames := 6, cells := 1, slots := 6, locals := 360 } : Room) D A cs tt N ad g [.ref (ad 0), .int (zI (z))] (rV0 N ad fun g' => (0 ≤ z ∧ z ≤ 5) ∧ g = g') (fun E N' ad' g' => E = eNS ∧ N' = N ∧ ad' = ad ∧ g' = g) := by
  obtain ⟨ary1, bry1, cry1, dry1, ery1, fry1, gry11, hry1, ⟨acry1, iry1⟩, ⟨kcry1, jry1⟩, kry1, lry1, mry1, nry1, ory1, pry1⟩ := id hR
  have hay2 : zAt ad (0) (ad 0) := rfl
  have hay3 : zAt ad (1) (ad 1) := rfl
  have hay4 : zAt ad (2) (ad 2) := rfl
  have hay5 : zAt ad (4) (ad 4) := rfl
  have hay6 : zAt ad (11) (ad 11) := rfl
  have hay7 : zAt ad (447) (ad 447) := rfl
  have hay8 : zAt ad (883) (ad 883) := rfl
  have hay9 : zAt ad (890) (ad 890) := rfl
  have hay10 : zAt ad (900) (ad 900) := rfl
  have hay11 : zAt ad (910) (ad 910) := rfl
  have hay12 : zAt ad (917) (ad 917) := rfl
  have hay13 : zAt ad (919) (ad 919) := rfl
  have hay14 : zAt ad (4 + 1) (ad (4 + 1)) := rfl
  have hay15 : zAt ad (4 + 2) (ad (4 + 2)) := rfl
  have hay16 : zAt ad (4 + 3) (ad (4 + 3)) := rfl
  have hay17 : zAt ad (4 + 4) (ad (4 + 4)) := rfl
  have hay18 : zAt ad (4 + 5) (ad (4 + 5)) := rfl
  have hay19 : zAt ad (4 + 6) (ad (4 + 6)) := rfl
  obtain ⟨thcy20, zhcy20, ohcy20, rhcy20, hzhcy20, hthcy20, hwhcy20⟩ := id lry1
  obtain ⟨thcy21, zhcy21, ohcy21, rhcy21, hzhcy21, hthcy21, hwhcy21⟩ := id mry1
  obtain ⟨asy22, bsy22, csy22, dsy22, esy22, ⟨ptsy22, fsy22, gsy221⟩, hsy22, ⟨nusy22, nvsy22, nwsy22, isy22, jsy22, ksy22, lsy22, msy22, nsy22⟩, rfsy22, osy22⟩ := id iry1
  have hay23 : zAt ad (11 + 1) (ad (11 + 1)) := rfl
  have hay24 : zAt ad (11 + 11) (ad (11 + 11)) := rfl
  have hay25 : zAt ad (11 + 12) (ad (11 + 12)) := rfl
  have hay26 : zAt ad (11 + 13) (ad (11 + 13)) := rfl
  have hay27 : zAt ad (11 + 13 + 1) (ad (11 + 13 + 1)) := rfl
  have hay28 : zAt ad (11 + 13 + 2) (ad (11 + 13 + 2)) := rfl
  have hay29 : zAt ad (11 + 13 + 3) (ad (11 + 13 + 3)) := rfl
  have hay30 : zAt ad (11 + 17) (ad (11 + 17)) := rfl
  obtain ⟨uy31t, uy31z, uy31o, uy31r, uy31z4, uy31t5, uy311, ⟨uy31u, uy312, uy313⟩, uy314⟩ := id csy22
  have hay32 : zAt ad (11 + 1) (ad (11 + 1)) := rfl
  have hay33 : zAt ad (11 + 1 + 1) (ad (11 + 1 + 1)) := rfl
  refine z_ofX (by decide) (Nat.le_of_ble_eq_true rfl) ?_
  intro p e s m below meth c C hr hlk hxt
  refine z_lv (lv' := [(0, .ref (ad 0)), (1, .int (zI (z)))]) [0, 1] rfl ?_
  refine z_iload_n C 1 dX9_needPit_0 rfl ?_
  refine z_if_lt (tgt := 18) C dX9_needPit_1 (by decide) (by omega) (fun hby34 => ?_) (fun hby34 => ?_)
  · exact z_thrNW (cls := eNS) (text := "no such pit") C hl0 (ix := 13) (rx := nsB) ns0 ns1 ns2 ns5 (by decide +kernel) q_904 q_24 (by decide +kernel) at_NS gd_NS dX9_needPit_18 dX9_needPit_21 dX9_needPit_22 dX9_needPit_25 dX9_needPit_28 hxt (by decide) (Nat.le_of_ble_eq_true rfl) (by decide) (by decide) hlk (by decide) (by decide) ⟨rfl, rfl, rfl, rfl⟩
  · refine z_iload_n C 1 dX9_needPit_4 rfl ?_
    refine z_aload_n C 0 dX9_needPit_5 rfl ?_
    refine z_get (v := .ref (ad 11)) C (lt_K hN (rfl : Nat.blt (0) 952 = true)) hay2 ary1 rfl inA_X9 5 (by decide) q_354 rfl rfl dX9_needPit_6 ?_
    refine z_get (v := .ref (ad (11 + 1))) C (lt_K hN (rfl : Nat.blt (11) 952 = true)) hay6 iry1.1 rfl inA_X6 0 (by decide) q_258 rfl rfl dX9_needPit_9 ?_
    refine z_get (v := .int (zI (uy31t 5))) C (lt_K hN (rfl : Nat.blt (11 + 1) 952 = true)) hay32 uy311 rfl inA_X8 5 (by decide) q_186 rfl rfl dX9_needPit_12 ?_
    refine z_icmp_lt (tgt := 29) C dX9_needPit_15 (by decide) (by omega) (by omega) (fun hby35 => ?_) (fun hby35 => ?_)
    · exact z_rX (z_vret C hr hlk dX9_needPit_29 (by decide) (by decide) ⟨rfl, rfl, rfl, by omega, rfl⟩)
    · exact z_thrNW (cls := eNS) (text := "no such pit") C hl0 (ix := 13) (rx := nsB) ns0 ns1 ns2 ns5 (by decide +kernel) q_904 q_24 (by decide +kernel) at_NS gd_NS dX9_needPit_18 dX9_needPit_21 dX9_needPit_22 dX9_needPit_25 dX9_needPit_28 hxt (by decide) (Nat.le_of_ble_eq_true rfl) (by decide) (by decide) hlk (by decide) (by decide) ⟨rfl, rfl, rfl, rfl⟩

set_option maxRecDepth 100000 in
set_option maxHeartbeats 4000000 in
theorem c_X9_needWhat (l : Launch) (D : va_G) (A : Nat → Prop) (cs : Nat → ClassId) (tt : Nat) (N : Nat) (ad : Nat → Nat) (g : Nat → va_E) (hl0 : l.stackTraces = false) (z : Int) (hz : -2147483648 ≤ z ∧ z ≤ 2147483647) (w : Int) (hw : -2147483648 ≤ w ∧ w ≤ 2147483647) : zMX l yX9_needWhat cX9_needWhat 2 none ({ frames := 6, cells := 1, slots := 6, locals := 360 } : Room) D A cs tt N ad g [.int (zI (z)), .int (zI (w))] (rV0 N ad fun g' => (0 ≤ z ∧ z ≤ w) ∧ g = g') (fun E N' ad' g' => (E = eNS ∧ ¬ (0 ≤ z ∧ z ≤ w)) ∧ N' = N ∧ ad' = ad ∧ g' = g) := by
  refine z_ofX (by decide) (Nat.le_of_ble_eq_true rfl) ?_
  intro p e s m below meth c C hr hlk hxt
  refine z_lv (lv' := [(0, .int (zI (z))), (1, .int (zI (w)))]) [0, 1] rfl ?_
  refine z_iload_n C 0 dX9_needWhat_0 rfl ?_
  refine z_if_lt (tgt := 9) C dX9_needWhat_1 (by decide) (by omega) (fun hby1 => ?_) (fun hby1 => ?_)
  · exact z_thrNW (cls := eNS) (text := "no such thing to ask") C hl0 (ix := 13) (rx := nsB) ns0 ns1 ns2 ns5 (by decide +kernel) q_904 q_24 (by decide +kernel) at_NS gd_NS dX9_needWhat_9 dX9_needWhat_12 dX9_needWhat_13 dX9_needWhat_16 dX9_needWhat_19 hxt (by decide) (Nat.le_of_ble_eq_true rfl) (by decide) (by decide) hlk (by decide) (by decide) ⟨⟨rfl, by omega⟩, rfl, rfl, rfl⟩
  · refine z_iload_n C 0 dX9_needWhat_4 rfl ?_
    refine z_iload_n C 1 dX9_needWhat_5 rfl ?_
    refine z_icmp_le (tgt := 20) C dX9_needWhat_6 (by decide) (by omega) (by omega) (fun hby2 => ?_) (fun hby2 => ?_)
    · exact z_rX (z_vret C hr hlk dX9_needWhat_20 (by decide) (by decide) ⟨rfl, rfl, rfl, by omega, rfl⟩)
    · exact z_thrNW (cls := eNS) (text := "no such thing to ask") C hl0 (ix := 13) (rx := nsB) ns0 ns1 ns2 ns5 (by decide +kernel) q_904 q_24 (by decide +kernel) at_NS gd_NS dX9_needWhat_9 dX9_needWhat_12 dX9_needWhat_13 dX9_needWhat_16 dX9_needWhat_19 hxt (by decide) (Nat.le_of_ble_eq_true rfl) (by decide) (by decide) hlk (by decide) (by decide) ⟨⟨rfl, by omega⟩, rfl, rfl, rfl⟩

set_option maxRecDepth 100000 in
set_option maxHeartbeats 4000000 in
theorem c_X9_needHours (l : Launch) (D : va_G) (A : Nat → Prop) (cs : Nat → ClassId) (tt : Nat) (N : Nat) (ad : Nat → Nat) (g : Nat → va_E) (hl0 : l.stackTraces = false) (z : Int) (hz : -2147483648 ≤ z ∧ z ≤ 2147483647) (lo : Int) (hlo : -2147483648 ≤ lo ∧ lo ≤ 2147483647) (hi : Int) (hhi : -2147483648 ≤ hi ∧ hi ≤ 2147483647) : zMX l yX9_needHours cX9_needHours 3 none ({ frames := 6, cells := 1, slots := 6, locals := 360 } : Room) D A cs tt N ad g [.int (zI (z)), .int (zI (lo)), .int (zI (hi))] (rV0 N ad fun g' => (lo ≤ z ∧ z ≤ hi) ∧ g = g') (fun E N' ad' g' => (E = eIA ∧ ¬ (lo ≤ z ∧ z ≤ hi)) ∧ N' = N ∧ ad' = ad ∧ g' = g) := by
  refine z_ofX (by decide) (Nat.le_of_ble_eq_true rfl) ?_
  intro p e s m below meth c C hr hlk hxt
  refine z_lv (lv' := [(0, .int (zI (z))), (1, .int (zI (lo))), (2, .int (zI (hi)))]) [0, 1, 2] rfl ?_
  refine z_iload_n C 0 dX9_needHours_0 rfl ?_
  refine z_iload_n C 1 dX9_needHours_1 rfl ?_
  refine z_icmp_lt (tgt := 10) C dX9_needHours_2 (by decide) (by omega) (by omega) (fun hby1 => ?_) (fun hby1 => ?_)
  · exact z_thrW (cls := eIA) (text := "not so many hours") C hl0 (by decide +kernel) q_658 q_19 (by decide +kernel) at_IA gd_IA dX9_needHours_10 dX9_needHours_13 dX9_needHours_14 dX9_needHours_17 dX9_needHours_20 hxt (by decide) (Nat.le_of_ble_eq_true rfl) (by decide) (by decide) hlk (by decide) (by decide) ⟨⟨rfl, by omega⟩, rfl, rfl, rfl⟩
  · refine z_iload_n C 0 dX9_needHours_5 rfl ?_
    refine z_iload_n C 2 dX9_needHours_6 rfl ?_
    refine z_icmp_le (tgt := 21) C dX9_needHours_7 (by decide) (by omega) (by omega) (fun hby2 => ?_) (fun hby2 => ?_)
    · exact z_rX (z_vret C hr hlk dX9_needHours_21 (by decide) (by decide) ⟨rfl, rfl, rfl, by omega, rfl⟩)
    · exact z_thrW (cls := eIA) (text := "not so many hours") C hl0 (by decide +kernel) q_658 q_19 (by decide +kernel) at_IA gd_IA dX9_needHours_10 dX9_needHours_13 dX9_needHours_14 dX9_needHours_17 dX9_needHours_20 hxt (by decide) (Nat.le_of_ble_eq_true rfl) (by decide) (by decide) hlk (by decide) (by decide) ⟨⟨rfl, by omega⟩, rfl, rfl, rfl⟩

set_option maxRecDepth 100000 in
set_option maxHeartbeats 4000000 in
theorem c_X9_extraOf (l : Launch) (D : va_G) (A : Nat → Prop) (cs : Nat → ClassId) (tt : Nat) (N : Nat) (ad : Nat → Nat) (g : Nat → va_E) (z : Int) (hz : -2147483648 ≤ z ∧ z ≤ 2147483647) : zM l yX9_extraOf cX9_extraOf 4 (some .int) ({ frames := 2, cells := 0, slots := 0, locals := 120 } : Room) D A cs tt N ad g [.int (zI (z))] (rI0 N ad fun r g' => (-2147483648 ≤ r ∧ r ≤ 2147483647) ∧ g = g') := by
  refine z_of (by decide) (Nat.le_of_ble_eq_true rfl) ?_
  intro p e s m below meth c C hr hlk hnm
  refine z_lv (lv' := [(0, .int (zI (z)))]) [0] rfl ?_
  refine z_iload_n C 0 dX9_extraOf_0 rfl ?_
  refine z_bipush (z := 10) C dX9_extraOf_1 (by decide) ?_
  refine z_mmin C q_1266 q_473 q_20 q_474 (by omega) (by omega) (by decide) (Nat.le_of_ble_eq_true rfl) (by decide) (by decide) dX9_extraOf_3 ?_
  obtain ⟨xy1, exy2, hxy3⟩ := mm_min (z) (10)
  rw [exy2]
  refine z_istore_n (lv' := [(1, .int (zI (xy1))), (0, .int (zI (z)))]) C dX9_extraOf_6 rfl (by decide) rfl ?_
  refine z_iload_n C 1 dX9_extraOf_7 rfl ?_
  refine z_iload_n C 0 dX9_extraOf_8 rfl ?_
  refine z_isub C dX9_extraOf_9 ?_
  refine z_bipush (z := 10) C dX9_extraOf_10 (by decide) ?_
  obtain ⟨xy4, exy5, hxy6⟩ := zI_of (zI (z - xy1))
  rw [exy5]
  refine z_mmin C q_1266 q_473 q_20 q_474 (by omega) (by omega) (by decide) (Nat.le_of_ble_eq_true rfl) (by decide) (by decide) dX9_extraOf_12 ?_
  obtain ⟨xy7, exy8, hxy9⟩ := mm_min (xy4) (10)
  rw [exy8]
  refine z_istore_n (lv' := [(2, .int (zI (xy7))), (1, .int (zI (xy1))), (0, .int (zI (z)))]) C dX9_extraOf_15 rfl (by decide) rfl ?_
  refine z_iload_n C 2 dX9_extraOf_16 rfl ?_
  refine z_iload_n C 1 dX9_extraOf_17 rfl ?_
  refine z_isub C dX9_extraOf_18 ?_
  refine z_iload_n C 0 dX9_extraOf_19 rfl ?_
  refine z_isub C dX9_extraOf_20 ?_
  refine z_istore_n (lv' := [(3, .int (zI ((z - xy1) - xy7))), (2, .int (zI (xy7))), (1, .int (zI (xy1))), (0, .int (zI (z)))]) C dX9_extraOf_21 rfl (by decide) rfl ?_
  refine z_iload_n C 2 dX9_extraOf_22 rfl ?_
  refine z_iconst (z := 2) C dX9_extraOf_23 rfl ?_
  refine z_iload_n C 1 dX9_extraOf_24 rfl ?_
  refine z_imul C dX9_extraOf_25 ?_
  refine z_iadd C dX9_extraOf_26 ?_
  refine z_iconst (z := 4) C dX9_extraOf_27 rfl ?_
  refine z_iload_n C 0 dX9_extraOf_28 rfl ?_
  refine z_imul C dX9_extraOf_29 ?_
  refine z_iadd C dX9_extraOf_30 ?_
  obtain ⟨xy10, exy11, hxy12⟩ := zI_of (zI ((xy1 + (2 * xy7)) + (4 * ((z - xy1) - xy7))))
  rw [exy11]
  exact z_iret C hr hlk dX9_extraOf_31 (by decide) (by decide) ⟨xy10, rfl, rfl, rfl, by omega, rfl⟩

set_option maxRecDepth 100000 in
set_option maxHeartbeats 4000000 in
theorem c_X9_nextSeed (l : Launch) (D : va_G) (A : Nat → Prop) (cs : Nat → ClassId) (tt : Nat) (N : Nat) (ad : Nat → Nat) (g : Nat → va_E) (z : Int) (hz : -2147483648 ≤ z ∧ z ≤ 2147483647) : zM l yX9_nextSeed cX9_nextSeed 1 (some .int) ({ frames := 1, cells := 0, slots := 0, locals := 60 } : Room) D A cs tt N ad g [.int (zI (z))] (rI0 N ad fun r g' => (-2147483648 ≤ r ∧ r ≤ 2147483647) ∧ g = g') := by
  refine z_of (by decide) (Nat.le_of_ble_eq_true rfl) ?_
  intro p e s m below meth c C hr hlk hnm
  refine z_lv (lv' := [(0, .int (zI (z)))]) [0] rfl ?_
  refine z_iload_n C 0 dX9_nextSeed_0 rfl ?_
  refine z_ldcw (z := 1103515245) C dX9_nextSeed_1 q_1440 (by decide) ?_
  refine z_imul C dX9_nextSeed_4 ?_
  refine z_sipush (z := 12345) C dX9_nextSeed_5 (by decide) ?_
  refine z_iadd C dX9_nextSeed_8 ?_
  obtain ⟨xy1, exy2, hxy3⟩ := zI_of (zI ((z * 1103515245) + 12345))
  rw [exy2]
  exact z_iret C hr hlk dX9_nextSeed_9 (by decide) (by decide) ⟨xy1, rfl, rfl, rfl, by omega, rfl⟩
end
section
-- 41.words.lean.txt
-- words of ask
theorem q_102 : (Jvm.Cond.fieldLink "SnowRecorder" (190 : Nat) "SnowRecorder$Plan" "open" "[I") ∈ AW := AW_m1 102 (by decide +kernel) (by decide +kernel)
theorem q_105 : (Jvm.Cond.fieldLink "SnowRecorder" (172 : Nat) "SnowRecorder$Plan" "air" "[I") ∈ AW := AW_m1 105 (by decide +kernel) (by decide +kernel)
theorem q_108 : (Jvm.Cond.fieldLink "SnowRecorder" (175 : Nat) "SnowRecorder$Plan" "fall" "[I") ∈ AW := AW_m1 108 (by decide +kernel) (by decide +kernel)
theorem q_111 : (Jvm.Cond.fieldLink "SnowRecorder" (178 : Nat) "SnowRecorder$Plan" "much" "[I") ∈ AW := AW_m1 111 (by decide +kernel) (by decide +kernel)
theorem q_1220 : (Jvm.Cond.methodLink "SnowRecorder" (303 : Nat) ({ cls := "SnowRecorder", name := "needWhat", desc := "(II)V" } : Jvm.MethodName)) ∈ AW := AW_m6 20 (by decide +kernel) (by decide +kernel)
theorem q_1221 : (Jvm.Cond.static ({ cls := "SnowRecorder", name := "needWhat", desc := "(II)V" } : Jvm.MethodName)) ∈ AW := AW_m6 21 (by decide +kernel) (by decide +kernel)
theorem q_1222 : (Jvm.Cond.code ({ cls := "SnowRecorder", name := "needWhat", desc := "(II)V" } : Jvm.MethodName) prog_1_method_42_code (2 : Nat) (Option.none : Option Jvm.ClassFile.FieldType)) ∈ AW := AW_m6 22 (by decide +kernel) (by decide +kernel)
theorem q_1263 : (Jvm.Cond.methodLink "SnowRecorder" (321 : Nat) ({ cls := "SnowRecorder", name := "extraOf", desc := "(I)I" } : Jvm.MethodName)) ∈ AW := AW_m6 63 (by decide +kernel) (by decide +kernel)
theorem q_1264 : (Jvm.Cond.static ({ cls := "SnowRecorder", name := "extraOf", desc := "(I)I" } : Jvm.MethodName)) ∈ AW := AW_m6 64 (by decide +kernel) (by decide +kernel)
theorem q_1265 : (Jvm.Cond.code ({ cls := "SnowRecorder", name := "extraOf", desc := "(I)I" } : Jvm.MethodName) prog_1_method_47_code (4 : Nat) (Option.some Jvm.ClassFile.FieldType.int)) ∈ AW := AW_m6 65 (by decide +kernel) (by decide +kernel)
theorem q_1316 : (Jvm.Cond.methodLink "SnowRecorder" (338 : Nat) ({ cls := "SnowRecorder", name := "needPit", desc := "(I)V" } : Jvm.MethodName)) ∈ AW := AW_m6 116 (by decide +kernel) (by decide +kernel)
theorem q_1318 : (Jvm.Cond.instanceMethod ({ cls := "SnowRecorder", name := "needPit", desc := "(I)V" } : Jvm.MethodName)) ∈ AW := AW_m6 118 (by decide +kernel) (by decide +kernel)
theorem q_1319 : (Jvm.Cond.code ({ cls := "SnowRecorder", name := "needPit", desc := "(I)V" } : Jvm.MethodName) prog_1_method_41_code (2 : Nat) (Option.none : Option Jvm.ClassFile.FieldType)) ∈ AW := AW_m6 119 (by decide +kernel) (by decide +kernel)
theorem q_161 : (Jvm.Cond.fieldLink "SnowRecorder" (197 : Nat) "SnowRecorder$Pack" "runoff" "I") ∈ AW := AW_m1 161 (by decide +kernel) (by decide +kernel)
theorem q_164 : (Jvm.Cond.fieldLink "SnowRecorder" (216 : Nat) "SnowRecorder$Pack" "cells" "[I") ∈ AW := AW_m1 164 (by decide +kernel) (by decide +kernel)
theorem q_174 : (Jvm.Cond.fieldLink "SnowRecorder" (121 : Nat) "SnowRecorder$World" "time" "I") ∈ AW := AW_m1 174 (by decide +kernel) (by decide +kernel)
theorem q_177 : (Jvm.Cond.fieldLink "SnowRecorder" (128 : Nat) "SnowRecorder$World" "names" "I") ∈ AW := AW_m1 177 (by decide +kernel) (by decide +kernel)
theorem q_180 : (Jvm.Cond.fieldLink "SnowRecorder" (134 : Nat) "SnowRecorder$World" "taken" "I") ∈ AW := AW_m1 180 (by decide +kernel) (by decide +kernel)
theorem q_182 : (Jvm.Cond.fieldLink "SnowRecorder" (137 : Nat) "SnowRecorder$World" "slid" "I") ∈ AW := AW_m1 182 (by decide +kernel) (by decide +kernel)
theorem q_184 : (Jvm.Cond.fieldLink "SnowRecorder" (140 : Nat) "SnowRecorder$World" "slides" "I") ∈ AW := AW_m1 184 (by decide +kernel) (by decide +kernel)
theorem q_218 : (Jvm.Cond.fieldLink "SnowRecorder" (160 : Nat) "SnowRecorder$Notes" "size" "I") ∈ AW := AW_m1 218 (by decide +kernel) (by decide +kernel)
theorem q_243 : (Jvm.Cond.fieldLink "SnowRecorder" (344 : Nat) "SnowRecorder$Pit" "slope" "I") ∈ AW := AW_m2 3 (by decide +kernel) (by decide +kernel)
theorem q_246 : (Jvm.Cond.fieldLink "SnowRecorder" (353 : Nat) "SnowRecorder$Pit" "time" "I") ∈ AW := AW_m2 6 (by decide +kernel) (by decide +kernel)
theorem q_249 : (Jvm.Cond.fieldLink "SnowRecorder" (349 : Nat) "SnowRecorder$Pit" "pack" "LSnowRecorder$Pack;") ∈ AW := AW_m2 9 (by decide +kernel) (by decide +kernel)
theorem q_261 : (Jvm.Cond.fieldLink "SnowRecorder" (153 : Nat) "SnowRecorder$State" "acts" "I") ∈ AW := AW_m2 21 (by decide +kernel) (by decide +kernel)
theorem q_263 : (Jvm.Cond.fieldLink "SnowRecorder" (341 : Nat) "SnowRecorder$State" "pits" "[LSnowRecorder$Pit;") ∈ AW := AW_m2 23 (by decide +kernel) (by decide +kernel)
theorem q_265 : (Jvm.Cond.fieldLink "SnowRecorder" (156 : Nat) "SnowRecorder$State" "notes" "LSnowRecorder$Notes;") ∈ AW := AW_m2 25 (by decide +kernel) (by decide +kernel)
theorem q_267 : (Jvm.Cond.fieldLink "SnowRecorder" (100 : Nat) "SnowRecorder$State" "refused" "[I") ∈ AW := AW_m2 27 (by decide +kernel) (by decide +kernel)
theorem q_545 : (Jvm.Cond.methodLink "SnowRecorder" (225 : Nat) ({ cls := "SnowRecorder$Plan", name := "airAt", desc := "(I)I" } : Jvm.MethodName)) ∈ AW := AW_m3 65 (by decide +kernel) (by decide +kernel)
theorem q_564 : (Jvm.Cond.methodLink "SnowRecorder" (206 : Nat) ({ cls := "SnowRecorder$Pack", name := "lowestUnstable", desc := "(IILSnowRecorder$Plan;)I" } : Jvm.MethodName)) ∈ AW := AW_m3 84 (by decide +kernel) (by decide +kernel)
theorem q_565 : (Jvm.Cond.instanceMethod ({ cls := "SnowRecorder$Pack", name := "lowestUnstable", desc := "(IILSnowRecorder$Plan;)I" } : Jvm.MethodName)) ∈ AW := AW_m3 85 (by decide +kernel) (by decide +kernel)
theorem q_566 : (Jvm.Cond.selects "SnowRecorder$Pack" ({ cls := "SnowRecorder$Pack", name := "lowestUnstable", desc := "(IILSnowRecorder$Plan;)I" } : Jvm.MethodName) ({ cls := "SnowRecorder$Pack", name := "lowestUnstable", desc := "(IILSnowRecorder$Plan;)I" } : Jvm.MethodName)) ∈ AW := AW_m3 86 (by decide +kernel) (by decide +kernel)
theorem q_567 : (Jvm.Cond.code ({ cls := "SnowRecorder$Pack", name := "lowestUnstable", desc := "(IILSnowRecorder$Plan;)I" } : Jvm.MethodName) prog_5_method_26_code (7 : Nat) (Option.some Jvm.ClassFile.FieldType.int)) ∈ AW := AW_m3 87 (by decide +kernel) (by decide +kernel)
theorem q_878 : (Jvm.Cond.methodLink "SnowRecorder" (124 : Nat) ({ cls := "SnowRecorder$World", name := "layers", desc := "()I" } : Jvm.MethodName)) ∈ AW := AW_m4 158 (by decide +kernel) (by decide +kernel)
theorem q_879 : (Jvm.Cond.instanceMethod ({ cls := "SnowRecorder$World", name := "layers", desc := "()I" } : Jvm.MethodName)) ∈ AW := AW_m4 159 (by decide +kernel) (by decide +kernel)
theorem q_880 : (Jvm.Cond.selects "SnowRecorder$World" ({ cls := "SnowRecorder$World", name := "layers", desc := "()I" } : Jvm.MethodName) ({ cls := "SnowRecorder$World", name := "layers", desc := "()I" } : Jvm.MethodName)) ∈ AW := AW_m4 160 (by decide +kernel) (by decide +kernel)
theorem q_881 : (Jvm.Cond.code ({ cls := "SnowRecorder$World", name := "layers", desc := "()I" } : Jvm.MethodName) prog_10_method_4_code (3 : Nat) (Option.some Jvm.ClassFile.FieldType.int)) ∈ AW := AW_m4 161 (by decide +kernel) (by decide +kernel)
theorem q_882 : (Jvm.Cond.methodLink "SnowRecorder" (131 : Nat) ({ cls := "SnowRecorder$World", name := "runoff", desc := "()I" } : Jvm.MethodName)) ∈ AW := AW_m4 162 (by decide +kernel) (by decide +kernel)
theorem q_883 : (Jvm.Cond.instanceMethod ({ cls := "SnowRecorder$World", name := "runoff", desc := "()I" } : Jvm.MethodName)) ∈ AW := AW_m4 163 (by decide +kernel) (by decide +kernel)
theorem q_884 : (Jvm.Cond.selects "SnowRecorder$World" ({ cls := "SnowRecorder$World", name := "runoff", desc := "()I" } : Jvm.MethodName) ({ cls := "SnowRecorder$World", name := "runoff", desc := "()I" } : Jvm.MethodName)) ∈ AW := AW_m4 164 (by decide +kernel) (by decide +kernel)
theorem q_885 : (Jvm.Cond.code ({ cls := "SnowRecorder$World", name := "runoff", desc := "()I" } : Jvm.MethodName) prog_10_method_5_code (3 : Nat) (Option.some Jvm.ClassFile.FieldType.int)) ∈ AW := AW_m4 165 (by decide +kernel) (by decide +kernel)
theorem q_886 : (Jvm.Cond.methodLink "SnowRecorder" (143 : Nat) ({ cls := "SnowRecorder$World", name := "sum", desc := "(I)I" } : Jvm.MethodName)) ∈ AW := AW_m4 166 (by decide +kernel) (by decide +kernel)
theorem q_887 : (Jvm.Cond.instanceMethod ({ cls := "SnowRecorder$World", name := "sum", desc := "(I)I" } : Jvm.MethodName)) ∈ AW := AW_m4 167 (by decide +kernel) (by decide +kernel)
theorem q_888 : (Jvm.Cond.selects "SnowRecorder$World" ({ cls := "SnowRecorder$World", name := "sum", desc := "(I)I" } : Jvm.MethodName) ({ cls := "SnowRecorder$World", name := "sum", desc := "(I)I" } : Jvm.MethodName)) ∈ AW := AW_m4 168 (by decide +kernel) (by decide +kernel)
theorem q_889 : (Jvm.Cond.code ({ cls := "SnowRecorder$World", name := "sum", desc := "(I)I" } : Jvm.MethodName) prog_10_method_6_code (4 : Nat) (Option.some Jvm.ClassFile.FieldType.int)) ∈ AW := AW_m4 169 (by decide +kernel) (by decide +kernel)
theorem q_894 : (Jvm.Cond.methodLink "SnowRecorder" (147 : Nat) ({ cls := "SnowRecorder", name := "worst", desc := "()I" } : Jvm.MethodName)) ∈ AW := AW_m4 174 (by decide +kernel) (by decide +kernel)
theorem q_896 : (Jvm.Cond.instanceMethod ({ cls := "SnowRecorder", name := "worst", desc := "()I" } : Jvm.MethodName)) ∈ AW := AW_m4 176 (by decide +kernel) (by decide +kernel)
theorem q_897 : (Jvm.Cond.code ({ cls := "SnowRecorder", name := "worst", desc := "()I" } : Jvm.MethodName) prog_1_method_44_code (5 : Nat) (Option.some Jvm.ClassFile.FieldType.int)) ∈ AW := AW_m4 177 (by decide +kernel) (by decide +kernel)
theorem q_898 : (Jvm.Cond.methodLink "SnowRecorder" (203 : Nat) ({ cls := "SnowRecorder$Pack", name := "leastRatio", desc := "(ILSnowRecorder$Plan;)I" } : Jvm.MethodName)) ∈ AW := AW_m4 178 (by decide +kernel) (by decide +kernel)
theorem q_899 : (Jvm.Cond.instanceMethod ({ cls := "SnowRecorder$Pack", name := "leastRatio", desc := "(ILSnowRecorder$Plan;)I" } : Jvm.MethodName)) ∈ AW := AW_m4 179 (by decide +kernel) (by decide +kernel)
theorem q_900 : (Jvm.Cond.selects "SnowRecorder$Pack" ({ cls := "SnowRecorder$Pack", name := "leastRatio", desc := "(ILSnowRecorder$Plan;)I" } : Jvm.MethodName) ({ cls := "SnowRecorder$Pack", name := "leastRatio", desc := "(ILSnowRecorder$Plan;)I" } : Jvm.MethodName)) ∈ AW := AW_m4 180 (by decide +kernel) (by decide +kernel)
theorem q_901 : (Jvm.Cond.code ({ cls := "SnowRecorder$Pack", name := "leastRatio", desc := "(ILSnowRecorder$Plan;)I" } : Jvm.MethodName) prog_5_method_25_code (4 : Nat) (Option.some Jvm.ClassFile.FieldType.int)) ∈ AW := AW_m4 181 (by decide +kernel) (by decide +kernel)
theorem q_93 : (Jvm.Cond.fieldLink "SnowRecorder" (118 : Nat) "SnowRecorder$Plan" "hours" "I") ∈ AW := AW_m1 93 (by decide +kernel) (by decide +kernel)
theorem q_936 : (Jvm.Cond.methodLink "SnowRecorder" (183 : Nat) ({ cls := "SnowRecorder", name := "packOf", desc := "(I)LSnowRecorder$Pack;" } : Jvm.MethodName)) ∈ AW := AW_m4 216 (by decide +kernel) (by decide +kernel)
theorem q_938 : (Jvm.Cond.instanceMethod ({ cls := "SnowRecorder", name := "packOf", desc := "(I)LSnowRecorder$Pack;" } : Jvm.MethodName)) ∈ AW := AW_m4 218 (by decide +kernel) (by decide +kernel)
theorem q_939 : (Jvm.Cond.code ({ cls := "SnowRecorder", name := "packOf", desc := "(I)LSnowRecorder$Pack;" } : Jvm.MethodName) prog_1_method_39_code (2 : Nat) (Option.some (Jvm.ClassFile.FieldType.object "SnowRecorder$Pack"))) ∈ AW := AW_m4 219 (by decide +kernel) (by decide +kernel)
theorem q_945 : (Jvm.Cond.methodLink "SnowRecorder" (196 : Nat) ({ cls := "SnowRecorder$Pack", name := "sum", desc := "(I)I" } : Jvm.MethodName)) ∈ AW := AW_m4 225 (by decide +kernel) (by decide +kernel)
theorem q_946 : (Jvm.Cond.methodLink "SnowRecorder" (199 : Nat) ({ cls := "SnowRecorder$Pack", name := "weakest", desc := "(ILSnowRecorder$Plan;)I" } : Jvm.MethodName)) ∈ AW := AW_m4 226 (by decide +kernel) (by decide +kernel)
theorem q_955 : (Jvm.Cond.methodLink "SnowRecorder" (212 : Nat) ({ cls := "SnowRecorder", name := "needLayer", desc := "(LSnowRecorder$Pack;I)V" } : Jvm.MethodName)) ∈ AW := AW_m4 235 (by decide +kernel) (by decide +kernel)
theorem q_957 : (Jvm.Cond.instanceMethod ({ cls := "SnowRecorder", name := "needLayer", desc := "(LSnowRecorder$Pack;I)V" } : Jvm.MethodName)) ∈ AW := AW_m4 237 (by decide +kernel) (by decide +kernel)
theorem q_958 : (Jvm.Cond.code ({ cls := "SnowRecorder", name := "needLayer", desc := "(LSnowRecorder$Pack;I)V" } : Jvm.MethodName) prog_1_method_40_code (3 : Nat) (Option.none : Option Jvm.ClassFile.FieldType)) ∈ AW := AW_m4 238 (by decide +kernel) (by decide +kernel)
theorem q_960 : (Jvm.Cond.methodLink "SnowRecorder" (219 : Nat) ({ cls := "SnowRecorder$Pack", name := "massAbove", desc := "(I)I" } : Jvm.MethodName)) ∈ AW := AW_m5 0 (by decide +kernel) (by decide +kernel)
theorem q_961 : (Jvm.Cond.methodLink "SnowRecorder" (222 : Nat) ({ cls := "SnowRecorder$Pack", name := "mass", desc := "(I)I" } : Jvm.MethodName)) ∈ AW := AW_m5 1 (by decide +kernel) (by decide +kernel)
theorem q_962 : (Jvm.Cond.methodLink "SnowRecorder" (228 : Nat) ({ cls := "SnowRecorder$Pack", name := "grade", desc := "(II)I" } : Jvm.MethodName)) ∈ AW := AW_m5 2 (by decide +kernel) (by decide +kernel)
theorem q_963 : (Jvm.Cond.methodLink "SnowRecorder" (232 : Nat) ({ cls := "SnowRecorder$Pack", name := "strength", desc := "(ILSnowRecorder$Plan;)I" } : Jvm.MethodName)) ∈ AW := AW_m5 3 (by decide +kernel) (by decide +kernel)
theorem q_964 : (Jvm.Cond.methodLink "SnowRecorder" (235 : Nat) ({ cls := "SnowRecorder", name := "burden", desc := "(II)I" } : Jvm.MethodName)) ∈ AW := AW_m5 4 (by decide +kernel) (by decide +kernel)
theorem q_965 : (Jvm.Cond.methodLink "SnowRecorder" (238 : Nat) ({ cls := "SnowRecorder$Pack", name := "ratio", desc := "(IILSnowRecorder$Plan;)I" } : Jvm.MethodName)) ∈ AW := AW_m5 5 (by decide +kernel) (by decide +kernel)
theorem q_98 : (Jvm.Cond.fieldLink "SnowRecorder" (187 : Nat) "SnowRecorder$Plan" "steep" "[I") ∈ AW := AW_m1 98 (by decide +kernel) (by decide +kernel)
theorem s_22 : Cond.selects "SnowRecorder" ({ cls := "SnowRecorder", name := "worst", desc := "()I" } : Jvm.MethodName) ({ cls := "SnowRecorder", name := "worst", desc := "()I" } : Jvm.MethodName) ∈ AW := AW_m 22 (by decide +kernel) (by decide +kernel)
theorem s_23 : Cond.selects "SnowRecorder" ({ cls := "SnowRecorder", name := "packOf", desc := "(I)LSnowRecorder$Pack;" } : Jvm.MethodName) ({ cls := "SnowRecorder", name := "packOf", desc := "(I)LSnowRecorder$Pack;" } : Jvm.MethodName) ∈ AW := AW_m 23 (by decide +kernel) (by decide +kernel)
theorem s_25 : Cond.selects "SnowRecorder" ({ cls := "SnowRecorder", name := "needLayer", desc := "(LSnowRecorder$Pack;I)V" } : Jvm.MethodName) ({ cls := "SnowRecorder", name := "needLayer", desc := "(LSnowRecorder$Pack;I)V" } : Jvm.MethodName) ∈ AW := AW_m 25 (by decide +kernel) (by decide +kernel)
theorem s_29 : Cond.selects "SnowRecorder" ({ cls := "SnowRecorder", name := "needPit", desc := "(I)V" } : Jvm.MethodName) ({ cls := "SnowRecorder", name := "needPit", desc := "(I)V" } : Jvm.MethodName) ∈ AW := AW_m 29 (by decide +kernel) (by decide +kernel)
theorem hd_yX3_leastRatio : yX3_leastRatio.cls ≠ "java/lang/invoke/MethodHandle" ∧ yX3_leastRatio.cls ≠ "java/lang/invoke/VarHandle" ∧ (parseMethodDescriptor yX3_leastRatio.desc).map (fun d => d.parameters.length) = some 2 := by decide +kernel
theorem hd_yX3_lowestUnstable : yX3_lowestUnstable.cls ≠ "java/lang/invoke/MethodHandle" ∧ yX3_lowestUnstable.cls ≠ "java/lang/invoke/VarHandle" ∧ (parseMethodDescriptor yX3_lowestUnstable.desc).map (fun d => d.parameters.length) = some 3 := by decide +kernel
theorem hd_yX8_layers : yX8_layers.cls ≠ "java/lang/invoke/MethodHandle" ∧ yX8_layers.cls ≠ "java/lang/invoke/VarHandle" ∧ (parseMethodDescriptor yX8_layers.desc).map (fun d => d.parameters.length) = some 0 := by decide +kernel
theorem hd_yX8_runoff : yX8_runoff.cls ≠ "java/lang/invoke/MethodHandle" ∧ yX8_runoff.cls ≠ "java/lang/invoke/VarHandle" ∧ (parseMethodDescriptor yX8_runoff.desc).map (fun d => d.parameters.length) = some 0 := by decide +kernel
theorem hd_yX8_sum : yX8_sum.cls ≠ "java/lang/invoke/MethodHandle" ∧ yX8_sum.cls ≠ "java/lang/invoke/VarHandle" ∧ (parseMethodDescriptor yX8_sum.desc).map (fun d => d.parameters.length) = some 1 := by decide +kernel
theorem hd_yX9_worst : yX9_worst.cls ≠ "java/lang/invoke/MethodHandle" ∧ yX9_worst.cls ≠ "java/lang/invoke/VarHandle" ∧ (parseMethodDescriptor yX9_worst.desc).map (fun d => d.parameters.length) = some 0 := by decide +kernel
theorem hd_yX9_packOf : yX9_packOf.cls ≠ "java/lang/invoke/MethodHandle" ∧ yX9_packOf.cls ≠ "java/lang/invoke/VarHandle" ∧ (parseMethodDescriptor yX9_packOf.desc).map (fun d => d.parameters.length) = some 1 := by decide +kernel
theorem hd_yX9_needLayer : yX9_needLayer.cls ≠ "java/lang/invoke/MethodHandle" ∧ yX9_needLayer.cls ≠ "java/lang/invoke/VarHandle" ∧ (parseMethodDescriptor yX9_needLayer.desc).map (fun d => d.parameters.length) = some 2 := by decide +kernel
theorem hd_yX9_needWhat : yX9_needWhat.cls ≠ "java/lang/invoke/MethodHandle" ∧ yX9_needWhat.cls ≠ "java/lang/invoke/VarHandle" ∧ (parseMethodDescriptor yX9_needWhat.desc).map (fun d => d.parameters.length) = some 2 := by decide +kernel
theorem hd_yX9_extraOf : yX9_extraOf.cls ≠ "java/lang/invoke/MethodHandle" ∧ yX9_extraOf.cls ≠ "java/lang/invoke/VarHandle" ∧ (parseMethodDescriptor yX9_extraOf.desc).map (fun d => d.parameters.length) = some 1 := by decide +kernel
theorem hd_yX9_needPit : yX9_needPit.cls ≠ "java/lang/invoke/MethodHandle" ∧ yX9_needPit.cls ≠ "java/lang/invoke/VarHandle" ∧ (parseMethodDescriptor yX9_needPit.desc).map (fun d => d.parameters.length) = some 1 := by decide +kernel
theorem mv_yX3_leastRatio : zWv yX3_leastRatio cX3_leastRatio 4 (some .int) := ⟨q_899, q_900, q_6, q_901⟩
theorem mv_yX3_lowestUnstable : zWv yX3_lowestUnstable cX3_lowestUnstable 7 (some .int) := ⟨q_565, q_566, q_6, q_567⟩
theorem mv_yX8_layers : zWv yX8_layers cX8_layers 3 (some .int) := ⟨q_879, q_880, q_5, q_881⟩
theorem mv_yX8_runoff : zWv yX8_runoff cX8_runoff 3 (some .int) := ⟨q_883, q_884, q_5, q_885⟩
theorem mv_yX8_sum : zWv yX8_sum cX8_sum 4 (some .int) := ⟨q_887, q_888, q_5, q_889⟩
theorem mv_yX9_worst : zWv yX9_worst cX9_worst 5 (some .int) := ⟨q_896, s_22, q_1, q_897⟩
theorem mv_yX9_packOf : zWv yX9_packOf cX9_packOf 2 (some (.object "SnowRecorder$Pack")) := ⟨q_938, s_23, q_1, q_939⟩
theorem mv_yX9_needLayer : zWv yX9_needLayer cX9_needLayer 3 none := ⟨q_957, s_25, q_1, q_958⟩
theorem ms_yX9_needWhat : zWs yX9_needWhat cX9_needWhat 2 none := ⟨q_1221, q_1, q_1222⟩
theorem ms_yX9_extraOf : zWs yX9_extraOf cX9_extraOf 4 (some .int) := ⟨q_1264, q_1, q_1265⟩
theorem mv_yX9_needPit : zWv yX9_needPit cX9_needPit 2 none := ⟨q_1318, s_29, q_1, q_1319⟩
end
section
-- 42.dec.lean.txt
-- decode rows of ask
theorem dX9_worst_0 : decode cX9_worst 0 = .ok (.iconst (-1), 1) := by decide +kernel
theorem dX9_worst_1 : decode cX9_worst 1 = .ok (.istore_n 1, 1) := by decide +kernel
theorem dX9_worst_2 : decode cX9_worst 2 = .ok (.iconst 0, 1) := by decide +kernel
theorem dX9_worst_3 : decode cX9_worst 3 = .ok (.istore_n 2, 1) := by decide +kernel
theorem dX9_worst_4 : decode cX9_worst 4 = .ok (.iconst 0, 1) := by decide +kernel
theorem dX9_worst_5 : decode cX9_worst 5 = .ok (.istore_n 3, 1) := by decide +kernel
theorem dX9_worst_6 : decode cX9_worst 6 = .ok (.iload_n 3, 1) := by decide +kernel
theorem dX9_worst_7 : decode cX9_worst 7 = .ok (.aload_n 0, 1) := by decide +kernel
theorem dX9_worst_8 : decode cX9_worst 8 = .ok (.getfield 30, 3) := by decide +kernel
theorem dX9_worst_11 : decode cX9_worst 11 = .ok (.getfield 115, 3) := by decide +kernel
theorem dX9_worst_14 : decode cX9_worst 14 = .ok (.if_icmp .ge 55, 3) := by decide +kernel
theorem dX9_worst_69 : decode cX9_worst 69 = .ok (.iload_n 1, 1) := by decide +kernel
theorem dX9_worst_70 : decode cX9_worst 70 = .ok (.ireturn, 1) := by decide +kernel
theorem dX9_worst_17 : decode cX9_worst 17 = .ok (.aload_n 0, 1) := by decide +kernel
theorem dX9_worst_18 : decode cX9_worst 18 = .ok (.getfield 37, 3) := by decide +kernel
theorem dX9_worst_21 : decode cX9_worst 21 = .ok (.getfield 112, 3) := by decide +kernel
theorem dX9_worst_24 : decode cX9_worst 24 = .ok (.getfield 280, 3) := by decide +kernel
theorem dX9_worst_27 : decode cX9_worst 27 = .ok (.iload_n 3, 1) := by decide +kernel
theorem dX9_worst_28 : decode cX9_worst 28 = .ok (.aaload, 1) := by decide +kernel
theorem dX9_worst_29 : decode cX9_worst 29 = .ok (.aload_n 0, 1) := by decide +kernel
theorem dX9_worst_30 : decode cX9_worst 30 = .ok (.getfield 30, 3) := by decide +kernel
theorem dX9_worst_33 : decode cX9_worst 33 = .ok (.getfield 187, 3) := by decide +kernel
theorem dX9_worst_36 : decode cX9_worst 36 = .ok (.iload_n 3, 1) := by decide +kernel
theorem dX9_worst_37 : decode cX9_worst 37 = .ok (.iaload, 1) := by decide +kernel
theorem dX9_worst_38 : decode cX9_worst 38 = .ok (.aload_n 0, 1) := by decide +kernel
theorem dX9_worst_39 : decode cX9_worst 39 = .ok (.getfield 30, 3) := by decide +kernel
theorem dX9_worst_42 : decode cX9_worst 42 = .ok (.invokevirtual 203, 3) := by decide +kernel
theorem dX9_worst_45 : decode cX9_worst 45 = .ok (.istore 4, 2) := by decide +kernel
theorem dX9_worst_47 : decode cX9_worst 47 = .ok (.iload_n 1, 1) := by decide +kernel
theorem dX9_worst_48 : decode cX9_worst 48 = .ok (.iconst (-1), 1) := by decide +kernel
theorem dX9_worst_49 : decode cX9_worst 49 = .ok (.if_icmp .eq 9, 3) := by decide +kernel
theorem dX9_worst_58 : decode cX9_worst 58 = .ok (.iload_n 3, 1) := by decide +kernel
theorem dX9_worst_59 : decode cX9_worst 59 = .ok (.istore_n 1, 1) := by decide +kernel
theorem dX9_worst_60 : decode cX9_worst 60 = .ok (.iload 4, 2) := by decide +kernel
theorem dX9_worst_62 : decode cX9_worst 62 = .ok (.istore_n 2, 1) := by decide +kernel
theorem dX9_worst_63 : decode cX9_worst 63 = .ok (.iinc 3 1, 3) := by decide +kernel
theorem dX9_worst_66 : decode cX9_worst 66 = .ok (.goto (-60), 3) := by decide +kernel
theorem dX9_worst_52 : decode cX9_worst 52 = .ok (.iload 4, 2) := by decide +kernel
theorem dX9_worst_54 : decode cX9_worst 54 = .ok (.iload_n 2, 1) := by decide +kernel
theorem dX9_worst_55 : decode cX9_worst 55 = .ok (.if_icmp .ge 8, 3) := by decide +kernel
theorem dX9_comesByHand_0 : decode cX9_comesByHand 0 = .ok (.iload_n 1, 1) := by decide +kernel
theorem dX9_comesByHand_1 : decode cX9_comesByHand 1 = .ok (.iconst 3, 1) := by decide +kernel
theorem dX9_comesByHand_2 : decode cX9_comesByHand 2 = .ok (.if_icmp .ne 29, 3) := by decide +kernel
theorem dX9_comesByHand_31 : decode cX9_comesByHand 31 = .ok (.iload_n 1, 1) := by decide +kernel
theorem dX9_comesByHand_32 : decode cX9_comesByHand 32 = .ok (.iconst 1, 1) := by decide +kernel
theorem dX9_comesByHand_33 : decode cX9_comesByHand 33 = .ok (.if_icmp .eq 8, 3) := by decide +kernel
theorem dX9_comesByHand_41 : decode cX9_comesByHand 41 = .ok (.iload_n 2, 1) := by decide +kernel
theorem dX9_comesByHand_42 : decode cX9_comesByHand 42 = .ok (.iconst 1, 1) := by decide +kernel
theorem dX9_comesByHand_43 : decode cX9_comesByHand 43 = .ok (.if_icmp .lt 13, 3) := by decide +kernel
theorem dX9_comesByHand_56 : decode cX9_comesByHand 56 = .ok (.iconst 0, 1) := by decide +kernel
theorem dX9_comesByHand_57 : decode cX9_comesByHand 57 = .ok (.ireturn, 1) := by decide +kernel
theorem dX9_comesByHand_46 : decode cX9_comesByHand 46 = .ok (.iload_n 2, 1) := by decide +kernel
theorem dX9_comesByHand_47 : decode cX9_comesByHand 47 = .ok (.bipush 50, 2) := by decide +kernel
theorem dX9_comesByHand_49 : decode cX9_comesByHand 49 = .ok (.if_icmp .gt 7, 3) := by decide +kernel
theorem dX9_comesByHand_52 : decode cX9_comesByHand 52 = .ok (.iconst 1, 1) := by decide +kernel
theorem dX9_comesByHand_53 : decode cX9_comesByHand 53 = .ok (.goto 4, 3) := by decide +kernel
theorem dX9_comesByHand_36 : decode cX9_comesByHand 36 = .ok (.iload_n 1, 1) := by decide +kernel
theorem dX9_comesByHand_37 : decode cX9_comesByHand 37 = .ok (.iconst 2, 1) := by decide +kernel
theorem dX9_comesByHand_38 : decode cX9_comesByHand 38 = .ok (.if_icmp .ne 18, 3) := by decide +kernel
theorem dX9_comesByHand_5 : decode cX9_comesByHand 5 = .ok (.aload_n 0, 1) := by decide +kernel
theorem dX9_comesByHand_6 : decode cX9_comesByHand 6 = .ok (.getfield 30, 3) := by decide +kernel
theorem dX9_comesByHand_9 : decode cX9_comesByHand 9 = .ok (.aload_n 0, 1) := by decide +kernel
theorem dX9_comesByHand_10 : decode cX9_comesByHand 10 = .ok (.getfield 37, 3) := by decide +kernel
theorem dX9_comesByHand_13 : decode cX9_comesByHand 13 = .ok (.getfield 112, 3) := by decide +kernel
theorem dX9_comesByHand_16 : decode cX9_comesByHand 16 = .ok (.getfield 121, 3) := by decide +kernel
theorem dX9_comesByHand_19 : decode cX9_comesByHand 19 = .ok (.invokevirtual 225, 3) := by decide +kernel
theorem dX9_comesByHand_22 : decode cX9_comesByHand 22 = .ok (.ifCond .ge 7, 3) := by decide +kernel
theorem dX9_comesByHand_29 : decode cX9_comesByHand 29 = .ok (.iconst 0, 1) := by decide +kernel
theorem dX9_comesByHand_30 : decode cX9_comesByHand 30 = .ok (.ireturn, 1) := by decide +kernel
theorem dX9_comesByHand_25 : decode cX9_comesByHand 25 = .ok (.iconst 1, 1) := by decide +kernel
theorem dX9_comesByHand_26 : decode cX9_comesByHand 26 = .ok (.goto 4, 3) := by decide +kernel
theorem dX9_isUnstable_0 : decode cX9_isUnstable 0 = .ok (.aload_n 1, 1) := by decide +kernel
theorem dX9_isUnstable_1 : decode cX9_isUnstable 1 = .ok (.getfield 280, 3) := by decide +kernel
theorem dX9_isUnstable_4 : decode cX9_isUnstable 4 = .ok (.iload_n 2, 1) := by decide +kernel
theorem dX9_isUnstable_5 : decode cX9_isUnstable 5 = .ok (.aaload, 1) := by decide +kernel
theorem dX9_isUnstable_6 : decode cX9_isUnstable 6 = .ok (.aload_n 0, 1) := by decide +kernel
theorem dX9_isUnstable_7 : decode cX9_isUnstable 7 = .ok (.getfield 30, 3) := by decide +kernel
theorem dX9_isUnstable_10 : decode cX9_isUnstable 10 = .ok (.getfield 187, 3) := by decide +kernel
theorem dX9_isUnstable_13 : decode cX9_isUnstable 13 = .ok (.iload_n 2, 1) := by decide +kernel
theorem dX9_isUnstable_14 : decode cX9_isUnstable 14 = .ok (.iaload, 1) := by decide +kernel
theorem dX9_isUnstable_15 : decode cX9_isUnstable 15 = .ok (.iconst 0, 1) := by decide +kernel
theorem dX9_isUnstable_16 : decode cX9_isUnstable 16 = .ok (.aload_n 0, 1) := by decide +kernel
theorem dX9_isUnstable_17 : decode cX9_isUnstable 17 = .ok (.getfield 30, 3) := by decide +kernel
theorem dX9_isUnstable_20 : decode cX9_isUnstable 20 = .ok (.invokevirtual 206, 3) := by decide +kernel
theorem dX9_isUnstable_23 : decode cX9_isUnstable 23 = .ok (.iconst (-1), 1) := by decide +kernel
theorem dX9_isUnstable_24 : decode cX9_isUnstable 24 = .ok (.if_icmp .eq 7, 3) := by decide +kernel
theorem dX9_isUnstable_31 : decode cX9_isUnstable 31 = .ok (.iconst 0, 1) := by decide +kernel
theorem dX9_isUnstable_32 : decode cX9_isUnstable 32 = .ok (.ireturn, 1) := by decide +kernel
theorem dX9_isUnstable_27 : decode cX9_isUnstable 27 = .ok (.iconst 1, 1) := by decide +kernel
theorem dX9_isUnstable_28 : decode cX9_isUnstable 28 = .ok (.goto 4, 3) := by decide +kernel
theorem dX9_count_0 : decode cX9_count 0 = .ok (.aload_n 0, 1) := by decide +kernel
theorem dX9_count_1 : decode cX9_count 1 = .ok (.getfield 37, 3) := by decide +kernel
theorem dX9_count_4 : decode cX9_count 4 = .ok (.getfield 112, 3) := by decide +kernel
theorem dX9_count_7 : decode cX9_count 7 = .ok (.astore_n 2, 1) := by decide +kernel
theorem dX9_count_8 : decode cX9_count 8 = .ok (.iload_n 1, 1) := by decide +kernel
theorem dX9_count_9 : decode cX9_count 9 = .ok (.tableswitch 216 0 17 #[87, 95, 103, 108, 113, 118, 123, 128, 133, 138, 152, 157, 162, 170, 181, 186, 196, 206], 87) := by decide +kernel
theorem dX9_count_225 : decode cX9_count 225 = .ok (.new 165, 3) := by decide +kernel
theorem dX9_count_228 : decode cX9_count 228 = .ok (.dup, 1) := by decide +kernel
theorem dX9_count_229 : decode cX9_count 229 = .ok (.ldc 167, 2) := by decide +kernel
theorem dX9_count_231 : decode cX9_count 231 = .ok (.invokespecial 169, 3) := by decide +kernel
theorem dX9_count_234 : decode cX9_count 234 = .ok (.athrow, 1) := by decide +kernel
theorem dX9_count_96 : decode cX9_count 96 = .ok (.aload_n 0, 1) := by decide +kernel
theorem dX9_count_97 : decode cX9_count 97 = .ok (.getfield 30, 3) := by decide +kernel
theorem dX9_count_100 : decode cX9_count 100 = .ok (.getfield 115, 3) := by decide +kernel
theorem dX9_count_103 : decode cX9_count 103 = .ok (.ireturn, 1) := by decide +kernel
theorem dX9_count_104 : decode cX9_count 104 = .ok (.aload_n 0, 1) := by decide +kernel
theorem dX9_count_105 : decode cX9_count 105 = .ok (.getfield 30, 3) := by decide +kernel
theorem dX9_count_108 : decode cX9_count 108 = .ok (.getfield 118, 3) := by decide +kernel
theorem dX9_count_111 : decode cX9_count 111 = .ok (.ireturn, 1) := by decide +kernel
theorem dX9_count_112 : decode cX9_count 112 = .ok (.aload_n 2, 1) := by decide +kernel
theorem dX9_count_113 : decode cX9_count 113 = .ok (.getfield 121, 3) := by decide +kernel
theorem dX9_count_116 : decode cX9_count 116 = .ok (.ireturn, 1) := by decide +kernel
theorem dX9_count_117 : decode cX9_count 117 = .ok (.aload_n 2, 1) := by decide +kernel
theorem dX9_count_118 : decode cX9_count 118 = .ok (.invokevirtual 124, 3) := by decide +kernel
theorem dX9_count_121 : decode cX9_count 121 = .ok (.ireturn, 1) := by decide +kernel
theorem dX9_count_122 : decode cX9_count 122 = .ok (.aload_n 2, 1) := by decide +kernel
theorem dX9_count_123 : decode cX9_count 123 = .ok (.getfield 128, 3) := by decide +kernel
theorem dX9_count_126 : decode cX9_count 126 = .ok (.ireturn, 1) := by decide +kernel
theorem dX9_count_127 : decode cX9_count 127 = .ok (.aload_n 2, 1) := by decide +kernel
theorem dX9_count_128 : decode cX9_count 128 = .ok (.invokevirtual 131, 3) := by decide +kernel
theorem dX9_count_131 : decode cX9_count 131 = .ok (.ireturn, 1) := by decide +kernel
theorem dX9_count_132 : decode cX9_count 132 = .ok (.aload_n 2, 1) := by decide +kernel
theorem dX9_count_133 : decode cX9_count 133 = .ok (.getfield 134, 3) := by decide +kernel
theorem dX9_count_136 : decode cX9_count 136 = .ok (.ireturn, 1) := by decide +kernel
theorem dX9_count_137 : decode cX9_count 137 = .ok (.aload_n 2, 1) := by decide +kernel
theorem dX9_count_138 : decode cX9_count 138 = .ok (.getfield 137, 3) := by decide +kernel
theorem dX9_count_141 : decode cX9_count 141 = .ok (.ireturn, 1) := by decide +kernel
theorem dX9_count_142 : decode cX9_count 142 = .ok (.aload_n 2, 1) := by decide +kernel
theorem dX9_count_143 : decode cX9_count 143 = .ok (.getfield 140, 3) := by decide +kernel
theorem dX9_count_146 : decode cX9_count 146 = .ok (.ireturn, 1) := by decide +kernel
theorem dX9_count_147 : decode cX9_count 147 = .ok (.aload_n 2, 1) := by decide +kernel
theorem dX9_count_148 : decode cX9_count 148 = .ok (.bipush 12, 2) := by decide +kernel
theorem dX9_count_150 : decode cX9_count 150 = .ok (.invokevirtual 143, 3) := by decide +kernel
theorem dX9_count_153 : decode cX9_count 153 = .ok (.aload_n 2, 1) := by decide +kernel
theorem dX9_count_154 : decode cX9_count 154 = .ok (.bipush 24, 2) := by decide +kernel
theorem dX9_count_156 : decode cX9_count 156 = .ok (.invokevirtual 143, 3) := by decide +kernel
theorem dX9_count_159 : decode cX9_count 159 = .ok (.iadd, 1) := by decide +kernel
theorem dX9_count_160 : decode cX9_count 160 = .ok (.ireturn, 1) := by decide +kernel
theorem dX9_count_161 : decode cX9_count 161 = .ok (.aload_n 0, 1) := by decide +kernel
theorem dX9_count_162 : decode cX9_count 162 = .ok (.invokevirtual 147, 3) := by decide +kernel
theorem dX9_count_165 : decode cX9_count 165 = .ok (.ireturn, 1) := by decide +kernel
theorem dX9_count_166 : decode cX9_count 166 = .ok (.aload_n 2, 1) := by decide +kernel
theorem dX9_count_167 : decode cX9_count 167 = .ok (.getfield 150, 3) := by decide +kernel
theorem dX9_count_170 : decode cX9_count 170 = .ok (.ireturn, 1) := by decide +kernel
theorem dX9_count_171 : decode cX9_count 171 = .ok (.aload_n 0, 1) := by decide +kernel
theorem dX9_count_172 : decode cX9_count 172 = .ok (.getfield 37, 3) := by decide +kernel
theorem dX9_count_175 : decode cX9_count 175 = .ok (.getfield 153, 3) := by decide +kernel
theorem dX9_count_178 : decode cX9_count 178 = .ok (.ireturn, 1) := by decide +kernel
theorem dX9_count_179 : decode cX9_count 179 = .ok (.aload_n 0, 1) := by decide +kernel
theorem dX9_count_180 : decode cX9_count 180 = .ok (.getfield 37, 3) := by decide +kernel
theorem dX9_count_183 : decode cX9_count 183 = .ok (.getfield 156, 3) := by decide +kernel
theorem dX9_count_186 : decode cX9_count 186 = .ok (.getfield 160, 3) := by decide +kernel
theorem dX9_count_189 : decode cX9_count 189 = .ok (.ireturn, 1) := by decide +kernel
theorem dX9_count_190 : decode cX9_count 190 = .ok (.aload_n 0, 1) := by decide +kernel
theorem dX9_count_191 : decode cX9_count 191 = .ok (.getfield 13, 3) := by decide +kernel
theorem dX9_count_194 : decode cX9_count 194 = .ok (.ireturn, 1) := by decide +kernel
theorem dX9_count_195 : decode cX9_count 195 = .ok (.aload_n 0, 1) := by decide +kernel
theorem dX9_count_196 : decode cX9_count 196 = .ok (.getfield 37, 3) := by decide +kernel
theorem dX9_count_199 : decode cX9_count 199 = .ok (.getfield 100, 3) := by decide +kernel
theorem dX9_count_202 : decode cX9_count 202 = .ok (.iconst 0, 1) := by decide +kernel
theorem dX9_count_203 : decode cX9_count 203 = .ok (.iaload, 1) := by decide +kernel
theorem dX9_count_204 : decode cX9_count 204 = .ok (.ireturn, 1) := by decide +kernel
theorem dX9_count_205 : decode cX9_count 205 = .ok (.aload_n 0, 1) := by decide +kernel
theorem dX9_count_206 : decode cX9_count 206 = .ok (.getfield 37, 3) := by decide +kernel
theorem dX9_count_209 : decode cX9_count 209 = .ok (.getfield 100, 3) := by decide +kernel
theorem dX9_count_212 : decode cX9_count 212 = .ok (.iconst 1, 1) := by decide +kernel
theorem dX9_count_213 : decode cX9_count 213 = .ok (.iaload, 1) := by decide +kernel
theorem dX9_count_214 : decode cX9_count 214 = .ok (.ireturn, 1) := by decide +kernel
theorem dX9_count_215 : decode cX9_count 215 = .ok (.aload_n 0, 1) := by decide +kernel
theorem dX9_count_216 : decode cX9_count 216 = .ok (.getfield 37, 3) := by decide +kernel
theorem dX9_count_219 : decode cX9_count 219 = .ok (.getfield 100, 3) := by decide +kernel
theorem dX9_count_222 : decode cX9_count 222 = .ok (.iconst 2, 1) := by decide +kernel
theorem dX9_count_223 : decode cX9_count 223 = .ok (.iaload, 1) := by decide +kernel
theorem dX9_count_224 : decode cX9_count 224 = .ok (.ireturn, 1) := by decide +kernel
theorem dX9_forecast_0 : decode cX9_forecast 0 = .ok (.iload_n 1, 1) := by decide +kernel
theorem dX9_forecast_1 : decode cX9_forecast 1 = .ok (.ifCond .lt 14, 3) := by decide +kernel
theorem dX9_forecast_15 : decode cX9_forecast 15 = .ok (.new 165, 3) := by decide +kernel
theorem dX9_forecast_18 : decode cX9_forecast 18 = .ok (.dup, 1) := by decide +kernel
theorem dX9_forecast_19 : decode cX9_forecast 19 = .ok (.ldc 170, 2) := by decide +kernel
theorem dX9_forecast_21 : decode cX9_forecast 21 = .ok (.invokespecial 169, 3) := by decide +kernel
theorem dX9_forecast_24 : decode cX9_forecast 24 = .ok (.athrow, 1) := by decide +kernel
theorem dX9_forecast_4 : decode cX9_forecast 4 = .ok (.iload_n 1, 1) := by decide +kernel
theorem dX9_forecast_5 : decode cX9_forecast 5 = .ok (.aload_n 0, 1) := by decide +kernel
theorem dX9_forecast_6 : decode cX9_forecast 6 = .ok (.getfield 30, 3) := by decide +kernel
theorem dX9_forecast_9 : decode cX9_forecast 9 = .ok (.getfield 118, 3) := by decide +kernel
theorem dX9_forecast_12 : decode cX9_forecast 12 = .ok (.if_icmp .lt 13, 3) := by decide +kernel
theorem dX9_forecast_25 : decode cX9_forecast 25 = .ok (.iload_n 2, 1) := by decide +kernel
theorem dX9_forecast_26 : decode cX9_forecast 26 = .ok (.tableswitch 56 0 2 #[26, 36, 46], 26) := by decide +kernel
theorem dX9_forecast_82 : decode cX9_forecast 82 = .ok (.new 165, 3) := by decide +kernel
theorem dX9_forecast_85 : decode cX9_forecast 85 = .ok (.dup, 1) := by decide +kernel
theorem dX9_forecast_86 : decode cX9_forecast 86 = .ok (.ldc 181, 2) := by decide +kernel
theorem dX9_forecast_88 : decode cX9_forecast 88 = .ok (.invokespecial 169, 3) := by decide +kernel
theorem dX9_forecast_91 : decode cX9_forecast 91 = .ok (.athrow, 1) := by decide +kernel
theorem dX9_forecast_52 : decode cX9_forecast 52 = .ok (.aload_n 0, 1) := by decide +kernel
theorem dX9_forecast_53 : decode cX9_forecast 53 = .ok (.getfield 30, 3) := by decide +kernel
theorem dX9_forecast_56 : decode cX9_forecast 56 = .ok (.getfield 172, 3) := by decide +kernel
theorem dX9_forecast_59 : decode cX9_forecast 59 = .ok (.iload_n 1, 1) := by decide +kernel
theorem dX9_forecast_60 : decode cX9_forecast 60 = .ok (.iaload, 1) := by decide +kernel
theorem dX9_forecast_61 : decode cX9_forecast 61 = .ok (.ireturn, 1) := by decide +kernel
theorem dX9_forecast_62 : decode cX9_forecast 62 = .ok (.aload_n 0, 1) := by decide +kernel
theorem dX9_forecast_63 : decode cX9_forecast 63 = .ok (.getfield 30, 3) := by decide +kernel
theorem dX9_forecast_66 : decode cX9_forecast 66 = .ok (.getfield 175, 3) := by decide +kernel
theorem dX9_forecast_69 : decode cX9_forecast 69 = .ok (.iload_n 1, 1) := by decide +kernel
theorem dX9_forecast_70 : decode cX9_forecast 70 = .ok (.iaload, 1) := by decide +kernel
theorem dX9_forecast_71 : decode cX9_forecast 71 = .ok (.ireturn, 1) := by decide +kernel
theorem dX9_forecast_72 : decode cX9_forecast 72 = .ok (.aload_n 0, 1) := by decide +kernel
theorem dX9_forecast_73 : decode cX9_forecast 73 = .ok (.getfield 30, 3) := by decide +kernel
theorem dX9_forecast_76 : decode cX9_forecast 76 = .ok (.getfield 178, 3) := by decide +kernel
theorem dX9_forecast_79 : decode cX9_forecast 79 = .ok (.iload_n 1, 1) := by decide +kernel
theorem dX9_forecast_80 : decode cX9_forecast 80 = .ok (.iaload, 1) := by decide +kernel
theorem dX9_forecast_81 : decode cX9_forecast 81 = .ok (.ireturn, 1) := by decide +kernel
theorem dX9_slope_0 : decode cX9_slope 0 = .ok (.aload_n 0, 1) := by decide +kernel
theorem dX9_slope_1 : decode cX9_slope 1 = .ok (.iload_n 1, 1) := by decide +kernel
theorem dX9_slope_2 : decode cX9_slope 2 = .ok (.invokevirtual 183, 3) := by decide +kernel
theorem dX9_slope_5 : decode cX9_slope 5 = .ok (.astore_n 3, 1) := by decide +kernel
theorem dX9_slope_6 : decode cX9_slope 6 = .ok (.aload_n 0, 1) := by decide +kernel
theorem dX9_slope_7 : decode cX9_slope 7 = .ok (.getfield 30, 3) := by decide +kernel
theorem dX9_slope_10 : decode cX9_slope 10 = .ok (.getfield 187, 3) := by decide +kernel
theorem dX9_slope_13 : decode cX9_slope 13 = .ok (.iload_n 1, 1) := by decide +kernel
theorem dX9_slope_14 : decode cX9_slope 14 = .ok (.iaload, 1) := by decide +kernel
theorem dX9_slope_15 : decode cX9_slope 15 = .ok (.istore 4, 2) := by decide +kernel
theorem dX9_slope_17 : decode cX9_slope 17 = .ok (.iload_n 2, 1) := by decide +kernel
theorem dX9_slope_18 : decode cX9_slope 18 = .ok (.tableswitch 141 0 9 #[54, 57, 67, 72, 79, 86, 93, 98, 109, 120], 54) := by decide +kernel
theorem dX9_slope_159 : decode cX9_slope 159 = .ok (.new 165, 3) := by decide +kernel
theorem dX9_slope_162 : decode cX9_slope 162 = .ok (.dup, 1) := by decide +kernel
theorem dX9_slope_163 : decode cX9_slope 163 = .ok (.ldc 210, 2) := by decide +kernel
theorem dX9_slope_165 : decode cX9_slope 165 = .ok (.invokespecial 169, 3) := by decide +kernel
theorem dX9_slope_168 : decode cX9_slope 168 = .ok (.athrow, 1) := by decide +kernel
theorem dX9_slope_72 : decode cX9_slope 72 = .ok (.iload 4, 2) := by decide +kernel
theorem dX9_slope_74 : decode cX9_slope 74 = .ok (.ireturn, 1) := by decide +kernel
theorem dX9_slope_75 : decode cX9_slope 75 = .ok (.aload_n 0, 1) := by decide +kernel
theorem dX9_slope_76 : decode cX9_slope 76 = .ok (.getfield 30, 3) := by decide +kernel
theorem dX9_slope_79 : decode cX9_slope 79 = .ok (.getfield 190, 3) := by decide +kernel
theorem dX9_slope_82 : decode cX9_slope 82 = .ok (.iload_n 1, 1) := by decide +kernel
theorem dX9_slope_83 : decode cX9_slope 83 = .ok (.iaload, 1) := by decide +kernel
theorem dX9_slope_84 : decode cX9_slope 84 = .ok (.ireturn, 1) := by decide +kernel
theorem dX9_slope_85 : decode cX9_slope 85 = .ok (.aload_n 3, 1) := by decide +kernel
theorem dX9_slope_86 : decode cX9_slope 86 = .ok (.getfield 193, 3) := by decide +kernel
theorem dX9_slope_89 : decode cX9_slope 89 = .ok (.ireturn, 1) := by decide +kernel
theorem dX9_slope_90 : decode cX9_slope 90 = .ok (.aload_n 3, 1) := by decide +kernel
theorem dX9_slope_91 : decode cX9_slope 91 = .ok (.bipush 36, 2) := by decide +kernel
theorem dX9_slope_93 : decode cX9_slope 93 = .ok (.invokevirtual 196, 3) := by decide +kernel
theorem dX9_slope_96 : decode cX9_slope 96 = .ok (.ireturn, 1) := by decide +kernel
theorem dX9_slope_97 : decode cX9_slope 97 = .ok (.aload_n 3, 1) := by decide +kernel
theorem dX9_slope_98 : decode cX9_slope 98 = .ok (.bipush 12, 2) := by decide +kernel
theorem dX9_slope_100 : decode cX9_slope 100 = .ok (.invokevirtual 196, 3) := by decide +kernel
theorem dX9_slope_103 : decode cX9_slope 103 = .ok (.ireturn, 1) := by decide +kernel
theorem dX9_slope_104 : decode cX9_slope 104 = .ok (.aload_n 3, 1) := by decide +kernel
theorem dX9_slope_105 : decode cX9_slope 105 = .ok (.bipush 24, 2) := by decide +kernel
theorem dX9_slope_107 : decode cX9_slope 107 = .ok (.invokevirtual 196, 3) := by decide +kernel
theorem dX9_slope_110 : decode cX9_slope 110 = .ok (.ireturn, 1) := by decide +kernel
theorem dX9_slope_111 : decode cX9_slope 111 = .ok (.aload_n 3, 1) := by decide +kernel
theorem dX9_slope_112 : decode cX9_slope 112 = .ok (.getfield 197, 3) := by decide +kernel
theorem dX9_slope_115 : decode cX9_slope 115 = .ok (.ireturn, 1) := by decide +kernel
theorem dX9_slope_116 : decode cX9_slope 116 = .ok (.aload_n 3, 1) := by decide +kernel
theorem dX9_slope_117 : decode cX9_slope 117 = .ok (.iload 4, 2) := by decide +kernel
theorem dX9_slope_119 : decode cX9_slope 119 = .ok (.aload_n 0, 1) := by decide +kernel
theorem dX9_slope_120 : decode cX9_slope 120 = .ok (.getfield 30, 3) := by decide +kernel
theorem dX9_slope_123 : decode cX9_slope 123 = .ok (.invokevirtual 199, 3) := by decide +kernel
theorem dX9_slope_126 : decode cX9_slope 126 = .ok (.ireturn, 1) := by decide +kernel
theorem dX9_slope_127 : decode cX9_slope 127 = .ok (.aload_n 3, 1) := by decide +kernel
theorem dX9_slope_128 : decode cX9_slope 128 = .ok (.iload 4, 2) := by decide +kernel
theorem dX9_slope_130 : decode cX9_slope 130 = .ok (.aload_n 0, 1) := by decide +kernel
theorem dX9_slope_131 : decode cX9_slope 131 = .ok (.getfield 30, 3) := by decide +kernel
theorem dX9_slope_134 : decode cX9_slope 134 = .ok (.invokevirtual 203, 3) := by decide +kernel
theorem dX9_slope_137 : decode cX9_slope 137 = .ok (.ireturn, 1) := by decide +kernel
theorem dX9_slope_138 : decode cX9_slope 138 = .ok (.aload_n 3, 1) := by decide +kernel
theorem dX9_slope_139 : decode cX9_slope 139 = .ok (.iload 4, 2) := by decide +kernel
theorem dX9_slope_141 : decode cX9_slope 141 = .ok (.iconst 0, 1) := by decide +kernel
theorem dX9_slope_142 : decode cX9_slope 142 = .ok (.aload_n 0, 1) := by decide +kernel
theorem dX9_slope_143 : decode cX9_slope 143 = .ok (.getfield 30, 3) := by decide +kernel
theorem dX9_slope_146 : decode cX9_slope 146 = .ok (.invokevirtual 206, 3) := by decide +kernel
theorem dX9_slope_149 : decode cX9_slope 149 = .ok (.iconst (-1), 1) := by decide +kernel
theorem dX9_slope_150 : decode cX9_slope 150 = .ok (.if_icmp .eq 7, 3) := by decide +kernel
theorem dX9_slope_157 : decode cX9_slope 157 = .ok (.iconst 0, 1) := by decide +kernel
theorem dX9_slope_158 : decode cX9_slope 158 = .ok (.ireturn, 1) := by decide +kernel
theorem dX9_slope_153 : decode cX9_slope 153 = .ok (.iconst 1, 1) := by decide +kernel
theorem dX9_slope_154 : decode cX9_slope 154 = .ok (.goto 4, 3) := by decide +kernel
theorem dX9_layer_0 : decode cX9_layer 0 = .ok (.aload_n 0, 1) := by decide +kernel
theorem dX9_layer_1 : decode cX9_layer 1 = .ok (.iload_n 1, 1) := by decide +kernel
theorem dX9_layer_2 : decode cX9_layer 2 = .ok (.invokevirtual 183, 3) := by decide +kernel
theorem dX9_layer_5 : decode cX9_layer 5 = .ok (.astore 4, 2) := by decide +kernel
theorem dX9_layer_7 : decode cX9_layer 7 = .ok (.aload_n 0, 1) := by decide +kernel
theorem dX9_layer_8 : decode cX9_layer 8 = .ok (.aload 4, 2) := by decide +kernel
theorem dX9_layer_10 : decode cX9_layer 10 = .ok (.iload_n 2, 1) := by decide +kernel
theorem dX9_layer_11 : decode cX9_layer 11 = .ok (.invokevirtual 212, 3) := by decide +kernel
theorem dX9_layer_14 : decode cX9_layer 14 = .ok (.aload_n 0, 1) := by decide +kernel
theorem dX9_layer_15 : decode cX9_layer 15 = .ok (.getfield 30, 3) := by decide +kernel
theorem dX9_layer_18 : decode cX9_layer 18 = .ok (.getfield 187, 3) := by decide +kernel
theorem dX9_layer_21 : decode cX9_layer 21 = .ok (.iload_n 1, 1) := by decide +kernel
theorem dX9_layer_22 : decode cX9_layer 22 = .ok (.iaload, 1) := by decide +kernel
theorem dX9_layer_23 : decode cX9_layer 23 = .ok (.istore 5, 2) := by decide +kernel
theorem dX9_layer_25 : decode cX9_layer 25 = .ok (.iload_n 3, 1) := by decide +kernel
theorem dX9_layer_26 : decode cX9_layer 26 = .ok (.tableswitch 223 0 11 #[62, 72, 83, 94, 105, 116, 127, 138, 154, 178, 189, 201], 62) := by decide +kernel
theorem dX9_layer_249 : decode cX9_layer 249 = .ok (.new 165, 3) := by decide +kernel
theorem dX9_layer_252 : decode cX9_layer 252 = .ok (.dup, 1) := by decide +kernel
theorem dX9_layer_253 : decode cX9_layer 253 = .ok (.ldc 241, 2) := by decide +kernel
theorem dX9_layer_255 : decode cX9_layer 255 = .ok (.invokespecial 169, 3) := by decide +kernel
theorem dX9_layer_258 : decode cX9_layer 258 = .ok (.athrow, 1) := by decide +kernel
theorem dX9_layer_88 : decode cX9_layer 88 = .ok (.aload 4, 2) := by decide +kernel
theorem dX9_layer_90 : decode cX9_layer 90 = .ok (.getfield 216, 3) := by decide +kernel
theorem dX9_layer_93 : decode cX9_layer 93 = .ok (.iconst 0, 1) := by decide +kernel
theorem dX9_layer_94 : decode cX9_layer 94 = .ok (.iload_n 2, 1) := by decide +kernel
theorem dX9_layer_95 : decode cX9_layer 95 = .ok (.iadd, 1) := by decide +kernel
theorem dX9_layer_96 : decode cX9_layer 96 = .ok (.iaload, 1) := by decide +kernel
theorem dX9_layer_97 : decode cX9_layer 97 = .ok (.ireturn, 1) := by decide +kernel
theorem dX9_layer_98 : decode cX9_layer 98 = .ok (.aload 4, 2) := by decide +kernel
theorem dX9_layer_100 : decode cX9_layer 100 = .ok (.getfield 216, 3) := by decide +kernel
theorem dX9_layer_103 : decode cX9_layer 103 = .ok (.bipush 12, 2) := by decide +kernel
theorem dX9_layer_105 : decode cX9_layer 105 = .ok (.iload_n 2, 1) := by decide +kernel
theorem dX9_layer_106 : decode cX9_layer 106 = .ok (.iadd, 1) := by decide +kernel
theorem dX9_layer_107 : decode cX9_layer 107 = .ok (.iaload, 1) := by decide +kernel
theorem dX9_layer_108 : decode cX9_layer 108 = .ok (.ireturn, 1) := by decide +kernel
theorem dX9_layer_109 : decode cX9_layer 109 = .ok (.aload 4, 2) := by decide +kernel
theorem dX9_layer_111 : decode cX9_layer 111 = .ok (.getfield 216, 3) := by decide +kernel
theorem dX9_layer_114 : decode cX9_layer 114 = .ok (.bipush 24, 2) := by decide +kernel
theorem dX9_layer_116 : decode cX9_layer 116 = .ok (.iload_n 2, 1) := by decide +kernel
theorem dX9_layer_117 : decode cX9_layer 117 = .ok (.iadd, 1) := by decide +kernel
theorem dX9_layer_118 : decode cX9_layer 118 = .ok (.iaload, 1) := by decide +kernel
theorem dX9_layer_119 : decode cX9_layer 119 = .ok (.ireturn, 1) := by decide +kernel
theorem dX9_layer_120 : decode cX9_layer 120 = .ok (.aload 4, 2) := by decide +kernel
theorem dX9_layer_122 : decode cX9_layer 122 = .ok (.getfield 216, 3) := by decide +kernel
theorem dX9_layer_125 : decode cX9_layer 125 = .ok (.bipush 36, 2) := by decide +kernel
theorem dX9_layer_127 : decode cX9_layer 127 = .ok (.iload_n 2, 1) := by decide +kernel
theorem dX9_layer_128 : decode cX9_layer 128 = .ok (.iadd, 1) := by decide +kernel
theorem dX9_layer_129 : decode cX9_layer 129 = .ok (.iaload, 1) := by decide +kernel
theorem dX9_layer_130 : decode cX9_layer 130 = .ok (.ireturn, 1) := by decide +kernel
theorem dX9_layer_131 : decode cX9_layer 131 = .ok (.aload 4, 2) := by decide +kernel
theorem dX9_layer_133 : decode cX9_layer 133 = .ok (.getfield 216, 3) := by decide +kernel
theorem dX9_layer_136 : decode cX9_layer 136 = .ok (.bipush 48, 2) := by decide +kernel
theorem dX9_layer_138 : decode cX9_layer 138 = .ok (.iload_n 2, 1) := by decide +kernel
theorem dX9_layer_139 : decode cX9_layer 139 = .ok (.iadd, 1) := by decide +kernel
theorem dX9_layer_140 : decode cX9_layer 140 = .ok (.iaload, 1) := by decide +kernel
theorem dX9_layer_141 : decode cX9_layer 141 = .ok (.ireturn, 1) := by decide +kernel
theorem dX9_layer_142 : decode cX9_layer 142 = .ok (.aload 4, 2) := by decide +kernel
theorem dX9_layer_144 : decode cX9_layer 144 = .ok (.getfield 216, 3) := by decide +kernel
theorem dX9_layer_147 : decode cX9_layer 147 = .ok (.bipush 60, 2) := by decide +kernel
theorem dX9_layer_149 : decode cX9_layer 149 = .ok (.iload_n 2, 1) := by decide +kernel
theorem dX9_layer_150 : decode cX9_layer 150 = .ok (.iadd, 1) := by decide +kernel
theorem dX9_layer_151 : decode cX9_layer 151 = .ok (.iaload, 1) := by decide +kernel
theorem dX9_layer_152 : decode cX9_layer 152 = .ok (.ireturn, 1) := by decide +kernel
theorem dX9_layer_153 : decode cX9_layer 153 = .ok (.aload 4, 2) := by decide +kernel
theorem dX9_layer_155 : decode cX9_layer 155 = .ok (.getfield 216, 3) := by decide +kernel
theorem dX9_layer_158 : decode cX9_layer 158 = .ok (.bipush 72, 2) := by decide +kernel
theorem dX9_layer_160 : decode cX9_layer 160 = .ok (.iload_n 2, 1) := by decide +kernel
theorem dX9_layer_161 : decode cX9_layer 161 = .ok (.iadd, 1) := by decide +kernel
theorem dX9_layer_162 : decode cX9_layer 162 = .ok (.iaload, 1) := by decide +kernel
theorem dX9_layer_163 : decode cX9_layer 163 = .ok (.ireturn, 1) := by decide +kernel
theorem dX9_layer_164 : decode cX9_layer 164 = .ok (.aload 4, 2) := by decide +kernel
theorem dX9_layer_166 : decode cX9_layer 166 = .ok (.iload_n 2, 1) := by decide +kernel
theorem dX9_layer_167 : decode cX9_layer 167 = .ok (.invokevirtual 219, 3) := by decide +kernel
theorem dX9_layer_170 : decode cX9_layer 170 = .ok (.aload 4, 2) := by decide +kernel
theorem dX9_layer_172 : decode cX9_layer 172 = .ok (.iload_n 2, 1) := by decide +kernel
theorem dX9_layer_173 : decode cX9_layer 173 = .ok (.invokevirtual 222, 3) := by decide +kernel
theorem dX9_layer_176 : decode cX9_layer 176 = .ok (.iconst 2, 1) := by decide +kernel
theorem dX9_layer_177 : decode cX9_layer 177 = .ok (.idiv, 1) := by decide +kernel
theorem dX9_layer_178 : decode cX9_layer 178 = .ok (.iadd, 1) := by decide +kernel
theorem dX9_layer_179 : decode cX9_layer 179 = .ok (.ireturn, 1) := by decide +kernel
theorem dX9_layer_180 : decode cX9_layer 180 = .ok (.aload 4, 2) := by decide +kernel
theorem dX9_layer_182 : decode cX9_layer 182 = .ok (.iload_n 2, 1) := by decide +kernel
theorem dX9_layer_183 : decode cX9_layer 183 = .ok (.aload_n 0, 1) := by decide +kernel
theorem dX9_layer_184 : decode cX9_layer 184 = .ok (.getfield 30, 3) := by decide +kernel
theorem dX9_layer_187 : decode cX9_layer 187 = .ok (.aload_n 0, 1) := by decide +kernel
theorem dX9_layer_188 : decode cX9_layer 188 = .ok (.getfield 37, 3) := by decide +kernel
theorem dX9_layer_191 : decode cX9_layer 191 = .ok (.getfield 112, 3) := by decide +kernel
theorem dX9_layer_194 : decode cX9_layer 194 = .ok (.getfield 121, 3) := by decide +kernel
theorem dX9_layer_197 : decode cX9_layer 197 = .ok (.invokevirtual 225, 3) := by decide +kernel
theorem dX9_layer_200 : decode cX9_layer 200 = .ok (.invokevirtual 228, 3) := by decide +kernel
theorem dX9_layer_203 : decode cX9_layer 203 = .ok (.ireturn, 1) := by decide +kernel
theorem dX9_layer_204 : decode cX9_layer 204 = .ok (.aload 4, 2) := by decide +kernel
theorem dX9_layer_206 : decode cX9_layer 206 = .ok (.iload_n 2, 1) := by decide +kernel
theorem dX9_layer_207 : decode cX9_layer 207 = .ok (.aload_n 0, 1) := by decide +kernel
theorem dX9_layer_208 : decode cX9_layer 208 = .ok (.getfield 30, 3) := by decide +kernel
theorem dX9_layer_211 : decode cX9_layer 211 = .ok (.invokevirtual 232, 3) := by decide +kernel
theorem dX9_layer_214 : decode cX9_layer 214 = .ok (.ireturn, 1) := by decide +kernel
theorem dX9_layer_215 : decode cX9_layer 215 = .ok (.aload 4, 2) := by decide +kernel
theorem dX9_layer_217 : decode cX9_layer 217 = .ok (.iload_n 2, 1) := by decide +kernel
theorem dX9_layer_218 : decode cX9_layer 218 = .ok (.invokevirtual 219, 3) := by decide +kernel
theorem dX9_layer_221 : decode cX9_layer 221 = .ok (.iload 5, 2) := by decide +kernel
theorem dX9_layer_223 : decode cX9_layer 223 = .ok (.invokestatic 235, 3) := by decide +kernel
theorem dX9_layer_226 : decode cX9_layer 226 = .ok (.ireturn, 1) := by decide +kernel
theorem dX9_layer_227 : decode cX9_layer 227 = .ok (.aload 4, 2) := by decide +kernel
theorem dX9_layer_229 : decode cX9_layer 229 = .ok (.iload_n 2, 1) := by decide +kernel
theorem dX9_layer_230 : decode cX9_layer 230 = .ok (.aload 4, 2) := by decide +kernel
theorem dX9_layer_232 : decode cX9_layer 232 = .ok (.iload_n 2, 1) := by decide +kernel
theorem dX9_layer_233 : decode cX9_layer 233 = .ok (.invokevirtual 219, 3) := by decide +kernel
theorem dX9_layer_236 : decode cX9_layer 236 = .ok (.iload 5, 2) := by decide +kernel
theorem dX9_layer_238 : decode cX9_layer 238 = .ok (.invokestatic 235, 3) := by decide +kernel
theorem dX9_layer_241 : decode cX9_layer 241 = .ok (.aload_n 0, 1) := by decide +kernel
theorem dX9_layer_242 : decode cX9_layer 242 = .ok (.getfield 30, 3) := by decide +kernel
theorem dX9_layer_245 : decode cX9_layer 245 = .ok (.invokevirtual 238, 3) := by decide +kernel
theorem dX9_layer_248 : decode cX9_layer 248 = .ok (.ireturn, 1) := by decide +kernel
theorem dX9_stands_0 : decode cX9_stands 0 = .ok (.aload_n 0, 1) := by decide +kernel
theorem dX9_stands_1 : decode cX9_stands 1 = .ok (.iload_n 1, 1) := by decide +kernel
theorem dX9_stands_2 : decode cX9_stands 2 = .ok (.invokevirtual 183, 3) := by decide +kernel
theorem dX9_stands_5 : decode cX9_stands 5 = .ok (.astore_n 3, 1) := by decide +kernel
theorem dX9_stands_6 : decode cX9_stands 6 = .ok (.iload_n 2, 1) := by decide +kernel
theorem dX9_stands_7 : decode cX9_stands 7 = .ok (.iconst 1, 1) := by decide +kernel
theorem dX9_stands_8 : decode cX9_stands 8 = .ok (.invokestatic 303, 3) := by decide +kernel
theorem dX9_stands_11 : decode cX9_stands 11 = .ok (.iconst 0, 1) := by decide +kernel
theorem dX9_stands_12 : decode cX9_stands 12 = .ok (.istore 4, 2) := by decide +kernel
theorem dX9_stands_14 : decode cX9_stands 14 = .ok (.iload 4, 2) := by decide +kernel
theorem dX9_stands_16 : decode cX9_stands 16 = .ok (.bipush 30, 2) := by decide +kernel
theorem dX9_stands_18 : decode cX9_stands 18 = .ok (.if_icmp .gt 51, 3) := by decide +kernel
theorem dX9_stands_69 : decode cX9_stands 69 = .ok (.iconst (-1), 1) := by decide +kernel
theorem dX9_stands_70 : decode cX9_stands 70 = .ok (.ireturn, 1) := by decide +kernel
theorem dX9_stands_21 : decode cX9_stands 21 = .ok (.aload_n 3, 1) := by decide +kernel
theorem dX9_stands_22 : decode cX9_stands 22 = .ok (.aload_n 0, 1) := by decide +kernel
theorem dX9_stands_23 : decode cX9_stands 23 = .ok (.getfield 30, 3) := by decide +kernel
theorem dX9_stands_26 : decode cX9_stands 26 = .ok (.getfield 187, 3) := by decide +kernel
theorem dX9_stands_29 : decode cX9_stands 29 = .ok (.iload_n 1, 1) := by decide +kernel
theorem dX9_stands_30 : decode cX9_stands 30 = .ok (.iaload, 1) := by decide +kernel
theorem dX9_stands_31 : decode cX9_stands 31 = .ok (.iload 4, 2) := by decide +kernel
theorem dX9_stands_33 : decode cX9_stands 33 = .ok (.invokestatic 321, 3) := by decide +kernel
theorem dX9_stands_36 : decode cX9_stands 36 = .ok (.aload_n 0, 1) := by decide +kernel
theorem dX9_stands_37 : decode cX9_stands 37 = .ok (.getfield 30, 3) := by decide +kernel
theorem dX9_stands_40 : decode cX9_stands 40 = .ok (.invokevirtual 206, 3) := by decide +kernel
theorem dX9_stands_43 : decode cX9_stands 43 = .ok (.istore 5, 2) := by decide +kernel
theorem dX9_stands_45 : decode cX9_stands 45 = .ok (.iload 5, 2) := by decide +kernel
theorem dX9_stands_47 : decode cX9_stands 47 = .ok (.iconst (-1), 1) := by decide +kernel
theorem dX9_stands_48 : decode cX9_stands 48 = .ok (.if_icmp .eq 15, 3) := by decide +kernel
theorem dX9_stands_63 : decode cX9_stands 63 = .ok (.iinc 4 1, 3) := by decide +kernel
theorem dX9_stands_66 : decode cX9_stands 66 = .ok (.goto (-52), 3) := by decide +kernel
theorem dX9_stands_51 : decode cX9_stands 51 = .ok (.iload_n 2, 1) := by decide +kernel
theorem dX9_stands_52 : decode cX9_stands 52 = .ok (.ifCond .ne 8, 3) := by decide +kernel
theorem dX9_stands_60 : decode cX9_stands 60 = .ok (.iload 5, 2) := by decide +kernel
theorem dX9_stands_62 : decode cX9_stands 62 = .ok (.ireturn, 1) := by decide +kernel
theorem dX9_stands_55 : decode cX9_stands 55 = .ok (.iload 4, 2) := by decide +kernel
theorem dX9_stands_57 : decode cX9_stands 57 = .ok (.goto 5, 3) := by decide +kernel
theorem dX9_toLoad_0 : decode cX9_toLoad 0 = .ok (.aload_n 0, 1) := by decide +kernel
theorem dX9_toLoad_1 : decode cX9_toLoad 1 = .ok (.iload_n 1, 1) := by decide +kernel
theorem dX9_toLoad_2 : decode cX9_toLoad 2 = .ok (.invokevirtual 183, 3) := by decide +kernel
theorem dX9_toLoad_5 : decode cX9_toLoad 5 = .ok (.astore_n 2, 1) := by decide +kernel
theorem dX9_toLoad_6 : decode cX9_toLoad 6 = .ok (.iconst 1, 1) := by decide +kernel
theorem dX9_toLoad_7 : decode cX9_toLoad 7 = .ok (.istore_n 3, 1) := by decide +kernel
theorem dX9_toLoad_8 : decode cX9_toLoad 8 = .ok (.iload_n 3, 1) := by decide +kernel
theorem dX9_toLoad_9 : decode cX9_toLoad 9 = .ok (.bipush 99, 2) := by decide +kernel
theorem dX9_toLoad_11 : decode cX9_toLoad 11 = .ok (.if_icmp .gt 33, 3) := by decide +kernel
theorem dX9_toLoad_44 : decode cX9_toLoad 44 = .ok (.iconst (-1), 1) := by decide +kernel
theorem dX9_toLoad_45 : decode cX9_toLoad 45 = .ok (.ireturn, 1) := by decide +kernel
theorem dX9_toLoad_14 : decode cX9_toLoad 14 = .ok (.aload_n 2, 1) := by decide +kernel
theorem dX9_toLoad_15 : decode cX9_toLoad 15 = .ok (.aload_n 0, 1) := by decide +kernel
theorem dX9_toLoad_16 : decode cX9_toLoad 16 = .ok (.getfield 30, 3) := by decide +kernel
theorem dX9_toLoad_19 : decode cX9_toLoad 19 = .ok (.getfield 187, 3) := by decide +kernel
theorem dX9_toLoad_22 : decode cX9_toLoad 22 = .ok (.iload_n 1, 1) := by decide +kernel
theorem dX9_toLoad_23 : decode cX9_toLoad 23 = .ok (.iaload, 1) := by decide +kernel
theorem dX9_toLoad_24 : decode cX9_toLoad 24 = .ok (.iload_n 3, 1) := by decide +kernel
theorem dX9_toLoad_25 : decode cX9_toLoad 25 = .ok (.aload_n 0, 1) := by decide +kernel
theorem dX9_toLoad_26 : decode cX9_toLoad 26 = .ok (.getfield 30, 3) := by decide +kernel
theorem dX9_toLoad_29 : decode cX9_toLoad 29 = .ok (.invokevirtual 206, 3) := by decide +kernel
theorem dX9_toLoad_32 : decode cX9_toLoad 32 = .ok (.iconst (-1), 1) := by decide +kernel
theorem dX9_toLoad_33 : decode cX9_toLoad 33 = .ok (.if_icmp .eq 5, 3) := by decide +kernel
theorem dX9_toLoad_38 : decode cX9_toLoad 38 = .ok (.iinc 3 1, 3) := by decide +kernel
theorem dX9_toLoad_41 : decode cX9_toLoad 41 = .ok (.goto (-33), 3) := by decide +kernel
theorem dX9_toLoad_36 : decode cX9_toLoad 36 = .ok (.iload_n 3, 1) := by decide +kernel
theorem dX9_toLoad_37 : decode cX9_toLoad 37 = .ok (.ireturn, 1) := by decide +kernel
theorem dX9_steepest_0 : decode cX9_steepest 0 = .ok (.aload_n 0, 1) := by decide +kernel
theorem dX9_steepest_1 : decode cX9_steepest 1 = .ok (.iload_n 1, 1) := by decide +kernel
theorem dX9_steepest_2 : decode cX9_steepest 2 = .ok (.invokevirtual 183, 3) := by decide +kernel
theorem dX9_steepest_5 : decode cX9_steepest 5 = .ok (.astore_n 2, 1) := by decide +kernel
theorem dX9_steepest_6 : decode cX9_steepest 6 = .ok (.bipush 90, 2) := by decide +kernel
theorem dX9_steepest_8 : decode cX9_steepest 8 = .ok (.istore_n 3, 1) := by decide +kernel
theorem dX9_steepest_9 : decode cX9_steepest 9 = .ok (.iload_n 3, 1) := by decide +kernel
theorem dX9_steepest_10 : decode cX9_steepest 10 = .ok (.ifCond .le 25, 3) := by decide +kernel
theorem dX9_steepest_35 : decode cX9_steepest 35 = .ok (.iconst 0, 1) := by decide +kernel
theorem dX9_steepest_36 : decode cX9_steepest 36 = .ok (.ireturn, 1) := by decide +kernel
theorem dX9_steepest_13 : decode cX9_steepest 13 = .ok (.aload_n 2, 1) := by decide +kernel
theorem dX9_steepest_14 : decode cX9_steepest 14 = .ok (.iload_n 3, 1) := by decide +kernel
theorem dX9_steepest_15 : decode cX9_steepest 15 = .ok (.iconst 0, 1) := by decide +kernel
theorem dX9_steepest_16 : decode cX9_steepest 16 = .ok (.aload_n 0, 1) := by decide +kernel
theorem dX9_steepest_17 : decode cX9_steepest 17 = .ok (.getfield 30, 3) := by decide +kernel
theorem dX9_steepest_20 : decode cX9_steepest 20 = .ok (.invokevirtual 206, 3) := by decide +kernel
theorem dX9_steepest_23 : decode cX9_steepest 23 = .ok (.iconst (-1), 1) := by decide +kernel
theorem dX9_steepest_24 : decode cX9_steepest 24 = .ok (.if_icmp .ne 5, 3) := by decide +kernel
theorem dX9_steepest_29 : decode cX9_steepest 29 = .ok (.iinc 3 (-1), 3) := by decide +kernel
theorem dX9_steepest_32 : decode cX9_steepest 32 = .ok (.goto (-23), 3) := by decide +kernel
theorem dX9_steepest_27 : decode cX9_steepest 27 = .ok (.iload_n 3, 1) := by decide +kernel
theorem dX9_steepest_28 : decode cX9_steepest 28 = .ok (.ireturn, 1) := by decide +kernel
theorem dX9_pitOf_0 : decode cX9_pitOf 0 = .ok (.aload_n 0, 1) := by decide +kernel
theorem dX9_pitOf_1 : decode cX9_pitOf 1 = .ok (.iload_n 1, 1) := by decide +kernel
theorem dX9_pitOf_2 : decode cX9_pitOf 2 = .ok (.invokevirtual 338, 3) := by decide +kernel
theorem dX9_pitOf_5 : decode cX9_pitOf 5 = .ok (.iload_n 2, 1) := by decide +kernel
theorem dX9_pitOf_6 : decode cX9_pitOf 6 = .ok (.tableswitch 68 0 2 #[26, 39, 55], 26) := by decide +kernel
theorem dX9_pitOf_74 : decode cX9_pitOf 74 = .ok (.new 165, 3) := by decide +kernel
theorem dX9_pitOf_77 : decode cX9_pitOf 77 = .ok (.dup, 1) := by decide +kernel
theorem dX9_pitOf_78 : decode cX9_pitOf 78 = .ok (.ldc_w 354, 3) := by decide +kernel
theorem dX9_pitOf_81 : decode cX9_pitOf 81 = .ok (.invokespecial 169, 3) := by decide +kernel
theorem dX9_pitOf_84 : decode cX9_pitOf 84 = .ok (.athrow, 1) := by decide +kernel
theorem dX9_pitOf_32 : decode cX9_pitOf 32 = .ok (.aload_n 0, 1) := by decide +kernel
theorem dX9_pitOf_33 : decode cX9_pitOf 33 = .ok (.getfield 37, 3) := by decide +kernel
theorem dX9_pitOf_36 : decode cX9_pitOf 36 = .ok (.getfield 341, 3) := by decide +kernel
theorem dX9_pitOf_39 : decode cX9_pitOf 39 = .ok (.iload_n 1, 1) := by decide +kernel
theorem dX9_pitOf_40 : decode cX9_pitOf 40 = .ok (.aaload, 1) := by decide +kernel
theorem dX9_pitOf_41 : decode cX9_pitOf 41 = .ok (.getfield 344, 3) := by decide +kernel
theorem dX9_pitOf_44 : decode cX9_pitOf 44 = .ok (.ireturn, 1) := by decide +kernel
theorem dX9_pitOf_45 : decode cX9_pitOf 45 = .ok (.aload_n 0, 1) := by decide +kernel
theorem dX9_pitOf_46 : decode cX9_pitOf 46 = .ok (.getfield 37, 3) := by decide +kernel
theorem dX9_pitOf_49 : decode cX9_pitOf 49 = .ok (.getfield 341, 3) := by decide +kernel
theorem dX9_pitOf_52 : decode cX9_pitOf 52 = .ok (.iload_n 1, 1) := by decide +kernel
theorem dX9_pitOf_53 : decode cX9_pitOf 53 = .ok (.aaload, 1) := by decide +kernel
theorem dX9_pitOf_54 : decode cX9_pitOf 54 = .ok (.getfield 349, 3) := by decide +kernel
theorem dX9_pitOf_57 : decode cX9_pitOf 57 = .ok (.getfield 193, 3) := by decide +kernel
theorem dX9_pitOf_60 : decode cX9_pitOf 60 = .ok (.ireturn, 1) := by decide +kernel
theorem dX9_pitOf_61 : decode cX9_pitOf 61 = .ok (.aload_n 0, 1) := by decide +kernel
theorem dX9_pitOf_62 : decode cX9_pitOf 62 = .ok (.getfield 37, 3) := by decide +kernel
theorem dX9_pitOf_65 : decode cX9_pitOf 65 = .ok (.getfield 341, 3) := by decide +kernel
theorem dX9_pitOf_68 : decode cX9_pitOf 68 = .ok (.iload_n 1, 1) := by decide +kernel
theorem dX9_pitOf_69 : decode cX9_pitOf 69 = .ok (.aaload, 1) := by decide +kernel
theorem dX9_pitOf_70 : decode cX9_pitOf 70 = .ok (.getfield 353, 3) := by decide +kernel
theorem dX9_pitOf_73 : decode cX9_pitOf 73 = .ok (.ireturn, 1) := by decide +kernel
end
