theorem z_ext {p : Program} {l : Launch} {e : Env} {R : Room} {s : State} {m : MethodId} {args : Array Value} {below : List Frame} {meth : Method} {c : Code} {Q : State → Prop} {D : va_G} {A : Nat → Prop} {cs : Nat → ClassId} {nL N : Nat} {ad : Nat → Nat} {g : Nat → va_E} {k n pc : Nat} {lv : List (Nat × Value)} {st : List Value} {i M : Nat} {r r' : Nat → Int} (hi : i < N) (hg : g i = iA cs M r) (h : ∀ j, j < M → r j = r' j) (kk : ∀ g' : Nat → va_E, g' = va_up g i (iA cs M r') → zV p l e R s m args below meth c Q D A nL N ad g' k n pc lv st) : zV p l e R s m args below meth c Q D A nL N ad g k n pc lv st := by
  intro H locs ls hP hD hS hl
  have he := (wl_at (ad := ad) (g := g) hi).trans (by rw [hg])
  have hc : H[ad i]? = some (vp_cell (cs 1) (M, .inl (fun j => zI (r j)))) := hP i _ he
  have e9 : vp_cell (cs 1) (M, .inl (fun j => zI (r j))) = vp_cell (cs 1) (M, .inl (fun j => zI (r' j))) := by
    show arrV (cs 1) M (fun j => .int (zI (r j))) = arrV (cs 1) M (fun j => .int (zI (r' j)))
    unfold arrV
    congr 1
    apply Array.ext
    · simp
    · intro j h1 h2
      simp only [Array.getElem_ofFn]
      rw [h j (by simpa using h1)]
  rw [e9] at hc
  have hP1 := hP.set (e := iA cs M r') hD he hc (fun _ _ => rfl)
  have hD1 := hD.set (e := iA cs M r') he
  rw [wl_set] at hP1 hD1
  exact kk _ rfl H locs ls hP1 hD1 hS hl

set_option maxRecDepth 100000 in
set_option maxHeartbeats 4000000 in
theorem c_X3_copyFrom (l : Launch) (D : va_G) (A : Nat → Prop) (cs : Nat → ClassId) (tt : Nat) (N : Nat) (ad : Nat → Nat) (g : Nat → va_E) (a b : Nat) (hN : a + 2 ≤ N ∧ b + 2 ≤ N) (hab : a + 2 ≤ b ∨ b + 2 ≤ a) (sz ro sz2 ro2 : Int) (r r2 : Nat → Int) (ha : isPack cs ad g a sz ro r) (hb : isPack cs ad g b sz2 ro2 r2) : zM l yX3_copyFrom cX3_copyFrom 2 none ({ frames := 1, cells := 0, slots := 0, locals := 60 } : Room) D A cs tt N ad g [.ref (ad a), .ref (ad b)] (rV0 N ad fun g' => isPack cs ad g' a sz2 ro2 r2 ∧ ∀ j, j < a ∨ a + 2 ≤ j → g' j = g j) := by
  have ha1 : zAt ad (a) (ad a) := rfl
  have ha2 : zAt ad (a + 1) (ad (a + 1)) := rfl
  have ha3 : zAt ad (b) (ad b) := rfl
  have ha4 : zAt ad (b + 1) (ad (b + 1)) := rfl
  refine z_of (by decide) (Nat.le_of_ble_eq_true rfl) ?_
  intro p e s m below meth c C hr hlk hnm
  refine z_lv (lv' := [(0, .ref (ad a)), (1, .ref (ad b))]) [0, 1] rfl ?_
  refine z_aload_n C 0 dX3_copyFrom_0 rfl ?_
  refine z_aload_n C 1 dX3_copyFrom_1 rfl ?_
  refine z_get (v := .int (zI (sz2))) C (by omega) ha3 hb.1 rfl inA_X3 0 (by decide) q_154 rfl rfl dX3_copyFrom_2 ?_
  refine z_put (fs' := [.int (zI (sz2)), .int (zI (ro)), .ref (ad (a + 1))]) C (by omega) ha1 ha.1 tyX3 tyX3_ok nmX3 rfl inA_X3 0 (by decide) q_154 rfl rfl rfl rfl (Nat.le_of_ble_eq_true rfl) rfl dX3_copyFrom_5 (fun g5 eg6 => ?_)
  have hg7 := up_s eg6
  refine z_aload_n C 0 dX3_copyFrom_8 rfl ?_
  refine z_aload_n C 1 dX3_copyFrom_9 rfl ?_
  have hg8 := up_n eg6 hb.1 (by omega)
  refine z_get (v := .int (zI (ro2))) C (by omega) ha3 hg8 rfl inA_X3 1 (by decide) q_159 rfl rfl dX3_copyFrom_10 ?_
  refine z_put (fs' := [.int (zI (sz2)), .int (zI (ro2)), .ref (ad (a + 1))]) C (by omega) ha1 hg7 tyX3 tyX3_ok nmX3 rfl inA_X3 1 (by decide) q_159 rfl rfl rfl rfl (Nat.le_of_ble_eq_true rfl) rfl dX3_copyFrom_13 (fun g9 eg10 => ?_)
  have hg11 := up_s eg10
  refine z_aload_n C 1 dX3_copyFrom_16 rfl ?_
  have hg12 := up_n eg10 hg8 (by omega)
  refine z_get (v := .ref (ad (b + 1))) C (by omega) ha3 hg12 rfl inA_X3 2 (by decide) q_162 rfl rfl dX3_copyFrom_17 ?_
  refine z_iconst (z := 0) C dX3_copyFrom_20 rfl ?_
  refine z_aload_n C 0 dX3_copyFrom_21 rfl ?_
  refine z_get (v := .ref (ad (a + 1))) C (by omega) ha1 hg11 rfl inA_X3 2 (by decide) q_162 rfl rfl dX3_copyFrom_22 ?_
  refine z_iconst (z := 0) C dX3_copyFrom_25 rfl ?_
  refine z_aload_n C 0 dX3_copyFrom_26 rfl ?_
  refine z_get (v := .ref (ad (a + 1))) C (by omega) ha1 hg11 rfl inA_X3 2 (by decide) q_162 rfl rfl dX3_copyFrom_27 ?_
  have hg13 := up_n eg6 ha.2 (ne_o (i := a) (c := 1) (d := 0) rfl)
  have hg14 := up_n eg10 hg13 (ne_o (i := a) (c := 1) (d := 0) rfl)
  refine z_alen (z := 84) C (by omega) ha2 hg14 1 rfl rfl dX3_copyFrom_30 ?_
  have hg15 := up_n eg6 hb.2 (by omega)
  have hg16 := up_n eg10 hg15 (by omega)
  refine z_copyI C q_428 q_430 q_429 q_21 (by omega) (by omega) ha4 ha2 hg16 hg14 0 0 84 rfl rfl rfl (by decide) (by decide) (by decide) (by decide) (Nat.le_of_ble_eq_true rfl) dX3_copyFrom_31 (fun g17 eg18 => ?_)
  have hg19 := up_s eg18
  refine z_ext (r' := r2) (by omega) hg19 (fun j hj => cZ_all hj) (fun g20 eg21 => ?_)
  have hg22 := up_s eg21
  have hg23 := up_n eg18 hg11 (ne_o (i := a) (c := 0) (d := 1) rfl)
  have hg24 := up_n eg21 hg23 (ne_o (i := a) (c := 0) (d := 1) rfl)
  exact z_vret C hr hlk dX3_copyFrom_34 (by decide) (by decide) ⟨rfl, rfl, rfl, ⟨hg24, hg22⟩, fun j h1 => by rw [eg21, va_up_ne _ _ (by omega)]; rw [eg18, va_up_ne _ _ (by omega)]; rw [eg10, va_up_ne _ _ (by omega)]; rw [eg6, va_up_ne _ _ (by omega)]⟩

set_option maxRecDepth 100000 in
set_option maxHeartbeats 4000000 in
theorem c_X8_copyFrom (l : Launch) (D : va_G) (A : Nat → Prop) (cs : Nat → ClassId) (tt : Nat) (N : Nat) (ad : Nat → Nat) (g : Nat → va_E) (a b : Nat) (hN : a + 10 ≤ N ∧ b + 10 ≤ N) (hab : a + 10 ≤ b ∨ b + 10 ≤ a) (t sz ro t2 sz2 ro2 : Nat → Int) (r r2 : Nat → Nat → Int) (ha : isWorld cs ad g a t sz ro r) (hb : isWorld cs ad g b t2 sz2 ro2 r2) : zM l yX8_copyFrom cX8_copyFrom 3 none ({ frames := 2, cells := 0, slots := 0, locals := 120 } : Room) D A cs tt N ad g [.ref (ad a), .ref (ad b)] (rV0 N ad fun g' => isWorld cs ad g' a t2 sz2 ro2 r2 ∧ ∀ j, j < a ∨ a + 10 ≤ j → g' j = g j) := by
  obtain ⟨u1, ⟨ua, u2, u3⟩, u4⟩ := id ha
  have ha1 : zAt ad (a) (ad a) := rfl
  have ha2 : zAt ad (a + 1) (ad (a + 1)) := rfl
  have up0 : isPack cs ad g (a + 2) (sz 0) (ro 0) (r 0) := u4 0 (by decide)
  have uq0 : ua 0 = some (ad (a + 2)) := u3 0 (by decide)
  have ha3 : zAt ad (a + 2) (ad (a + 2)) := rfl
  have up1 : isPack cs ad g (a + 4) (sz 1) (ro 1) (r 1) := u4 1 (by decide)
  have uq1 : ua 1 = some (ad (a + 4)) := u3 1 (by decide)
  have ha4 : zAt ad (a + 4) (ad (a + 4)) := rfl
  have up2 : isPack cs ad g (a + 6) (sz 2) (ro 2) (r 2) := u4 2 (by decide)
  have uq2 : ua 2 = some (ad (a + 6)) := u3 2 (by decide)
  have ha5 : zAt ad (a + 6) (ad (a + 6)) := rfl
  have up3 : isPack cs ad g (a + 8) (sz 3) (ro 3) (r 3) := u4 3 (by decide)
  have uq3 : ua 3 = some (ad (a + 8)) := u3 3 (by decide)
  have ha6 : zAt ad (a + 8) (ad (a + 8)) := rfl
  obtain ⟨v1, ⟨va, v2, v3⟩, v4⟩ := id hb
  have ha7 : zAt ad (b) (ad b) := rfl
  have ha8 : zAt ad (b + 1) (ad (b + 1)) := rfl
  have vp0 : isPack cs ad g (b + 2) (sz2 0) (ro2 0) (r2 0) := v4 0 (by decide)
  have vq0 : va 0 = some (ad (b + 2)) := v3 0 (by decide)
  have ha9 : zAt ad (b + 2) (ad (b + 2)) := rfl
  have vp1 : isPack cs ad g (b + 4) (sz2 1) (ro2 1) (r2 1) := v4 1 (by decide)
  have vq1 : va 1 = some (ad (b + 4)) := v3 1 (by decide)
  have ha10 : zAt ad (b + 4) (ad (b + 4)) := rfl
  have vp2 : isPack cs ad g (b + 6) (sz2 2) (ro2 2) (r2 2) := v4 2 (by decide)
  have vq2 : va 2 = some (ad (b + 6)) := v3 2 (by decide)
  have ha11 : zAt ad (b + 6) (ad (b + 6)) := rfl
  have vp3 : isPack cs ad g (b + 8) (sz2 3) (ro2 3) (r2 3) := v4 3 (by decide)
  have vq3 : va 3 = some (ad (b + 8)) := v3 3 (by decide)
  have ha12 : zAt ad (b + 8) (ad (b + 8)) := rfl
  refine z_of (by decide) (Nat.le_of_ble_eq_true rfl) ?_
  intro p e s m below meth c C hr hlk hnm
  refine z_lv (lv' := [(0, .ref (ad a)), (1, .ref (ad b))]) [0, 1] rfl ?_
  refine z_aload_n C 0 dX8_copyFrom_0 rfl ?_
  refine z_aload_n C 1 dX8_copyFrom_1 rfl ?_
  refine z_get (v := .int (zI (t2 0))) C (by omega) ha7 v1 rfl inA_X8 0 (by decide) q_173 rfl rfl dX8_copyFrom_2 ?_
  refine z_put (fs' := [.int (zI (t2 0)), .int (zI (t 1)), .int (zI (t 2)), .int (zI (t 3)), .int (zI (t 4)), .int (zI (t 5)), .ref (ad (a + 1))]) C (by omega) ha1 u1 tyX8 tyX8_ok nmX8 rfl inA_X8 0 (by decide) q_173 rfl rfl rfl rfl (Nat.le_of_ble_eq_true rfl) rfl dX8_copyFrom_5 (fun g13 eg14 => ?_)
  have hg15 := up_s eg14
  refine z_aload_n C 0 dX8_copyFrom_8 rfl ?_
  refine z_aload_n C 1 dX8_copyFrom_9 rfl ?_
  have hg16 := up_n eg14 v1 (by omega)
  refine z_get (v := .int (zI (t2 1))) C (by omega) ha7 hg16 rfl inA_X8 1 (by decide) q_176 rfl rfl dX8_copyFrom_10 ?_
  refine z_put (fs' := [.int (zI (t2 0)), .int (zI (t2 1)), .int (zI (t 2)), .int (zI (t 3)), .int (zI (t 4)), .int (zI (t 5)), .ref (ad (a + 1))]) C (by omega) ha1 hg15 tyX8 tyX8_ok nmX8 rfl inA_X8 1 (by decide) q_176 rfl rfl rfl rfl (Nat.le_of_ble_eq_true rfl) rfl dX8_copyFrom_13 (fun g17 eg18 => ?_)
  have hg19 := up_s eg18
  refine z_aload_n C 0 dX8_copyFrom_16 rfl ?_
  refine z_aload_n C 1 dX8_copyFrom_17 rfl ?_
  have hg20 := up_n eg18 hg16 (by omega)
  refine z_get (v := .int (zI (t2 2))) C (by omega) ha7 hg20 rfl inA_X8 2 (by decide) q_179 rfl rfl dX8_copyFrom_18 ?_
  refine z_put (fs' := [.int (zI (t2 0)), .int (zI (t2 1)), .int (zI (t2 2)), .int (zI (t 3)), .int (zI (t 4)), .int (zI (t 5)), .ref (ad (a + 1))]) C (by omega) ha1 hg19 tyX8 tyX8_ok nmX8 rfl inA_X8 2 (by decide) q_179 rfl rfl rfl rfl (Nat.le_of_ble_eq_true rfl) rfl dX8_copyFrom_21 (fun g21 eg22 => ?_)
  have hg23 := up_s eg22
  refine z_aload_n C 0 dX8_copyFrom_24 rfl ?_
  refine z_aload_n C 1 dX8_copyFrom_25 rfl ?_
  have hg24 := up_n eg22 hg20 (by omega)
  refine z_get (v := .int (zI (t2 3))) C (by omega) ha7 hg24 rfl inA_X8 3 (by decide) q_181 rfl rfl dX8_copyFrom_26 ?_
  refine z_put (fs' := [.int (zI (t2 0)), .int (zI (t2 1)), .int (zI (t2 2)), .int (zI (t2 3)), .int (zI (t 4)), .int (zI (t 5)), .ref (ad (a + 1))]) C (by omega) ha1 hg23 tyX8 tyX8_ok nmX8 rfl inA_X8 3 (by decide) q_181 rfl rfl rfl rfl (Nat.le_of_ble_eq_true rfl) rfl dX8_copyFrom_29 (fun g25 eg26 => ?_)
  have hg27 := up_s eg26
  refine z_aload_n C 0 dX8_copyFrom_32 rfl ?_
  refine z_aload_n C 1 dX8_copyFrom_33 rfl ?_
  have hg28 := up_n eg26 hg24 (by omega)
  refine z_get (v := .int (zI (t2 4))) C (by omega) ha7 hg28 rfl inA_X8 4 (by decide) q_183 rfl rfl dX8_copyFrom_34 ?_
  refine z_put (fs' := [.int (zI (t2 0)), .int (zI (t2 1)), .int (zI (t2 2)), .int (zI (t2 3)), .int (zI (t2 4)), .int (zI (t 5)), .ref (ad (a + 1))]) C (by omega) ha1 hg27 tyX8 tyX8_ok nmX8 rfl inA_X8 4 (by decide) q_183 rfl rfl rfl rfl (Nat.le_of_ble_eq_true rfl) rfl dX8_copyFrom_37 (fun g29 eg30 => ?_)
  have hg31 := up_s eg30
  refine z_aload_n C 0 dX8_copyFrom_40 rfl ?_
  refine z_aload_n C 1 dX8_copyFrom_41 rfl ?_
  have hg32 := up_n eg30 hg28 (by omega)
  refine z_get (v := .int (zI (t2 5))) C (by omega) ha7 hg32 rfl inA_X8 5 (by decide) q_185 rfl rfl dX8_copyFrom_42 ?_
  refine z_put (fs' := [.int (zI (t2 0)), .int (zI (t2 1)), .int (zI (t2 2)), .int (zI (t2 3)), .int (zI (t2 4)), .int (zI (t2 5)), .ref (ad (a + 1))]) C (by omega) ha1 hg31 tyX8 tyX8_ok nmX8 rfl inA_X8 5 (by decide) q_185 rfl rfl rfl rfl (Nat.le_of_ble_eq_true rfl) rfl dX8_copyFrom_45 (fun g33 eg34 => ?_)
  have hg35 := up_s eg34
  refine z_iconst (z := 0) C dX8_copyFrom_48 rfl ?_
  refine z_istore_n (lv' := [(2, .int (zI (0))), (0, .ref (ad a)), (1, .ref (ad b))]) C dX8_copyFrom_49 rfl (by decide) rfl ?_
  refine z_iload_n C 0 dX8_copyFrom_50 rfl ?_
  refine z_aload_n C 1 dX8_copyFrom_51 rfl ?_
  refine z_get (v := .ref (ad (a + 1))) C (by omega) ha1 hg35 rfl inA_X8 6 (by decide) q_188 rfl rfl dX8_copyFrom_52 ?_
  have hg36 := up_n eg14 u2 (ne_o (i := a) (c := 1) (d := 0) rfl)
  have hg37 := up_n eg18 hg36 (ne_o (i := a) (c := 1) (d := 0) rfl)
  have hg38 := up_n eg22 hg37 (ne_o (i := a) (c := 1) (d := 0) rfl)
  have hg39 := up_n eg26 hg38 (ne_o (i := a) (c := 1) (d := 0) rfl)
  have hg40 := up_n eg30 hg39 (ne_o (i := a) (c := 1) (d := 0) rfl)
  have hg41 := up_n eg34 hg40 (ne_o (i := a) (c := 1) (d := 0) rfl)
  refine z_alen (z := 4) C (by omega) ha2 hg41 3 rfl rfl dX8_copyFrom_55 ?_
  refine z_icmp_ge (tgt := 80) C dX8_copyFrom_56 (by decide) (by omega) (by omega) (fun h => absurd h (by omega)) (fun _ => ?_)
  refine z_aload_n C 1 dX8_copyFrom_59 rfl ?_
  refine z_get (v := .ref (ad (a + 1))) C (by omega) ha1 hg35 rfl inA_X8 6 (by decide) q_188 rfl rfl dX8_copyFrom_60 ?_
  refine z_iload_n C 0 dX8_copyFrom_63 rfl ?_
  refine z_aald C (by omega) ha2 hg41 3 rfl (0) (by omega) (by omega) (by decide) uq0 dX8_copyFrom_64 ?_
  refine z_aload_n C 2 dX8_copyFrom_65 rfl ?_
  have hg42 := up_n eg34 hg32 (by omega)
  refine z_get (v := .ref (ad (b + 1))) C (by omega) ha7 hg42 rfl inA_X8 6 (by decide) q_188 rfl rfl dX8_copyFrom_66 ?_
  refine z_iload_n C 0 dX8_copyFrom_69 rfl ?_
  have hg43 := up_n eg14 v2 (by omega)
  have hg44 := up_n eg18 hg43 (by omega)
  have hg45 := up_n eg22 hg44 (by omega)
  have hg46 := up_n eg26 hg45 (by omega)
  have hg47 := up_n eg30 hg46 (by omega)
  have hg48 := up_n eg34 hg47 (by omega)
  refine z_aald C (by omega) ha8 hg48 3 rfl (0) (by omega) (by omega) (by decide) vq0 dX8_copyFrom_70 ?_
  have hp49 := isPack.mv (ad' := ad) (g' := g33) (fun j h1 h2 => by rfl) (fun j h1 h2 => by rw [eg34, va_up_ne _ _ (by omega)]; rw [eg30, va_up_ne _ _ (by omega)]; rw [eg26, va_up_ne _ _ (by omega)]; rw [eg22, va_up_ne _ _ (by omega)]; rw [eg18, va_up_ne _ _ (by omega)]; rw [eg14, va_up_ne _ _ (by omega)]) up0
  have hp50 := isPack.mv (ad' := ad) (g' := g33) (fun j h1 h2 => by rfl) (fun j h1 h2 => by rw [eg34, va_up_ne _ _ (by omega)]; rw [eg30, va_up_ne _ _ (by omega)]; rw [eg26, va_up_ne _ _ (by omega)]; rw [eg22, va_up_ne _ _ (by omega)]; rw [eg18, va_up_ne _ _ (by omega)]; rw [eg14, va_up_ne _ _ (by omega)]) vp0
  refine z_cV (As := [.ref (ad (b + 2))]) (rest := []) (ci := 5) C (c_X3_copyFrom l D A cs tt N ad _ (a + 2) (b + 2) (by omega) (by omega) _ _ _ _ _ _ hp49 hp50) (by omega) ha3 hp49.1 rfl rfl mv_yX3_copyFrom q_424 hd_yX3_copyFrom (by decide) (Nat.le_of_ble_eq_true rfl) (by decide) dX8_copyFrom_71 rfl (kV0 fun g51 hq52 => ?_)
  obtain ⟨hp53, hf54⟩ := hq52
  refine z_iinc (z := 1) (lv' := [(2, .int (zI (1))), (0, .ref (ad a)), (1, .ref (ad b))]) (j := 0) C dX8_copyFrom_74 rfl (congrArg zI (by omega)) (by decide) rfl ?_
  refine z_goto (tgt := 50) C dX8_copyFrom_77 (by decide) ?_
  refine z_iload_n C 0 dX8_copyFrom_50 rfl ?_
  refine z_aload_n C 1 dX8_copyFrom_51 rfl ?_
  have hg55 := (hf54 (a) (by omega)).trans hg35
  refine z_get (v := .ref (ad (a + 1))) C (by omega) ha1 hg55 rfl inA_X8 6 (by decide) q_188 rfl rfl dX8_copyFrom_52 ?_
  have hg56 := (hf54 (a + 1) (by omega)).trans hg41
  refine z_alen (z := 4) C (by omega) ha2 hg56 3 rfl rfl dX8_copyFrom_55 ?_
  refine z_icmp_ge (tgt := 80) C dX8_copyFrom_56 (by decide) (by omega) (by omega) (fun h => absurd h (by omega)) (fun _ => ?_)
  refine z_aload_n C 1 dX8_copyFrom_59 rfl ?_
  refine z_get (v := .ref (ad (a + 1))) C (by omega) ha1 hg55 rfl inA_X8 6 (by decide) q_188 rfl rfl dX8_copyFrom_60 ?_
  refine z_iload_n C 0 dX8_copyFrom_63 rfl ?_
  refine z_aald C (by omega) ha2 hg56 3 rfl (1) (by omega) (by omega) (by decide) uq1 dX8_copyFrom_64 ?_
  refine z_aload_n C 2 dX8_copyFrom_65 rfl ?_
  have hg57 := (hf54 (b) (by omega)).trans hg42
  refine z_get (v := .ref (ad (b + 1))) C (by omega) ha7 hg57 rfl inA_X8 6 (by decide) q_188 rfl rfl dX8_copyFrom_66 ?_
  refine z_iload_n C 0 dX8_copyFrom_69 rfl ?_
  have hg58 := (hf54 (b + 1) (by omega)).trans hg48
  refine z_aald C (by omega) ha8 hg58 3 rfl (1) (by omega) (by omega) (by decide) vq1 dX8_copyFrom_70 ?_
  have hp59 := isPack.mv (ad' := ad) (g' := g51) (fun j h1 h2 => by rfl) (fun j h1 h2 => by rw [hf54 _ (by omega)]; rw [eg34, va_up_ne _ _ (by omega)]; rw [eg30, va_up_ne _ _ (by omega)]; rw [eg26, va_up_ne _ _ (by omega)]; rw [eg22, va_up_ne _ _ (by omega)]; rw [eg18, va_up_ne _ _ (by omega)]; rw [eg14, va_up_ne _ _ (by omega)]) up1
  have hp60 := isPack.mv (ad' := ad) (g' := g51) (fun j h1 h2 => by rfl) (fun j h1 h2 => by rw [hf54 _ (by omega)]; rw [eg34, va_up_ne _ _ (by omega)]; rw [eg30, va_up_ne _ _ (by omega)]; rw [eg26, va_up_ne _ _ (by omega)]; rw [eg22, va_up_ne _ _ (by omega)]; rw [eg18, va_up_ne _ _ (by omega)]; rw [eg14, va_up_ne _ _ (by omega)]) vp1
  refine z_cV (As := [.ref (ad (b + 4))]) (rest := []) (ci := 5) C (c_X3_copyFrom l D A cs tt N ad _ (a + 4) (b + 4) (by omega) (by omega) _ _ _ _ _ _ hp59 hp60) (by omega) ha4 hp59.1 rfl rfl mv_yX3_copyFrom q_424 hd_yX3_copyFrom (by decide) (Nat.le_of_ble_eq_true rfl) (by decide) dX8_copyFrom_71 rfl (kV0 fun g61 hq62 => ?_)
  obtain ⟨hp63, hf64⟩ := hq62
  refine z_iinc (z := 2) (lv' := [(2, .int (zI (2))), (0, .ref (ad a)), (1, .ref (ad b))]) (j := 0) C dX8_copyFrom_74 rfl (congrArg zI (by omega)) (by decide) rfl ?_
  refine z_goto (tgt := 50) C dX8_copyFrom_77 (by decide) ?_
  refine z_iload_n C 0 dX8_copyFrom_50 rfl ?_
  refine z_aload_n C 1 dX8_copyFrom_51 rfl ?_
  have hg65 := (hf64 (a) (by omega)).trans hg55
  refine z_get (v := .ref (ad (a + 1))) C (by omega) ha1 hg65 rfl inA_X8 6 (by decide) q_188 rfl rfl dX8_copyFrom_52 ?_
  have hg66 := (hf64 (a + 1) (by omega)).trans hg56
  refine z_alen (z := 4) C (by omega) ha2 hg66 3 rfl rfl dX8_copyFrom_55 ?_
  refine z_icmp_ge (tgt := 80) C dX8_copyFrom_56 (by decide) (by omega) (by omega) (fun h => absurd h (by omega)) (fun _ => ?_)
  refine z_aload_n C 1 dX8_copyFrom_59 rfl ?_
  refine z_get (v := .ref (ad (a + 1))) C (by omega) ha1 hg65 rfl inA_X8 6 (by decide) q_188 rfl rfl dX8_copyFrom_60 ?_
  refine z_iload_n C 0 dX8_copyFrom_63 rfl ?_
  refine z_aald C (by omega) ha2 hg66 3 rfl (2) (by omega) (by omega) (by decide) uq2 dX8_copyFrom_64 ?_
  refine z_aload_n C 2 dX8_copyFrom_65 rfl ?_
  have hg67 := (hf64 (b) (by omega)).trans hg57
  refine z_get (v := .ref (ad (b + 1))) C (by omega) ha7 hg67 rfl inA_X8 6 (by decide) q_188 rfl rfl dX8_copyFrom_66 ?_
  refine z_iload_n C 0 dX8_copyFrom_69 rfl ?_
  have hg68 := (hf64 (b + 1) (by omega)).trans hg58
  refine z_aald C (by omega) ha8 hg68 3 rfl (2) (by omega) (by omega) (by decide) vq2 dX8_copyFrom_70 ?_
  have hp69 := isPack.mv (ad' := ad) (g' := g61) (fun j h1 h2 => by rfl) (fun j h1 h2 => by rw [hf64 _ (by omega)]; rw [hf54 _ (by omega)]; rw [eg34, va_up_ne _ _ (by omega)]; rw [eg30, va_up_ne _ _ (by omega)]; rw [eg26, va_up_ne _ _ (by omega)]; rw [eg22, va_up_ne _ _ (by omega)]; rw [eg18, va_up_ne _ _ (by omega)]; rw [eg14, va_up_ne _ _ (by omega)]) up2
  have hp70 := isPack.mv (ad' := ad) (g' := g61) (fun j h1 h2 => by rfl) (fun j h1 h2 => by rw [hf64 _ (by omega)]; rw [hf54 _ (by omega)]; rw [eg34, va_up_ne _ _ (by omega)]; rw [eg30, va_up_ne _ _ (by omega)]; rw [eg26, va_up_ne _ _ (by omega)]; rw [eg22, va_up_ne _ _ (by omega)]; rw [eg18, va_up_ne _ _ (by omega)]; rw [eg14, va_up_ne _ _ (by omega)]) vp2
  refine z_cV (As := [.ref (ad (b + 6))]) (rest := []) (ci := 5) C (c_X3_copyFrom l D A cs tt N ad _ (a + 6) (b + 6) (by omega) (by omega) _ _ _ _ _ _ hp69 hp70) (by omega) ha5 hp69.1 rfl rfl mv_yX3_copyFrom q_424 hd_yX3_copyFrom (by decide) (Nat.le_of_ble_eq_true rfl) (by decide) dX8_copyFrom_71 rfl (kV0 fun g71 hq72 => ?_)
  obtain ⟨hp73, hf74⟩ := hq72
  refine z_iinc (z := 3) (lv' := [(2, .int (zI (3))), (0, .ref (ad a)), (1, .ref (ad b))]) (j := 0) C dX8_copyFrom_74 rfl (congrArg zI (by omega)) (by decide) rfl ?_
  refine z_goto (tgt := 50) C dX8_copyFrom_77 (by decide) ?_
  refine z_iload_n C 0 dX8_copyFrom_50 rfl ?_
  refine z_aload_n C 1 dX8_copyFrom_51 rfl ?_
  have hg75 := (hf74 (a) (by omega)).trans hg65
  refine z_get (v := .ref (ad (a + 1))) C (by omega) ha1 hg75 rfl inA_X8 6 (by decide) q_188 rfl rfl dX8_copyFrom_52 ?_
  have hg76 := (hf74 (a + 1) (by omega)).trans hg66
  refine z_alen (z := 4) C (by omega) ha2 hg76 3 rfl rfl dX8_copyFrom_55 ?_
  refine z_icmp_ge (tgt := 80) C dX8_copyFrom_56 (by decide) (by omega) (by omega) (fun h => absurd h (by omega)) (fun _ => ?_)
  refine z_aload_n C 1 dX8_copyFrom_59 rfl ?_
  refine z_get (v := .ref (ad (a + 1))) C (by omega) ha1 hg75 rfl inA_X8 6 (by decide) q_188 rfl rfl dX8_copyFrom_60 ?_
  refine z_iload_n C 0 dX8_copyFrom_63 rfl ?_
  refine z_aald C (by omega) ha2 hg76 3 rfl (3) (by omega) (by omega) (by decide) uq3 dX8_copyFrom_64 ?_
  refine z_aload_n C 2 dX8_copyFrom_65 rfl ?_
  have hg77 := (hf74 (b) (by omega)).trans hg67
  refine z_get (v := .ref (ad (b + 1))) C (by omega) ha7 hg77 rfl inA_X8 6 (by decide) q_188 rfl rfl dX8_copyFrom_66 ?_
  refine z_iload_n C 0 dX8_copyFrom_69 rfl ?_
  have hg78 := (hf74 (b + 1) (by omega)).trans hg68
  refine z_aald C (by omega) ha8 hg78 3 rfl (3) (by omega) (by omega) (by decide) vq3 dX8_copyFrom_70 ?_
  have hp79 := isPack.mv (ad' := ad) (g' := g71) (fun j h1 h2 => by rfl) (fun j h1 h2 => by rw [hf74 _ (by omega)]; rw [hf64 _ (by omega)]; rw [hf54 _ (by omega)]; rw [eg34, va_up_ne _ _ (by omega)]; rw [eg30, va_up_ne _ _ (by omega)]; rw [eg26, va_up_ne _ _ (by omega)]; rw [eg22, va_up_ne _ _ (by omega)]; rw [eg18, va_up_ne _ _ (by omega)]; rw [eg14, va_up_ne _ _ (by omega)]) up3
  have hp80 := isPack.mv (ad' := ad) (g' := g71) (fun j h1 h2 => by rfl) (fun j h1 h2 => by rw [hf74 _ (by omega)]; rw [hf64 _ (by omega)]; rw [hf54 _ (by omega)]; rw [eg34, va_up_ne _ _ (by omega)]; rw [eg30, va_up_ne _ _ (by omega)]; rw [eg26, va_up_ne _ _ (by omega)]; rw [eg22, va_up_ne _ _ (by omega)]; rw [eg18, va_up_ne _ _ (by omega)]; rw [eg14, va_up_ne _ _ (by omega)]) vp3
  refine z_cV (As := [.ref (ad (b + 8))]) (rest := []) (ci := 5) C (c_X3_copyFrom l D A cs tt N ad _ (a + 8) (b + 8) (by omega) (by omega) _ _ _ _ _ _ hp79 hp80) (by omega) ha6 hp79.1 rfl rfl mv_yX3_copyFrom q_424 hd_yX3_copyFrom (by decide) (Nat.le_of_ble_eq_true rfl) (by decide) dX8_copyFrom_71 rfl (kV0 fun g81 hq82 => ?_)
  obtain ⟨hp83, hf84⟩ := hq82
  refine z_iinc (z := 4) (lv' := [(2, .int (zI (4))), (0, .ref (ad a)), (1, .ref (ad b))]) (j := 0) C dX8_copyFrom_74 rfl (congrArg zI (by omega)) (by decide) rfl ?_
  refine z_goto (tgt := 50) C dX8_copyFrom_77 (by decide) ?_
  refine z_iload_n C 0 dX8_copyFrom_50 rfl ?_
  refine z_aload_n C 1 dX8_copyFrom_51 rfl ?_
  have hg85 := (hf84 (a) (by omega)).trans hg75
  refine z_get (v := .ref (ad (a + 1))) C (by omega) ha1 hg85 rfl inA_X8 6 (by decide) q_188 rfl rfl dX8_copyFrom_52 ?_
  have hg86 := (hf84 (a + 1) (by omega)).trans hg76
  refine z_alen (z := 4) C (by omega) ha2 hg86 3 rfl rfl dX8_copyFrom_55 ?_
  refine z_icmp_ge (tgt := 80) C dX8_copyFrom_56 (by decide) (by omega) (by omega) (fun _ => ?_) (fun h => absurd h (by omega))
  have hp87 := isPack.mv (ad' := ad) (g' := g81) (fun j h1 h2 => by rfl) (fun j h1 h2 => by rw [hf84 _ (by omega)]; rw [hf74 _ (by omega)]; rw [hf64 _ (by omega)]) hp53
  have hp88 := isPack.mv (ad' := ad) (g' := g81) (fun j h1 h2 => by rfl) (fun j h1 h2 => by rw [hf84 _ (by omega)]; rw [hf74 _ (by omega)]) hp63
  have hp89 := isPack.mv (ad' := ad) (g' := g81) (fun j h1 h2 => by rfl) (fun j h1 h2 => by rw [hf84 _ (by omega)]) hp73
  have hp4 : ∀ k, k < 4 → isPack cs ad g81 (a + 2 + 2 * k) (sz2 k) (ro2 k) (r2 k) := by
    intro k hk
    rcases (show k = 0 ∨ k = 1 ∨ k = 2 ∨ k = 3 by omega) with rfl | rfl | rfl | rfl
    · exact hp87
    · exact hp88
    · exact hp89
    · exact hp83
  exact z_vret C hr hlk dX8_copyFrom_80 (by decide) (by decide) ⟨rfl, rfl, rfl, ⟨hg85, ⟨_, hg86, u3⟩, hp4⟩, fun j h1 => by rw [hf84 _ (by omega)]; rw [hf74 _ (by omega)]; rw [hf64 _ (by omega)]; rw [hf54 _ (by omega)]; rw [eg34, va_up_ne _ _ (by omega)]; rw [eg30, va_up_ne _ _ (by omega)]; rw [eg26, va_up_ne _ _ (by omega)]; rw [eg22, va_up_ne _ _ (by omega)]; rw [eg18, va_up_ne _ _ (by omega)]; rw [eg14, va_up_ne _ _ (by omega)]⟩

