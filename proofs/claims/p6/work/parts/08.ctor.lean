def isPack (cs : Nat → ClassId) (ad : Nat → Nat) (g : Nat → va_E) (i : Nat) (sz ro : Int) (r : Nat → Int) : Prop := g i = oC 5 [.int (zI sz), .int (zI ro), .ref (ad (i + 1))] ∧ g (i + 1) = iA cs 84 r
def isWorld (cs : Nat → ClassId) (ad : Nat → Nat) (g : Nat → va_E) (i : Nat) (t : Nat → Int) (sz ro : Nat → Int) (r : Nat → Nat → Int) : Prop := g i = oC 10 [.int (zI (t 0)), .int (zI (t 1)), .int (zI (t 2)), .int (zI (t 3)), .int (zI (t 4)), .int (zI (t 5)), .ref (ad (i + 1))] ∧ (∃ a : Nat → Option Nat, g (i + 1) = rA (cs 3) 4 a ∧ ∀ k, k < 4 → a k = some (ad (i + 2 + 2 * k))) ∧ ∀ k, k < 4 → isPack cs ad g (i + 2 + 2 * k) (sz k) (ro k) (r k)

set_option maxRecDepth 100000 in
set_option maxHeartbeats 4000000 in
theorem c_X3_init (l : Launch) (D : va_G) (A : Nat → Prop) (cs : Nat → ClassId) (tt : Nat) (N : Nat) (ad : Nat → Nat) (g : Nat → va_E) (i a : Nat) (hi : i < N) (ha : ad i = a) (hg : g i = oC 5 [.int (zI 0), .int (zI 0), .null]) : zM l yX3_init cX3_init 1 none ({ frames := 1, cells := 1, slots := 84, locals := 60 } : Room) D A cs tt N ad g [.ref a] (rV fun N' ad' g' => N' = N + 1 ∧ (∀ j, j < N → ad' j = ad j) ∧ (∀ j, j < N → j ≠ i → g' j = g j) ∧ g' i = oC 5 [.int (zI 0), .int (zI 0), .ref (ad' N)] ∧ g' N = iA cs 84 (fun _ => 0)) := by
  refine z_of (by decide) (Nat.le_of_ble_eq_true rfl) ?_
  intro p e s m below meth c C hr hlk hnm
  refine z_lv (lv' := [(0, .ref a)]) [0] rfl ?_
  refine z_aload_n C 0 dX3_init_0 rfl ?_
  refine z_objInit C q_153 q_35 q_36 dX3_init_1 (Nat.le_of_ble_eq_true rfl) (Nat.le_of_ble_eq_true rfl) ?_
  refine z_aload_n C 0 dX3_init_4 rfl ?_
  refine z_iconst (z := 0) C dX3_init_5 rfl ?_
  refine z_put (fs' := [.int (zI (0)), .int (zI (0)), .null]) C (by omega) ha hg tyX3 tyX3_ok nmX3 rfl inA_X3 0 (by decide) q_154 rfl rfl rfl rfl (Nat.le_of_ble_eq_true rfl) rfl dX3_init_6 (fun g1 eg2 => ?_)
  have hg3 := up_s eg2
  refine z_aload_n C 0 dX3_init_9 rfl ?_
  refine z_iconst (z := 0) C dX3_init_10 rfl ?_
  refine z_put (fs' := [.int (zI (0)), .int (zI (0)), .null]) C (by omega) ha hg3 tyX3 tyX3_ok nmX3 rfl inA_X3 1 (by decide) q_159 rfl rfl rfl rfl (Nat.le_of_ble_eq_true rfl) rfl dX3_init_11 (fun g4 eg5 => ?_)
  have hg6 := up_s eg5
  refine z_aload_n C 0 dX3_init_14 rfl ?_
  refine z_bipush (z := 84) C dX3_init_15 (by decide) ?_
  refine z_newI C 84 rfl q_134 (by decide) (by decide) (by decide) dX3_init_17 (fun q7 ad8 g9 ea10 eg11 => ?_)
  have ha12 : zAt ad8 (N) q7 := up_s ea10
  have hg13 := up_s eg11
  have ha14 : zAt ad8 (i) (a) := up_n ea10 ha (by omega)
  have hg15 := up_n eg11 hg6 (by omega)
  refine z_putF (fs' := [.int (zI (0)), .int (zI (0)), .ref q7]) C (by omega) ha14 hg15 tyX3 tyX3_ok nmX3 rfl inA_X3 2 (by decide) q_162 rfl rfl hnm rfl rfl rfl (Nat.le_of_ble_eq_true rfl) rfl dX3_init_19 (fun g16 eg17 => ?_)
  have hg18 := up_s eg17
  have hg19 := up_n eg17 hg13 (by omega)
  exact z_vret C hr hlk dX3_init_22 (by decide) (by decide) (⟨rfl, rfl, fun j h1 => by rw [ea10, va_up_ne _ _ (by omega)], fun j h1 h2 => by rw [eg17, va_up_ne _ _ (by omega)]; rw [eg11, va_up_ne _ _ (by omega)]; rw [eg5, va_up_ne _ _ (by omega)]; rw [eg2, va_up_ne _ _ (by omega)], by rw [show ad8 N = _ from ha12]; exact hg18, hg19⟩)

set_option maxRecDepth 100000 in
set_option maxHeartbeats 4000000 in
theorem c_X8_init (l : Launch) (D : va_G) (A : Nat → Prop) (cs : Nat → ClassId) (tt : Nat) (ad : Nat → Nat) (g : Nat → va_E) (i a : Nat) (ha : ad i = a) (hg : g i = oC 10 [.int (zI 0), .int (zI 0), .int (zI 0), .int (zI 0), .int (zI 0), .int (zI 0), .null]) : zM l yX8_init cX8_init 2 none ({ frames := 2, cells := 9, slots := 352, locals := 120 } : Room) D A cs tt (i + 1) ad g [.ref a] (rV fun N' ad' g' => N' = i + 10 ∧ (∀ j, j < i + 1 → ad' j = ad j) ∧ (∀ j, j < i + 1 → j ≠ i → g' j = g j) ∧ isWorld cs ad' g' i (fun _ => 0) (fun _ => 0) (fun _ => 0) (fun _ _ => 0)) := by
  refine z_of (by decide) (Nat.le_of_ble_eq_true rfl) ?_
  intro p e s m below meth c C hr hlk hnm
  refine z_lv (lv' := [(0, .ref a)]) [0] rfl ?_
  refine z_aload_n C 0 dX8_init_0 rfl ?_
  refine z_objInit C q_146 q_35 q_36 dX8_init_1 (Nat.le_of_ble_eq_true rfl) (Nat.le_of_ble_eq_true rfl) ?_
  refine z_aload_n C 0 dX8_init_4 rfl ?_
  refine z_iconst (z := 0) C dX8_init_5 rfl ?_
  refine z_put (fs' := [.int (zI (0)), .int (zI (0)), .int (zI (0)), .int (zI (0)), .int (zI (0)), .int (zI (0)), .null]) C (lt_o (i := i) (c := 0) (d := 1) rfl) ha hg tyX8 tyX8_ok nmX8 rfl inA_X8 0 (by decide) q_173 rfl rfl rfl rfl (Nat.le_of_ble_eq_true rfl) rfl dX8_init_6 (fun g1 eg2 => ?_)
  have hg3 := up_s eg2
  refine z_aload_n C 0 dX8_init_9 rfl ?_
  refine z_iconst (z := 0) C dX8_init_10 rfl ?_
  refine z_put (fs' := [.int (zI (0)), .int (zI (0)), .int (zI (0)), .int (zI (0)), .int (zI (0)), .int (zI (0)), .null]) C (lt_o (i := i) (c := 0) (d := 1) rfl) ha hg3 tyX8 tyX8_ok nmX8 rfl inA_X8 1 (by decide) q_176 rfl rfl rfl rfl (Nat.le_of_ble_eq_true rfl) rfl dX8_init_11 (fun g4 eg5 => ?_)
  have hg6 := up_s eg5
  refine z_aload_n C 0 dX8_init_14 rfl ?_
  refine z_iconst (z := 0) C dX8_init_15 rfl ?_
  refine z_put (fs' := [.int (zI (0)), .int (zI (0)), .int (zI (0)), .int (zI (0)), .int (zI (0)), .int (zI (0)), .null]) C (lt_o (i := i) (c := 0) (d := 1) rfl) ha hg6 tyX8 tyX8_ok nmX8 rfl inA_X8 2 (by decide) q_179 rfl rfl rfl rfl (Nat.le_of_ble_eq_true rfl) rfl dX8_init_16 (fun g7 eg8 => ?_)
  have hg9 := up_s eg8
  refine z_aload_n C 0 dX8_init_19 rfl ?_
  refine z_iconst (z := 0) C dX8_init_20 rfl ?_
  refine z_put (fs' := [.int (zI (0)), .int (zI (0)), .int (zI (0)), .int (zI (0)), .int (zI (0)), .int (zI (0)), .null]) C (lt_o (i := i) (c := 0) (d := 1) rfl) ha hg9 tyX8 tyX8_ok nmX8 rfl inA_X8 3 (by decide) q_181 rfl rfl rfl rfl (Nat.le_of_ble_eq_true rfl) rfl dX8_init_21 (fun g10 eg11 => ?_)
  have hg12 := up_s eg11
  refine z_aload_n C 0 dX8_init_24 rfl ?_
  refine z_iconst (z := 0) C dX8_init_25 rfl ?_
  refine z_put (fs' := [.int (zI (0)), .int (zI (0)), .int (zI (0)), .int (zI (0)), .int (zI (0)), .int (zI (0)), .null]) C (lt_o (i := i) (c := 0) (d := 1) rfl) ha hg12 tyX8 tyX8_ok nmX8 rfl inA_X8 4 (by decide) q_183 rfl rfl rfl rfl (Nat.le_of_ble_eq_true rfl) rfl dX8_init_26 (fun g13 eg14 => ?_)
  have hg15 := up_s eg14
  refine z_aload_n C 0 dX8_init_29 rfl ?_
  refine z_iconst (z := 0) C dX8_init_30 rfl ?_
  refine z_put (fs' := [.int (zI (0)), .int (zI (0)), .int (zI (0)), .int (zI (0)), .int (zI (0)), .int (zI (0)), .null]) C (lt_o (i := i) (c := 0) (d := 1) rfl) ha hg15 tyX8 tyX8_ok nmX8 rfl inA_X8 5 (by decide) q_185 rfl rfl rfl rfl (Nat.le_of_ble_eq_true rfl) rfl dX8_init_31 (fun g16 eg17 => ?_)
  have hg18 := up_s eg17
  refine z_aload_n C 0 dX8_init_34 rfl ?_
  refine z_iconst (z := 4) C dX8_init_35 rfl ?_
  refine z_newR C 3 4 rfl rfl q_147 C.2.2.2.2.2.2.2.2.1.1 (by decide) (by decide) (by decide) dX8_init_36 (fun q19 ad20 g21 ea22 eg23 => ?_)
  have ha24 : zAt ad20 (i + 1) q19 := up_s ea22
  have hg25 := up_s eg23
  have ha26 : zAt ad20 (i) (a) := up_n ea22 ha (ne_o (i := i) (c := 0) (d := 1) rfl)
  have hg27 := up_n eg23 hg18 (ne_o (i := i) (c := 0) (d := 1) rfl)
  refine z_putF (fs' := [.int (zI (0)), .int (zI (0)), .int (zI (0)), .int (zI (0)), .int (zI (0)), .int (zI (0)), .ref q19]) C (lt_o (i := i) (c := 0) (d := 2) rfl) ha26 hg27 tyX8 tyX8_ok nmX8 rfl inA_X8 6 (by decide) q_188 rfl rfl hnm rfl rfl rfl (Nat.le_of_ble_eq_true rfl) rfl dX8_init_39 (fun g28 eg29 => ?_)
  have hg30 := up_s eg29
  refine z_iconst (z := 0) C dX8_init_42 rfl ?_
  refine z_istore_n (lv' := [(1, .int (zI (0))), (0, .ref a)]) C dX8_init_43 rfl (by decide) rfl ?_
  refine z_iload_n C 0 dX8_init_44 rfl ?_
  refine z_aload_n C 1 dX8_init_45 rfl ?_
  refine z_get (v := .ref q19) C (lt_o (i := i) (c := 0) (d := 2) rfl) ha26 hg30 rfl inA_X8 6 (by decide) q_188 rfl rfl dX8_init_46 ?_
  have hg31 := up_n eg29 hg25 (ne_o (i := i) (c := 1) (d := 0) rfl)
  refine z_alen (z := 4) C (lt_o (i := i) (c := 1) (d := 2) rfl) ha24 hg31 3 rfl rfl dX8_init_49 ?_
  refine z_icmp_ge (tgt := 72) C dX8_init_50 (by decide) (by omega) (by omega) (fun h => absurd h (by omega)) (fun _ => ?_)
  refine z_aload_n C 1 dX8_init_53 rfl ?_
  refine z_get (v := .ref q19) C (lt_o (i := i) (c := 0) (d := 2) rfl) ha26 hg30 rfl inA_X8 6 (by decide) q_188 rfl rfl dX8_init_54 ?_
  refine z_iload_n C 0 dX8_init_57 rfl ?_
  refine z_new (fs := [.int (zI (0)), .int (zI (0)), .null]) (ci := 5) C tyX3 tyX3_ok rfl inA_X3 q_147 q_149 q_6 (fun j hj => by rcases (show j = 0 ∨ j = 1 ∨ j = 2 by omega) with rfl | rfl | rfl <;> rfl) (by decide) (by decide) dX8_init_58 (fun q32 ad33 g34 ea35 eg36 => ?_)
  have ha37 : zAt ad33 (i + 1 + 1) q32 := up_s ea35
  have hg38 := up_s eg36
  refine z_dup C dX8_init_61 rfl ?_
  refine z_cIN (As := []) (rest := [.ref q32, .int (zI (0)), .ref q19]) C (c_X3_init l D A cs tt _ _ _ (i + 1 + 1) q32 (lt_o (i := i) (c := 2) (d := 3) rfl) ha37 hg38) mi_yX3_init n_150 rfl (by decide +kernel) (by decide) (Nat.le_of_ble_eq_true rfl) (by decide) dX8_init_62 rfl (kV fun M43 ad44 g45 hq46 => ?_)
  obtain ⟨rfl, hA39, hG40, hg41, hg42⟩ := hq46
  have ha47 : zAt ad44 (i + 1 + 1 + 1) (ad44 (i + 1 + 1 + 1)) := rfl
  have ha48 : zAt ad33 (i + 1) (q19) := up_n ea35 ha24 (ne_o (i := i) (c := 1) (d := 2) rfl)
  have ha49 : zAt ad44 (i + 1) (q19) := (hA39 (i + 1) (lt_o (i := i) (c := 1) (d := 3) rfl)).trans ha48
  have hg50 := up_n eg36 hg31 (ne_o (i := i) (c := 1) (d := 2) rfl)
  have hg51 := (hG40 (i + 1) (lt_o (i := i) (c := 1) (d := 3) rfl) (ne_o (i := i) (c := 1) (d := 2) rfl)).trans hg50
  have ha52 : zAt ad44 (i + 1 + 1) (q32) := (hA39 (i + 1 + 1) (lt_o (i := i) (c := 2) (d := 3) rfl)).trans ha37
  refine z_aast (q := (RX3, TX3, 3)) C (lt_o (i := i) (c := 1) (d := 4) rfl) ha49 hg51 3 rfl (lt_o (i := i) (c := 2) (d := 4) rfl) ha52 hg41 rfl (0) (by omega) (by omega) (by decide) dX8_init_65 (fun g53 eg54 => ?_)
  have hg55 := up_s eg54
  refine z_iinc (z := 1) (lv' := [(1, .int (zI (1))), (0, .ref a)]) (j := 0) C dX8_init_66 rfl (congrArg zI (by omega)) (by decide) rfl ?_
  refine z_goto (tgt := 44) C dX8_init_69 (by decide) ?_
  refine z_iload_n C 0 dX8_init_44 rfl ?_
  refine z_aload_n C 1 dX8_init_45 rfl ?_
  have ha56 : zAt ad33 (i) (a) := up_n ea35 ha26 (ne_o (i := i) (c := 0) (d := 2) rfl)
  have ha57 : zAt ad44 (i) (a) := (hA39 (i) (lt_o (i := i) (c := 0) (d := 3) rfl)).trans ha56
  have hg58 := up_n eg36 hg30 (ne_o (i := i) (c := 0) (d := 2) rfl)
  have hg59 := (hG40 (i) (lt_o (i := i) (c := 0) (d := 3) rfl) (ne_o (i := i) (c := 0) (d := 2) rfl)).trans hg58
  have hg60 := up_n eg54 hg59 (ne_o (i := i) (c := 0) (d := 1) rfl)
  refine z_get (v := .ref q19) C (lt_o (i := i) (c := 0) (d := 4) rfl) ha57 hg60 rfl inA_X8 6 (by decide) q_188 rfl rfl dX8_init_46 ?_
  refine z_alen (z := 4) C (lt_o (i := i) (c := 1) (d := 4) rfl) ha49 hg55 3 rfl rfl dX8_init_49 ?_
  refine z_icmp_ge (tgt := 72) C dX8_init_50 (by decide) (by omega) (by omega) (fun h => absurd h (by omega)) (fun _ => ?_)
  refine z_aload_n C 1 dX8_init_53 rfl ?_
  refine z_get (v := .ref q19) C (lt_o (i := i) (c := 0) (d := 4) rfl) ha57 hg60 rfl inA_X8 6 (by decide) q_188 rfl rfl dX8_init_54 ?_
  refine z_iload_n C 0 dX8_init_57 rfl ?_
  refine z_new (fs := [.int (zI (0)), .int (zI (0)), .null]) (ci := 5) C tyX3 tyX3_ok rfl inA_X3 q_147 q_149 q_6 (fun j hj => by rcases (show j = 0 ∨ j = 1 ∨ j = 2 by omega) with rfl | rfl | rfl <;> rfl) (by decide) (by decide) dX8_init_58 (fun q61 ad62 g63 ea64 eg65 => ?_)
  have ha66 : zAt ad62 (i + 1 + 1 + 1 + 1) q61 := up_s ea64
  have hg67 := up_s eg65
  refine z_dup C dX8_init_61 rfl ?_
  refine z_cIN (As := []) (rest := [.ref q61, .int (zI (1)), .ref q19]) C (c_X3_init l D A cs tt _ _ _ (i + 1 + 1 + 1 + 1) q61 (lt_o (i := i) (c := 4) (d := 5) rfl) ha66 hg67) mi_yX3_init n_150 rfl (by decide +kernel) (by decide) (Nat.le_of_ble_eq_true rfl) (by decide) dX8_init_62 rfl (kV fun M72 ad73 g74 hq75 => ?_)
  obtain ⟨rfl, hA68, hG69, hg70, hg71⟩ := hq75
  have ha76 : zAt ad73 (i + 1 + 1 + 1 + 1 + 1) (ad73 (i + 1 + 1 + 1 + 1 + 1)) := rfl
  have ha77 : zAt ad62 (i + 1) (q19) := up_n ea64 ha49 (ne_o (i := i) (c := 1) (d := 4) rfl)
  have ha78 : zAt ad73 (i + 1) (q19) := (hA68 (i + 1) (lt_o (i := i) (c := 1) (d := 5) rfl)).trans ha77
  have hg79 := up_n eg65 hg55 (ne_o (i := i) (c := 1) (d := 4) rfl)
  have hg80 := (hG69 (i + 1) (lt_o (i := i) (c := 1) (d := 5) rfl) (ne_o (i := i) (c := 1) (d := 4) rfl)).trans hg79
  have ha81 : zAt ad73 (i + 1 + 1 + 1 + 1) (q61) := (hA68 (i + 1 + 1 + 1 + 1) (lt_o (i := i) (c := 4) (d := 5) rfl)).trans ha66
  refine z_aast (q := (RX3, TX3, 3)) C (lt_o (i := i) (c := 1) (d := 6) rfl) ha78 hg80 3 rfl (lt_o (i := i) (c := 4) (d := 6) rfl) ha81 hg70 rfl (1) (by omega) (by omega) (by decide) dX8_init_65 (fun g82 eg83 => ?_)
  have hg84 := up_s eg83
  refine z_iinc (z := 2) (lv' := [(1, .int (zI (2))), (0, .ref a)]) (j := 0) C dX8_init_66 rfl (congrArg zI (by omega)) (by decide) rfl ?_
  refine z_goto (tgt := 44) C dX8_init_69 (by decide) ?_
  refine z_iload_n C 0 dX8_init_44 rfl ?_
  refine z_aload_n C 1 dX8_init_45 rfl ?_
  have ha85 : zAt ad62 (i) (a) := up_n ea64 ha57 (ne_o (i := i) (c := 0) (d := 4) rfl)
  have ha86 : zAt ad73 (i) (a) := (hA68 (i) (lt_o (i := i) (c := 0) (d := 5) rfl)).trans ha85
  have hg87 := up_n eg65 hg60 (ne_o (i := i) (c := 0) (d := 4) rfl)
  have hg88 := (hG69 (i) (lt_o (i := i) (c := 0) (d := 5) rfl) (ne_o (i := i) (c := 0) (d := 4) rfl)).trans hg87
  have hg89 := up_n eg83 hg88 (ne_o (i := i) (c := 0) (d := 1) rfl)
  refine z_get (v := .ref q19) C (lt_o (i := i) (c := 0) (d := 6) rfl) ha86 hg89 rfl inA_X8 6 (by decide) q_188 rfl rfl dX8_init_46 ?_
  refine z_alen (z := 4) C (lt_o (i := i) (c := 1) (d := 6) rfl) ha78 hg84 3 rfl rfl dX8_init_49 ?_
  refine z_icmp_ge (tgt := 72) C dX8_init_50 (by decide) (by omega) (by omega) (fun h => absurd h (by omega)) (fun _ => ?_)
  refine z_aload_n C 1 dX8_init_53 rfl ?_
  refine z_get (v := .ref q19) C (lt_o (i := i) (c := 0) (d := 6) rfl) ha86 hg89 rfl inA_X8 6 (by decide) q_188 rfl rfl dX8_init_54 ?_
  refine z_iload_n C 0 dX8_init_57 rfl ?_
  refine z_new (fs := [.int (zI (0)), .int (zI (0)), .null]) (ci := 5) C tyX3 tyX3_ok rfl inA_X3 q_147 q_149 q_6 (fun j hj => by rcases (show j = 0 ∨ j = 1 ∨ j = 2 by omega) with rfl | rfl | rfl <;> rfl) (by decide) (by decide) dX8_init_58 (fun q90 ad91 g92 ea93 eg94 => ?_)
  have ha95 : zAt ad91 (i + 1 + 1 + 1 + 1 + 1 + 1) q90 := up_s ea93
  have hg96 := up_s eg94
  refine z_dup C dX8_init_61 rfl ?_
  refine z_cIN (As := []) (rest := [.ref q90, .int (zI (2)), .ref q19]) C (c_X3_init l D A cs tt _ _ _ (i + 1 + 1 + 1 + 1 + 1 + 1) q90 (lt_o (i := i) (c := 6) (d := 7) rfl) ha95 hg96) mi_yX3_init n_150 rfl (by decide +kernel) (by decide) (Nat.le_of_ble_eq_true rfl) (by decide) dX8_init_62 rfl (kV fun M101 ad102 g103 hq104 => ?_)
  obtain ⟨rfl, hA97, hG98, hg99, hg100⟩ := hq104
  have ha105 : zAt ad102 (i + 1 + 1 + 1 + 1 + 1 + 1 + 1) (ad102 (i + 1 + 1 + 1 + 1 + 1 + 1 + 1)) := rfl
  have ha106 : zAt ad91 (i + 1) (q19) := up_n ea93 ha78 (ne_o (i := i) (c := 1) (d := 6) rfl)
  have ha107 : zAt ad102 (i + 1) (q19) := (hA97 (i + 1) (lt_o (i := i) (c := 1) (d := 7) rfl)).trans ha106
  have hg108 := up_n eg94 hg84 (ne_o (i := i) (c := 1) (d := 6) rfl)
  have hg109 := (hG98 (i + 1) (lt_o (i := i) (c := 1) (d := 7) rfl) (ne_o (i := i) (c := 1) (d := 6) rfl)).trans hg108
  have ha110 : zAt ad102 (i + 1 + 1 + 1 + 1 + 1 + 1) (q90) := (hA97 (i + 1 + 1 + 1 + 1 + 1 + 1) (lt_o (i := i) (c := 6) (d := 7) rfl)).trans ha95
  refine z_aast (q := (RX3, TX3, 3)) C (lt_o (i := i) (c := 1) (d := 8) rfl) ha107 hg109 3 rfl (lt_o (i := i) (c := 6) (d := 8) rfl) ha110 hg99 rfl (2) (by omega) (by omega) (by decide) dX8_init_65 (fun g111 eg112 => ?_)
  have hg113 := up_s eg112
  refine z_iinc (z := 3) (lv' := [(1, .int (zI (3))), (0, .ref a)]) (j := 0) C dX8_init_66 rfl (congrArg zI (by omega)) (by decide) rfl ?_
  refine z_goto (tgt := 44) C dX8_init_69 (by decide) ?_
  refine z_iload_n C 0 dX8_init_44 rfl ?_
  refine z_aload_n C 1 dX8_init_45 rfl ?_
  have ha114 : zAt ad91 (i) (a) := up_n ea93 ha86 (ne_o (i := i) (c := 0) (d := 6) rfl)
  have ha115 : zAt ad102 (i) (a) := (hA97 (i) (lt_o (i := i) (c := 0) (d := 7) rfl)).trans ha114
  have hg116 := up_n eg94 hg89 (ne_o (i := i) (c := 0) (d := 6) rfl)
  have hg117 := (hG98 (i) (lt_o (i := i) (c := 0) (d := 7) rfl) (ne_o (i := i) (c := 0) (d := 6) rfl)).trans hg116
  have hg118 := up_n eg112 hg117 (ne_o (i := i) (c := 0) (d := 1) rfl)
  refine z_get (v := .ref q19) C (lt_o (i := i) (c := 0) (d := 8) rfl) ha115 hg118 rfl inA_X8 6 (by decide) q_188 rfl rfl dX8_init_46 ?_
  refine z_alen (z := 4) C (lt_o (i := i) (c := 1) (d := 8) rfl) ha107 hg113 3 rfl rfl dX8_init_49 ?_
  refine z_icmp_ge (tgt := 72) C dX8_init_50 (by decide) (by omega) (by omega) (fun h => absurd h (by omega)) (fun _ => ?_)
  refine z_aload_n C 1 dX8_init_53 rfl ?_
  refine z_get (v := .ref q19) C (lt_o (i := i) (c := 0) (d := 8) rfl) ha115 hg118 rfl inA_X8 6 (by decide) q_188 rfl rfl dX8_init_54 ?_
  refine z_iload_n C 0 dX8_init_57 rfl ?_
  refine z_new (fs := [.int (zI (0)), .int (zI (0)), .null]) (ci := 5) C tyX3 tyX3_ok rfl inA_X3 q_147 q_149 q_6 (fun j hj => by rcases (show j = 0 ∨ j = 1 ∨ j = 2 by omega) with rfl | rfl | rfl <;> rfl) (by decide) (by decide) dX8_init_58 (fun q119 ad120 g121 ea122 eg123 => ?_)
  have ha124 : zAt ad120 (i + 1 + 1 + 1 + 1 + 1 + 1 + 1 + 1) q119 := up_s ea122
  have hg125 := up_s eg123
  refine z_dup C dX8_init_61 rfl ?_
  refine z_cIN (As := []) (rest := [.ref q119, .int (zI (3)), .ref q19]) C (c_X3_init l D A cs tt _ _ _ (i + 1 + 1 + 1 + 1 + 1 + 1 + 1 + 1) q119 (lt_o (i := i) (c := 8) (d := 9) rfl) ha124 hg125) mi_yX3_init n_150 rfl (by decide +kernel) (by decide) (Nat.le_of_ble_eq_true rfl) (by decide) dX8_init_62 rfl (kV fun M130 ad131 g132 hq133 => ?_)
  obtain ⟨rfl, hA126, hG127, hg128, hg129⟩ := hq133
  have ha134 : zAt ad131 (i + 1 + 1 + 1 + 1 + 1 + 1 + 1 + 1 + 1) (ad131 (i + 1 + 1 + 1 + 1 + 1 + 1 + 1 + 1 + 1)) := rfl
  have ha135 : zAt ad120 (i + 1) (q19) := up_n ea122 ha107 (ne_o (i := i) (c := 1) (d := 8) rfl)
  have ha136 : zAt ad131 (i + 1) (q19) := (hA126 (i + 1) (lt_o (i := i) (c := 1) (d := 9) rfl)).trans ha135
  have hg137 := up_n eg123 hg113 (ne_o (i := i) (c := 1) (d := 8) rfl)
  have hg138 := (hG127 (i + 1) (lt_o (i := i) (c := 1) (d := 9) rfl) (ne_o (i := i) (c := 1) (d := 8) rfl)).trans hg137
  have ha139 : zAt ad131 (i + 1 + 1 + 1 + 1 + 1 + 1 + 1 + 1) (q119) := (hA126 (i + 1 + 1 + 1 + 1 + 1 + 1 + 1 + 1) (lt_o (i := i) (c := 8) (d := 9) rfl)).trans ha124
  refine z_aast (q := (RX3, TX3, 3)) C (lt_o (i := i) (c := 1) (d := 10) rfl) ha136 hg138 3 rfl (lt_o (i := i) (c := 8) (d := 10) rfl) ha139 hg128 rfl (3) (by omega) (by omega) (by decide) dX8_init_65 (fun g140 eg141 => ?_)
  have hg142 := up_s eg141
  refine z_iinc (z := 4) (lv' := [(1, .int (zI (4))), (0, .ref a)]) (j := 0) C dX8_init_66 rfl (congrArg zI (by omega)) (by decide) rfl ?_
  refine z_goto (tgt := 44) C dX8_init_69 (by decide) ?_
  refine z_iload_n C 0 dX8_init_44 rfl ?_
  refine z_aload_n C 1 dX8_init_45 rfl ?_
  have ha143 : zAt ad120 (i) (a) := up_n ea122 ha115 (ne_o (i := i) (c := 0) (d := 8) rfl)
  have ha144 : zAt ad131 (i) (a) := (hA126 (i) (lt_o (i := i) (c := 0) (d := 9) rfl)).trans ha143
  have hg145 := up_n eg123 hg118 (ne_o (i := i) (c := 0) (d := 8) rfl)
  have hg146 := (hG127 (i) (lt_o (i := i) (c := 0) (d := 9) rfl) (ne_o (i := i) (c := 0) (d := 8) rfl)).trans hg145
  have hg147 := up_n eg141 hg146 (ne_o (i := i) (c := 0) (d := 1) rfl)
  refine z_get (v := .ref q19) C (lt_o (i := i) (c := 0) (d := 10) rfl) ha144 hg147 rfl inA_X8 6 (by decide) q_188 rfl rfl dX8_init_46 ?_
  refine z_alen (z := 4) C (lt_o (i := i) (c := 1) (d := 10) rfl) ha136 hg142 3 rfl rfl dX8_init_49 ?_
  refine z_icmp_ge (tgt := 72) C dX8_init_50 (by decide) (by omega) (by omega) (fun _ => ?_) (fun h => absurd h (by omega))
  have ha148 : zAt ad62 (i + 1 + 1) (q32) := up_n ea64 ha52 (ne_o (i := i) (c := 2) (d := 4) rfl)
  have ha149 : zAt ad73 (i + 1 + 1) (q32) := (hA68 (i + 1 + 1) (lt_o (i := i) (c := 2) (d := 5) rfl)).trans ha148
  have ha150 : zAt ad91 (i + 1 + 1) (q32) := up_n ea93 ha149 (ne_o (i := i) (c := 2) (d := 6) rfl)
  have ha151 : zAt ad102 (i + 1 + 1) (q32) := (hA97 (i + 1 + 1) (lt_o (i := i) (c := 2) (d := 7) rfl)).trans ha150
  have ha152 : zAt ad120 (i + 1 + 1) (q32) := up_n ea122 ha151 (ne_o (i := i) (c := 2) (d := 8) rfl)
  have ha153 : zAt ad131 (i + 1 + 1) (q32) := (hA126 (i + 1 + 1) (lt_o (i := i) (c := 2) (d := 9) rfl)).trans ha152
  have hg154 := up_n eg54 hg41 (ne_o (i := i) (c := 2) (d := 1) rfl)
  have hg155 := up_n eg65 hg154 (ne_o (i := i) (c := 2) (d := 4) rfl)
  have hg156 := (hG69 (i + 1 + 1) (lt_o (i := i) (c := 2) (d := 5) rfl) (ne_o (i := i) (c := 2) (d := 4) rfl)).trans hg155
  have hg157 := up_n eg83 hg156 (ne_o (i := i) (c := 2) (d := 1) rfl)
  have hg158 := up_n eg94 hg157 (ne_o (i := i) (c := 2) (d := 6) rfl)
  have hg159 := (hG98 (i + 1 + 1) (lt_o (i := i) (c := 2) (d := 7) rfl) (ne_o (i := i) (c := 2) (d := 6) rfl)).trans hg158
  have hg160 := up_n eg112 hg159 (ne_o (i := i) (c := 2) (d := 1) rfl)
  have hg161 := up_n eg123 hg160 (ne_o (i := i) (c := 2) (d := 8) rfl)
  have hg162 := (hG127 (i + 1 + 1) (lt_o (i := i) (c := 2) (d := 9) rfl) (ne_o (i := i) (c := 2) (d := 8) rfl)).trans hg161
  have hg163 := up_n eg141 hg162 (ne_o (i := i) (c := 2) (d := 1) rfl)
  have ha164 : zAt ad62 (i + 1 + 1 + 1) (ad44 (i + 1 + 1 + 1)) := up_n ea64 ha47 (ne_o (i := i) (c := 3) (d := 4) rfl)
  have ha165 : zAt ad73 (i + 1 + 1 + 1) (ad44 (i + 1 + 1 + 1)) := (hA68 (i + 1 + 1 + 1) (lt_o (i := i) (c := 3) (d := 5) rfl)).trans ha164
  have ha166 : zAt ad91 (i + 1 + 1 + 1) (ad44 (i + 1 + 1 + 1)) := up_n ea93 ha165 (ne_o (i := i) (c := 3) (d := 6) rfl)
  have ha167 : zAt ad102 (i + 1 + 1 + 1) (ad44 (i + 1 + 1 + 1)) := (hA97 (i + 1 + 1 + 1) (lt_o (i := i) (c := 3) (d := 7) rfl)).trans ha166
  have ha168 : zAt ad120 (i + 1 + 1 + 1) (ad44 (i + 1 + 1 + 1)) := up_n ea122 ha167 (ne_o (i := i) (c := 3) (d := 8) rfl)
  have ha169 : zAt ad131 (i + 1 + 1 + 1) (ad44 (i + 1 + 1 + 1)) := (hA126 (i + 1 + 1 + 1) (lt_o (i := i) (c := 3) (d := 9) rfl)).trans ha168
  have hg170 := up_n eg54 hg42 (ne_o (i := i) (c := 3) (d := 1) rfl)
  have hg171 := up_n eg65 hg170 (ne_o (i := i) (c := 3) (d := 4) rfl)
  have hg172 := (hG69 (i + 1 + 1 + 1) (lt_o (i := i) (c := 3) (d := 5) rfl) (ne_o (i := i) (c := 3) (d := 4) rfl)).trans hg171
  have hg173 := up_n eg83 hg172 (ne_o (i := i) (c := 3) (d := 1) rfl)
  have hg174 := up_n eg94 hg173 (ne_o (i := i) (c := 3) (d := 6) rfl)
  have hg175 := (hG98 (i + 1 + 1 + 1) (lt_o (i := i) (c := 3) (d := 7) rfl) (ne_o (i := i) (c := 3) (d := 6) rfl)).trans hg174
  have hg176 := up_n eg112 hg175 (ne_o (i := i) (c := 3) (d := 1) rfl)
  have hg177 := up_n eg123 hg176 (ne_o (i := i) (c := 3) (d := 8) rfl)
  have hg178 := (hG127 (i + 1 + 1 + 1) (lt_o (i := i) (c := 3) (d := 9) rfl) (ne_o (i := i) (c := 3) (d := 8) rfl)).trans hg177
  have hg179 := up_n eg141 hg178 (ne_o (i := i) (c := 3) (d := 1) rfl)
  have ha180 : zAt ad91 (i + 1 + 1 + 1 + 1) (q61) := up_n ea93 ha81 (ne_o (i := i) (c := 4) (d := 6) rfl)
  have ha181 : zAt ad102 (i + 1 + 1 + 1 + 1) (q61) := (hA97 (i + 1 + 1 + 1 + 1) (lt_o (i := i) (c := 4) (d := 7) rfl)).trans ha180
  have ha182 : zAt ad120 (i + 1 + 1 + 1 + 1) (q61) := up_n ea122 ha181 (ne_o (i := i) (c := 4) (d := 8) rfl)
  have ha183 : zAt ad131 (i + 1 + 1 + 1 + 1) (q61) := (hA126 (i + 1 + 1 + 1 + 1) (lt_o (i := i) (c := 4) (d := 9) rfl)).trans ha182
  have hg184 := up_n eg83 hg70 (ne_o (i := i) (c := 4) (d := 1) rfl)
  have hg185 := up_n eg94 hg184 (ne_o (i := i) (c := 4) (d := 6) rfl)
  have hg186 := (hG98 (i + 1 + 1 + 1 + 1) (lt_o (i := i) (c := 4) (d := 7) rfl) (ne_o (i := i) (c := 4) (d := 6) rfl)).trans hg185
  have hg187 := up_n eg112 hg186 (ne_o (i := i) (c := 4) (d := 1) rfl)
  have hg188 := up_n eg123 hg187 (ne_o (i := i) (c := 4) (d := 8) rfl)
  have hg189 := (hG127 (i + 1 + 1 + 1 + 1) (lt_o (i := i) (c := 4) (d := 9) rfl) (ne_o (i := i) (c := 4) (d := 8) rfl)).trans hg188
  have hg190 := up_n eg141 hg189 (ne_o (i := i) (c := 4) (d := 1) rfl)
  have ha191 : zAt ad91 (i + 1 + 1 + 1 + 1 + 1) (ad73 (i + 1 + 1 + 1 + 1 + 1)) := up_n ea93 ha76 (ne_o (i := i) (c := 5) (d := 6) rfl)
  have ha192 : zAt ad102 (i + 1 + 1 + 1 + 1 + 1) (ad73 (i + 1 + 1 + 1 + 1 + 1)) := (hA97 (i + 1 + 1 + 1 + 1 + 1) (lt_o (i := i) (c := 5) (d := 7) rfl)).trans ha191
  have ha193 : zAt ad120 (i + 1 + 1 + 1 + 1 + 1) (ad73 (i + 1 + 1 + 1 + 1 + 1)) := up_n ea122 ha192 (ne_o (i := i) (c := 5) (d := 8) rfl)
  have ha194 : zAt ad131 (i + 1 + 1 + 1 + 1 + 1) (ad73 (i + 1 + 1 + 1 + 1 + 1)) := (hA126 (i + 1 + 1 + 1 + 1 + 1) (lt_o (i := i) (c := 5) (d := 9) rfl)).trans ha193
  have hg195 := up_n eg83 hg71 (ne_o (i := i) (c := 5) (d := 1) rfl)
  have hg196 := up_n eg94 hg195 (ne_o (i := i) (c := 5) (d := 6) rfl)
  have hg197 := (hG98 (i + 1 + 1 + 1 + 1 + 1) (lt_o (i := i) (c := 5) (d := 7) rfl) (ne_o (i := i) (c := 5) (d := 6) rfl)).trans hg196
  have hg198 := up_n eg112 hg197 (ne_o (i := i) (c := 5) (d := 1) rfl)
  have hg199 := up_n eg123 hg198 (ne_o (i := i) (c := 5) (d := 8) rfl)
  have hg200 := (hG127 (i + 1 + 1 + 1 + 1 + 1) (lt_o (i := i) (c := 5) (d := 9) rfl) (ne_o (i := i) (c := 5) (d := 8) rfl)).trans hg199
  have hg201 := up_n eg141 hg200 (ne_o (i := i) (c := 5) (d := 1) rfl)
  have ha202 : zAt ad120 (i + 1 + 1 + 1 + 1 + 1 + 1) (q90) := up_n ea122 ha110 (ne_o (i := i) (c := 6) (d := 8) rfl)
  have ha203 : zAt ad131 (i + 1 + 1 + 1 + 1 + 1 + 1) (q90) := (hA126 (i + 1 + 1 + 1 + 1 + 1 + 1) (lt_o (i := i) (c := 6) (d := 9) rfl)).trans ha202
  have hg204 := up_n eg112 hg99 (ne_o (i := i) (c := 6) (d := 1) rfl)
  have hg205 := up_n eg123 hg204 (ne_o (i := i) (c := 6) (d := 8) rfl)
  have hg206 := (hG127 (i + 1 + 1 + 1 + 1 + 1 + 1) (lt_o (i := i) (c := 6) (d := 9) rfl) (ne_o (i := i) (c := 6) (d := 8) rfl)).trans hg205
  have hg207 := up_n eg141 hg206 (ne_o (i := i) (c := 6) (d := 1) rfl)
  have ha208 : zAt ad120 (i + 1 + 1 + 1 + 1 + 1 + 1 + 1) (ad102 (i + 1 + 1 + 1 + 1 + 1 + 1 + 1)) := up_n ea122 ha105 (ne_o (i := i) (c := 7) (d := 8) rfl)
  have ha209 : zAt ad131 (i + 1 + 1 + 1 + 1 + 1 + 1 + 1) (ad102 (i + 1 + 1 + 1 + 1 + 1 + 1 + 1)) := (hA126 (i + 1 + 1 + 1 + 1 + 1 + 1 + 1) (lt_o (i := i) (c := 7) (d := 9) rfl)).trans ha208
  have hg210 := up_n eg112 hg100 (ne_o (i := i) (c := 7) (d := 1) rfl)
  have hg211 := up_n eg123 hg210 (ne_o (i := i) (c := 7) (d := 8) rfl)
  have hg212 := (hG127 (i + 1 + 1 + 1 + 1 + 1 + 1 + 1) (lt_o (i := i) (c := 7) (d := 9) rfl) (ne_o (i := i) (c := 7) (d := 8) rfl)).trans hg211
  have hg213 := up_n eg141 hg212 (ne_o (i := i) (c := 7) (d := 1) rfl)
  have hg214 := up_n eg141 hg128 (ne_o (i := i) (c := 8) (d := 1) rfl)
  have hg215 := up_n eg141 hg129 (ne_o (i := i) (c := 9) (d := 1) rfl)
  have hr4 : ∀ k, k < 4 → (va_up (va_up (va_up (va_up (fun _ => none) (0) (some q32)) (1) (some q61)) (2) (some q90)) (3) (some q119)) k = some (ad131 (i + 2 + 2 * k)) := by
    intro k hk
    rcases (show k = 0 ∨ k = 1 ∨ k = 2 ∨ k = 3 by omega) with rfl | rfl | rfl | rfl
    · exact congrArg some (Eq.symm ha153)
    · exact congrArg some (Eq.symm ha183)
    · exact congrArg some (Eq.symm ha203)
    · exact congrArg some (Eq.symm ha139)
  have hp4 : ∀ k, k < 4 → isPack cs ad131 g140 (i + 2 + 2 * k) 0 0 (fun _ => 0) := by
    intro k hk
    rcases (show k = 0 ∨ k = 1 ∨ k = 2 ∨ k = 3 by omega) with rfl | rfl | rfl | rfl
    · exact ⟨by rw [← (show ad131 (i + 1 + 1 + 1) = _ from ha169)] at hg163; exact hg163, hg179⟩
    · exact ⟨by rw [← (show ad131 (i + 1 + 1 + 1 + 1 + 1) = _ from ha194)] at hg190; exact hg190, hg201⟩
    · exact ⟨by rw [← (show ad131 (i + 1 + 1 + 1 + 1 + 1 + 1 + 1) = _ from ha209)] at hg207; exact hg207, hg213⟩
    · exact ⟨by rw [← (show ad131 (i + 1 + 1 + 1 + 1 + 1 + 1 + 1 + 1 + 1) = _ from ha134)] at hg214; exact hg214, hg215⟩
  exact z_vret C hr hlk dX8_init_72 (by decide) (by decide) (⟨rfl, rfl, fun j h1 => by rw [hA126 _ (by omega)]; rw [ea122, va_up_ne _ _ (by omega)]; rw [hA97 _ (by omega)]; rw [ea93, va_up_ne _ _ (by omega)]; rw [hA68 _ (by omega)]; rw [ea64, va_up_ne _ _ (by omega)]; rw [hA39 _ (by omega)]; rw [ea35, va_up_ne _ _ (by omega)]; rw [ea22, va_up_ne _ _ (by omega)], fun j h1 h2 => by rw [eg141, va_up_ne _ _ (by omega)]; rw [hG127 _ (by omega) (by omega)]; rw [eg123, va_up_ne _ _ (by omega)]; rw [eg112, va_up_ne _ _ (by omega)]; rw [hG98 _ (by omega) (by omega)]; rw [eg94, va_up_ne _ _ (by omega)]; rw [eg83, va_up_ne _ _ (by omega)]; rw [hG69 _ (by omega) (by omega)]; rw [eg65, va_up_ne _ _ (by omega)]; rw [eg54, va_up_ne _ _ (by omega)]; rw [hG40 _ (by omega) (by omega)]; rw [eg36, va_up_ne _ _ (by omega)]; rw [eg29, va_up_ne _ _ (by omega)]; rw [eg23, va_up_ne _ _ (by omega)]; rw [eg17, va_up_ne _ _ (by omega)]; rw [eg14, va_up_ne _ _ (by omega)]; rw [eg11, va_up_ne _ _ (by omega)]; rw [eg8, va_up_ne _ _ (by omega)]; rw [eg5, va_up_ne _ _ (by omega)]; rw [eg2, va_up_ne _ _ (by omega)], by rw [← (show ad131 (i + 1) = _ from ha136)] at hg147; exact hg147, ⟨_, hg142, hr4⟩, hp4⟩)

theorem isPack.mv {cs : Nat → ClassId} {ad ad' : Nat → Nat} {g g' : Nat → va_E} {i : Nat} {sz ro : Int} {r : Nat → Int} (hA : ∀ j, i ≤ j → j < i + 2 → ad' j = ad j) (hG : ∀ j, i ≤ j → j < i + 2 → g' j = g j) (h : isPack cs ad g i sz ro r) : isPack cs ad' g' i sz ro r := by
  obtain ⟨h1, h2⟩ := h
  exact ⟨by rw [hG _ (by omega) (by omega), hA _ (by omega) (by omega)]; exact h1, by rw [hG _ (by omega) (by omega)]; exact h2⟩
theorem isWorld.mv {cs : Nat → ClassId} {ad ad' : Nat → Nat} {g g' : Nat → va_E} {i : Nat} {t sz ro : Nat → Int} {r : Nat → Nat → Int} (hA : ∀ j, i ≤ j → j < i + 10 → ad' j = ad j) (hG : ∀ j, i ≤ j → j < i + 10 → g' j = g j) (h : isWorld cs ad g i t sz ro r) : isWorld cs ad' g' i t sz ro r := by
  obtain ⟨h1, ⟨a, h2, h3⟩, h4⟩ := h
  exact ⟨by rw [hG _ (by omega) (by omega), hA _ (by omega) (by omega)]; exact h1, ⟨a, by rw [hG _ (by omega) (by omega)]; exact h2, fun k hk => by rw [hA _ (by omega) (by omega)]; exact h3 k hk⟩, fun k hk => (h4 k hk).mv (fun j _ _ => hA j (by omega) (by omega)) (fun j _ _ => hG j (by omega) (by omega))⟩
def isNotes (cs : Nat → ClassId) (ad : Nat → Nat) (g : Nat → va_E) (i : Nat) (sz : Int) (a b d : Nat → Int) : Prop := g i = oC 4 [.int (zI sz), .ref (ad (i + 1)), .ref (ad (i + 2)), .ref (ad (i + 3))] ∧ g (i + 1) = iA cs 8 a ∧ g (i + 2) = iA cs 8 b ∧ g (i + 3) = iA cs 8 d
theorem isNotes.mv {cs : Nat → ClassId} {ad ad' : Nat → Nat} {g g' : Nat → va_E} {i : Nat} {sz : Int} {a b d : Nat → Int} (hA : ∀ j, i ≤ j → j < i + 4 → ad' j = ad j) (hG : ∀ j, i ≤ j → j < i + 4 → g' j = g j) (h : isNotes cs ad g i sz a b d) : isNotes cs ad' g' i sz a b d := by
  obtain ⟨h1, h2, h3, h4⟩ := h
  exact ⟨by rw [hG _ (by omega) (by omega), hA _ (by omega) (by omega), hA _ (by omega) (by omega), hA _ (by omega) (by omega)]; exact h1, by rw [hG _ (by omega) (by omega)]; exact h2, by rw [hG _ (by omega) (by omega)]; exact h3, by rw [hG _ (by omega) (by omega)]; exact h4⟩
def isPit (cs : Nat → ClassId) (ad : Nat → Nat) (g : Nat → va_E) (i : Nat) (sl ti sz ro : Int) (r : Nat → Int) : Prop := g i = oC 6 [.int (zI sl), .int (zI ti), .ref (ad (i + 1))] ∧ isPack cs ad g (i + 1) sz ro r
theorem isPit.mv {cs : Nat → ClassId} {ad ad' : Nat → Nat} {g g' : Nat → va_E} {i : Nat} {sl ti sz ro : Int} {r : Nat → Int} (hA : ∀ j, i ≤ j → j < i + 3 → ad' j = ad j) (hG : ∀ j, i ≤ j → j < i + 3 → g' j = g j) (h : isPit cs ad g i sl ti sz ro r) : isPit cs ad' g' i sl ti sz ro r := by
  obtain ⟨h1, h2⟩ := h
  exact ⟨by rw [hG _ (by omega) (by omega), hA _ (by omega) (by omega)]; exact h1, h2.mv (fun j _ _ => hA j (by omega) (by omega)) (fun j _ _ => hG j (by omega) (by omega))⟩
def isPlan (cs : Nat → ClassId) (ad : Nat → Nat) (g : Nat → va_E) (i : Nat) (sl ho ua : Int) (st op ai fa mu tb : Nat → Int) : Prop := g i = oC 7 [.int (zI sl), .int (zI ho), .int (zI ua), .ref (ad (i + 1)), .ref (ad (i + 2)), .ref (ad (i + 3)), .ref (ad (i + 4)), .ref (ad (i + 5)), .ref (ad (i + 6))] ∧ g (i + 1) = iA cs 4 st ∧ g (i + 2) = iA cs 4 op ∧ g (i + 3) = iA cs 24 ai ∧ g (i + 4) = iA cs 24 fa ∧ g (i + 5) = iA cs 24 mu ∧ g (i + 6) = iA cs 15 tb
theorem isPlan.mv {cs : Nat → ClassId} {ad ad' : Nat → Nat} {g g' : Nat → va_E} {i : Nat} {sl ho ua : Int} {st op ai fa mu tb : Nat → Int} (hA : ∀ j, i ≤ j → j < i + 7 → ad' j = ad j) (hG : ∀ j, i ≤ j → j < i + 7 → g' j = g j) (h : isPlan cs ad g i sl ho ua st op ai fa mu tb) : isPlan cs ad' g' i sl ho ua st op ai fa mu tb := by
  obtain ⟨h1, h2, h3, h4, h5, h6, h7⟩ := h
  exact ⟨by rw [hG _ (by omega) (by omega), hA _ (by omega) (by omega), hA _ (by omega) (by omega), hA _ (by omega) (by omega), hA _ (by omega) (by omega), hA _ (by omega) (by omega), hA _ (by omega) (by omega)]; exact h1, by rw [hG _ (by omega) (by omega)]; exact h2, by rw [hG _ (by omega) (by omega)]; exact h3, by rw [hG _ (by omega) (by omega)]; exact h4, by rw [hG _ (by omega) (by omega)]; exact h5, by rw [hG _ (by omega) (by omega)]; exact h6, by rw [hG _ (by omega) (by omega)]; exact h7⟩
def isRdr (cs : Nat → ClassId) (ad : Nat → Nat) (g : Nat → va_E) (i : Nat) : Prop := g i = oC 9 [.int (zI (-1)), .int (zI 0), .ref (ad (i + 1)), .int (zI 0), .int (zI 0), .int (zI 0), .int (zI 0), .int (zI 0), .int (zI 0)] ∧ g (i + 1) = bA cs 0 (fun _ => 0)
theorem isRdr.mv {cs : Nat → ClassId} {ad ad' : Nat → Nat} {g g' : Nat → va_E} {i : Nat} (hA : ∀ j, i ≤ j → j < i + 2 → ad' j = ad j) (hG : ∀ j, i ≤ j → j < i + 2 → g' j = g j) (h : isRdr cs ad g i) : isRdr cs ad' g' i := by
  obtain ⟨h1, h2⟩ := h
  exact ⟨by rw [hG _ (by omega) (by omega), hA _ (by omega) (by omega)]; exact h1, by rw [hG _ (by omega) (by omega)]; exact h2⟩
def isLike (cs : Nat → ClassId) (ad : Nat → Nat) (g : Nat → va_E) (i : Nat) (r : Nat → Int) : Prop := g i = oC 3 [.ref (ad (i + 1))] ∧ g (i + 1) = iA cs 13 r
theorem isLike.mv {cs : Nat → ClassId} {ad ad' : Nat → Nat} {g g' : Nat → va_E} {i : Nat} {r : Nat → Int} (hA : ∀ j, i ≤ j → j < i + 2 → ad' j = ad j) (hG : ∀ j, i ≤ j → j < i + 2 → g' j = g j) (h : isLike cs ad g i r) : isLike cs ad' g' i r := by
  obtain ⟨h1, h2⟩ := h
  exact ⟨by rw [hG _ (by omega) (by omega), hA _ (by omega) (by omega)]; exact h1, by rw [hG _ (by omega) (by omega)]; exact h2⟩
def isBld (cs : Nat → ClassId) (ad : Nat → Nat) (g : Nat → va_E) (i : Nat) : Prop := g i = oC 1 [.ref (ad (i + 1)), .int (zI 0), .int (zI 0), .int (zI 0)] ∧ g (i + 1) = bA cs 16 (fun _ => 0)
theorem isBld.mv {cs : Nat → ClassId} {ad ad' : Nat → Nat} {g g' : Nat → va_E} {i : Nat} (hA : ∀ j, i ≤ j → j < i + 2 → ad' j = ad j) (hG : ∀ j, i ≤ j → j < i + 2 → g' j = g j) (h : isBld cs ad g i) : isBld cs ad' g' i := by
  obtain ⟨h1, h2⟩ := h
  exact ⟨by rw [hG _ (by omega) (by omega), hA _ (by omega) (by omega)]; exact h1, by rw [hG _ (by omega) (by omega)]; exact h2⟩
def isGss (cs : Nat → ClassId) (ad : Nat → Nat) (g : Nat → va_E) (i : Nat) (mn fi : Int) (u : Nat → Int) (q : Nat → Nat → Int) : Prop := g i = oC 2 [.int (zI mn), .int (zI fi), .ref (ad (i + 1)), .ref (ad (i + 2))] ∧ g (i + 1) = iA cs 4 u ∧ (∃ a : Nat → Option Nat, g (i + 2) = rA (cs 6) 4 a ∧ ∀ k, k < 4 → a k = some (ad (i + 3 + k))) ∧ ∀ k, k < 4 → g (i + 3 + k) = iA cs 1200 (q k)
theorem isGss.mv {cs : Nat → ClassId} {ad ad' : Nat → Nat} {g g' : Nat → va_E} {i : Nat} {mn fi : Int} {u : Nat → Int} {q : Nat → Nat → Int} (hA : ∀ j, i ≤ j → j < i + 7 → ad' j = ad j) (hG : ∀ j, i ≤ j → j < i + 7 → g' j = g j) (h : isGss cs ad g i mn fi u q) : isGss cs ad' g' i mn fi u q := by
  obtain ⟨h1, h2, ⟨a, h3, h4⟩, h5⟩ := h
  exact ⟨by rw [hG _ (by omega) (by omega), hA _ (by omega) (by omega), hA _ (by omega) (by omega)]; exact h1, by rw [hG _ (by omega) (by omega)]; exact h2, ⟨a, by rw [hG _ (by omega) (by omega)]; exact h3, fun k hk => by rw [hA _ (by omega) (by omega)]; exact h4 k hk⟩, fun k hk => by rw [hG _ (by omega) (by omega)]; exact h5 k hk⟩

set_option maxRecDepth 100000 in
set_option maxHeartbeats 4000000 in
theorem c_X2_init (l : Launch) (D : va_G) (A : Nat → Prop) (cs : Nat → ClassId) (tt : Nat) (ad : Nat → Nat) (g : Nat → va_E) (i a : Nat) (ha : ad i = a) (hg : g i = oC 4 [.int (zI 0), .null, .null, .null]) : zM l yX2_init cX2_init 1 none ({ frames := 1, cells := 3, slots := 24, locals := 60 } : Room) D A cs tt (i + 1) ad g [.ref a] (rV fun N' ad' g' => N' = i + 4 ∧ (∀ j, j < i + 1 → ad' j = ad j) ∧ (∀ j, j < i + 1 → j ≠ i → g' j = g j) ∧ isNotes cs ad' g' i 0 (fun _ => 0) (fun _ => 0) (fun _ => 0)) := by
  refine z_of (by decide) (Nat.le_of_ble_eq_true rfl) ?_
  intro p e s m below meth c C hr hlk hnm
  refine z_lv (lv' := [(0, .ref a)]) [0] rfl ?_
  refine z_aload_n C 0 dX2_init_0 rfl ?_
  refine z_objInit C q_215 q_35 q_36 dX2_init_1 (Nat.le_of_ble_eq_true rfl) (Nat.le_of_ble_eq_true rfl) ?_
  refine z_aload_n C 0 dX2_init_4 rfl ?_
  refine z_iconst (z := 0) C dX2_init_5 rfl ?_
  refine z_put (fs' := [.int (zI (0)), .null, .null, .null]) C (lt_o (i := i) (c := 0) (d := 1) rfl) ha hg tyX2 tyX2_ok nmX2 rfl inA_X2 0 (by decide) q_216 rfl rfl rfl rfl (Nat.le_of_ble_eq_true rfl) rfl dX2_init_6 (fun g1 eg2 => ?_)
  have hg3 := up_s eg2
  refine z_aload_n C 0 dX2_init_9 rfl ?_
  refine z_bipush (z := 8) C dX2_init_10 (by decide) ?_
  refine z_newI C 8 rfl q_134 (by decide) (by decide) (by decide) dX2_init_12 (fun q4 ad5 g6 ea7 eg8 => ?_)
  have ha9 : zAt ad5 (i + 1) q4 := up_s ea7
  have hg10 := up_s eg8
  have ha11 : zAt ad5 (i) (a) := up_n ea7 ha (ne_o (i := i) (c := 0) (d := 1) rfl)
  have hg12 := up_n eg8 hg3 (ne_o (i := i) (c := 0) (d := 1) rfl)
  refine z_putF (fs' := [.int (zI (0)), .ref q4, .null, .null]) C (lt_o (i := i) (c := 0) (d := 2) rfl) ha11 hg12 tyX2 tyX2_ok nmX2 rfl inA_X2 1 (by decide) q_219 rfl rfl hnm rfl rfl rfl (Nat.le_of_ble_eq_true rfl) rfl dX2_init_14 (fun g13 eg14 => ?_)
  have hg15 := up_s eg14
  refine z_aload_n C 0 dX2_init_17 rfl ?_
  refine z_bipush (z := 8) C dX2_init_18 (by decide) ?_
  refine z_newI C 8 rfl q_134 (by decide) (by decide) (by decide) dX2_init_20 (fun q16 ad17 g18 ea19 eg20 => ?_)
  have ha21 : zAt ad17 (i + 1 + 1) q16 := up_s ea19
  have hg22 := up_s eg20
  have ha23 : zAt ad17 (i) (a) := up_n ea19 ha11 (ne_o (i := i) (c := 0) (d := 2) rfl)
  have hg24 := up_n eg20 hg15 (ne_o (i := i) (c := 0) (d := 2) rfl)
  refine z_putF (fs' := [.int (zI (0)), .ref q4, .ref q16, .null]) C (lt_o (i := i) (c := 0) (d := 3) rfl) ha23 hg24 tyX2 tyX2_ok nmX2 rfl inA_X2 2 (by decide) q_221 rfl rfl hnm rfl rfl rfl (Nat.le_of_ble_eq_true rfl) rfl dX2_init_22 (fun g25 eg26 => ?_)
  have hg27 := up_s eg26
  refine z_aload_n C 0 dX2_init_25 rfl ?_
  refine z_bipush (z := 8) C dX2_init_26 (by decide) ?_
  refine z_newI C 8 rfl q_134 (by decide) (by decide) (by decide) dX2_init_28 (fun q28 ad29 g30 ea31 eg32 => ?_)
  have ha33 : zAt ad29 (i + 1 + 1 + 1) q28 := up_s ea31
  have hg34 := up_s eg32
  have ha35 : zAt ad29 (i) (a) := up_n ea31 ha23 (ne_o (i := i) (c := 0) (d := 3) rfl)
  have hg36 := up_n eg32 hg27 (ne_o (i := i) (c := 0) (d := 3) rfl)
  refine z_putF (fs' := [.int (zI (0)), .ref q4, .ref q16, .ref q28]) C (lt_o (i := i) (c := 0) (d := 4) rfl) ha35 hg36 tyX2 tyX2_ok nmX2 rfl inA_X2 3 (by decide) q_223 rfl rfl hnm rfl rfl rfl (Nat.le_of_ble_eq_true rfl) rfl dX2_init_30 (fun g37 eg38 => ?_)
  have hg39 := up_s eg38
  have ha40 : zAt ad17 (i + 1) (q4) := up_n ea19 ha9 (ne_o (i := i) (c := 1) (d := 2) rfl)
  have ha41 : zAt ad29 (i + 1) (q4) := up_n ea31 ha40 (ne_o (i := i) (c := 1) (d := 3) rfl)
  have ha42 : zAt ad29 (i + 1 + 1) (q16) := up_n ea31 ha21 (ne_o (i := i) (c := 2) (d := 3) rfl)
  have hg43 := up_n eg14 hg10 (ne_o (i := i) (c := 1) (d := 0) rfl)
  have hg44 := up_n eg20 hg43 (ne_o (i := i) (c := 1) (d := 2) rfl)
  have hg45 := up_n eg26 hg44 (ne_o (i := i) (c := 1) (d := 0) rfl)
  have hg46 := up_n eg32 hg45 (ne_o (i := i) (c := 1) (d := 3) rfl)
  have hg47 := up_n eg38 hg46 (ne_o (i := i) (c := 1) (d := 0) rfl)
  have hg48 := up_n eg26 hg22 (ne_o (i := i) (c := 2) (d := 0) rfl)
  have hg49 := up_n eg32 hg48 (ne_o (i := i) (c := 2) (d := 3) rfl)
  have hg50 := up_n eg38 hg49 (ne_o (i := i) (c := 2) (d := 0) rfl)
  have hg51 := up_n eg38 hg34 (ne_o (i := i) (c := 3) (d := 0) rfl)
  exact z_vret C hr hlk dX2_init_33 (by decide) (by decide) (⟨rfl, rfl, fun j h1 => by rw [ea31, va_up_ne _ _ (by omega)]; rw [ea19, va_up_ne _ _ (by omega)]; rw [ea7, va_up_ne _ _ (by omega)], fun j h1 h2 => by rw [eg38, va_up_ne _ _ (by omega)]; rw [eg32, va_up_ne _ _ (by omega)]; rw [eg26, va_up_ne _ _ (by omega)]; rw [eg20, va_up_ne _ _ (by omega)]; rw [eg14, va_up_ne _ _ (by omega)]; rw [eg8, va_up_ne _ _ (by omega)]; rw [eg2, va_up_ne _ _ (by omega)], by rw [← (show ad29 (i + 1) = q4 from ha41), ← (show ad29 (i + 1 + 1) = q16 from ha42), ← (show ad29 (i + 1 + 1 + 1) = q28 from ha33)] at hg39; exact hg39, hg47, hg50, hg51⟩)

set_option maxRecDepth 100000 in
set_option maxHeartbeats 4000000 in
theorem c_X1_init (l : Launch) (D : va_G) (A : Nat → Prop) (cs : Nat → ClassId) (tt : Nat) (ad : Nat → Nat) (g : Nat → va_E) (i a : Nat) (ha : ad i = a) (hg : g i = oC 3 [.null]) : zM l yX1_init cX1_init 1 none ({ frames := 1, cells := 1, slots := 13, locals := 60 } : Room) D A cs tt (i + 1) ad g [.ref a] (rV fun N' ad' g' => N' = i + 2 ∧ (∀ j, j < i + 1 → ad' j = ad j) ∧ (∀ j, j < i + 1 → j ≠ i → g' j = g j) ∧ isLike cs ad' g' i (fun _ => 0)) := by
  refine z_of (by decide) (Nat.le_of_ble_eq_true rfl) ?_
  intro p e s m below meth c C hr hlk hnm
  refine z_lv (lv' := [(0, .ref a)]) [0] rfl ?_
  refine z_aload_n C 0 dX1_init_0 rfl ?_
  refine z_objInit C q_312 q_35 q_36 dX1_init_1 (Nat.le_of_ble_eq_true rfl) (Nat.le_of_ble_eq_true rfl) ?_
  refine z_aload_n C 0 dX1_init_4 rfl ?_
  refine z_bipush (z := 13) C dX1_init_5 (by decide) ?_
  refine z_newI C 13 rfl q_134 (by decide) (by decide) (by decide) dX1_init_7 (fun q1 ad2 g3 ea4 eg5 => ?_)
  have ha6 : zAt ad2 (i + 1) q1 := up_s ea4
  have hg7 := up_s eg5
  have ha8 : zAt ad2 (i) (a) := up_n ea4 ha (ne_o (i := i) (c := 0) (d := 1) rfl)
  have hg9 := up_n eg5 hg (ne_o (i := i) (c := 0) (d := 1) rfl)
  refine z_putF (fs' := [.ref q1]) C (lt_o (i := i) (c := 0) (d := 2) rfl) ha8 hg9 tyX1 tyX1_ok nmX1 rfl inA_X1 0 (by decide) q_313 rfl rfl hnm rfl rfl rfl (Nat.le_of_ble_eq_true rfl) rfl dX1_init_9 (fun g10 eg11 => ?_)
  have hg12 := up_s eg11
  have hg13 := up_n eg11 hg7 (ne_o (i := i) (c := 1) (d := 0) rfl)
  exact z_vret C hr hlk dX1_init_12 (by decide) (by decide) (⟨rfl, rfl, fun j h1 => by rw [ea4, va_up_ne _ _ (by omega)], fun j h1 h2 => by rw [eg11, va_up_ne _ _ (by omega)]; rw [eg5, va_up_ne _ _ (by omega)], by rw [← (show ad2 (i + 1) = q1 from ha6)] at hg12; exact hg12, hg13⟩)

set_option maxRecDepth 100000 in
set_option maxHeartbeats 4000000 in
theorem c_X7_init (l : Launch) (D : va_G) (A : Nat → Prop) (cs : Nat → ClassId) (tt : Nat) (ad : Nat → Nat) (g : Nat → va_E) (i a : Nat) (ha : ad i = a) (hg : g i = oC 9 [.int (zI 0), .int (zI 0), .null, .int (zI 0), .int (zI 0), .int (zI 0), .int (zI 0), .int (zI 0), .int (zI 0)]) : zM l yX7_init cX7_init 1 none ({ frames := 1, cells := 1, slots := 0, locals := 60 } : Room) D A cs tt (i + 1) ad g [.ref a] (rV fun N' ad' g' => N' = i + 2 ∧ (∀ j, j < i + 1 → ad' j = ad j) ∧ (∀ j, j < i + 1 → j ≠ i → g' j = g j) ∧ isRdr cs ad' g' i) := by
  refine z_of (by decide) (Nat.le_of_ble_eq_true rfl) ?_
  intro p e s m below meth c C hr hlk hnm
  refine z_lv (lv' := [(0, .ref a)]) [0] rfl ?_
  refine z_aload_n C 0 dX7_init_0 rfl ?_
  refine z_objInit C q_42 q_35 q_36 dX7_init_1 (Nat.le_of_ble_eq_true rfl) (Nat.le_of_ble_eq_true rfl) ?_
  refine z_aload_n C 0 dX7_init_4 rfl ?_
  refine z_iconst (z := -1) C dX7_init_5 rfl ?_
  refine z_put (fs' := [.int (zI (-1)), .int (zI (0)), .null, .int (zI (0)), .int (zI (0)), .int (zI (0)), .int (zI (0)), .int (zI (0)), .int (zI (0))]) C (lt_o (i := i) (c := 0) (d := 1) rfl) ha hg tyX7 tyX7_ok nmX7 rfl inA_X7 0 (by decide) q_43 rfl rfl rfl rfl (Nat.le_of_ble_eq_true rfl) rfl dX7_init_6 (fun g1 eg2 => ?_)
  have hg3 := up_s eg2
  refine z_aload_n C 0 dX7_init_9 rfl ?_
  refine z_iconst (z := 0) C dX7_init_10 rfl ?_
  refine z_put (fs' := [.int (zI (-1)), .int (zI (0)), .null, .int (zI (0)), .int (zI (0)), .int (zI (0)), .int (zI (0)), .int (zI (0)), .int (zI (0))]) C (lt_o (i := i) (c := 0) (d := 1) rfl) ha hg3 tyX7 tyX7_ok nmX7 rfl inA_X7 1 (by decide) q_45 rfl rfl rfl rfl (Nat.le_of_ble_eq_true rfl) rfl dX7_init_11 (fun g4 eg5 => ?_)
  have hg6 := up_s eg5
  refine z_aload_n C 0 dX7_init_14 rfl ?_
  refine z_iconst (z := 0) C dX7_init_15 rfl ?_
  refine z_newB C 0 rfl q_72 (by decide) (by decide) (by decide) dX7_init_16 (fun q7 ad8 g9 ea10 eg11 => ?_)
  have ha12 : zAt ad8 (i + 1) q7 := up_s ea10
  have hg13 := up_s eg11
  have ha14 : zAt ad8 (i) (a) := up_n ea10 ha (ne_o (i := i) (c := 0) (d := 1) rfl)
  have hg15 := up_n eg11 hg6 (ne_o (i := i) (c := 0) (d := 1) rfl)
  refine z_put (fs' := [.int (zI (-1)), .int (zI (0)), .ref q7, .int (zI (0)), .int (zI (0)), .int (zI (0)), .int (zI (0)), .int (zI (0)), .int (zI (0))]) C (lt_o (i := i) (c := 0) (d := 2) rfl) ha14 hg15 tyX7 tyX7_ok nmX7 rfl inA_X7 2 (by decide) q_46 rfl rfl rfl rfl (Nat.le_of_ble_eq_true rfl) rfl dX7_init_18 (fun g16 eg17 => ?_)
  have hg18 := up_s eg17
  refine z_aload_n C 0 dX7_init_21 rfl ?_
  refine z_iconst (z := 0) C dX7_init_22 rfl ?_
  refine z_put (fs' := [.int (zI (-1)), .int (zI (0)), .ref q7, .int (zI (0)), .int (zI (0)), .int (zI (0)), .int (zI (0)), .int (zI (0)), .int (zI (0))]) C (lt_o (i := i) (c := 0) (d := 2) rfl) ha14 hg18 tyX7 tyX7_ok nmX7 rfl inA_X7 3 (by decide) q_47 rfl rfl rfl rfl (Nat.le_of_ble_eq_true rfl) rfl dX7_init_23 (fun g19 eg20 => ?_)
  have hg21 := up_s eg20
  refine z_aload_n C 0 dX7_init_26 rfl ?_
  refine z_iconst (z := 0) C dX7_init_27 rfl ?_
  refine z_put (fs' := [.int (zI (-1)), .int (zI (0)), .ref q7, .int (zI (0)), .int (zI (0)), .int (zI (0)), .int (zI (0)), .int (zI (0)), .int (zI (0))]) C (lt_o (i := i) (c := 0) (d := 2) rfl) ha14 hg21 tyX7 tyX7_ok nmX7 rfl inA_X7 4 (by decide) q_48 rfl rfl rfl rfl (Nat.le_of_ble_eq_true rfl) rfl dX7_init_28 (fun g22 eg23 => ?_)
  have hg24 := up_s eg23
  refine z_aload_n C 0 dX7_init_31 rfl ?_
  refine z_iconst (z := 0) C dX7_init_32 rfl ?_
  refine z_put (fs' := [.int (zI (-1)), .int (zI (0)), .ref q7, .int (zI (0)), .int (zI (0)), .int (zI (0)), .int (zI (0)), .int (zI (0)), .int (zI (0))]) C (lt_o (i := i) (c := 0) (d := 2) rfl) ha14 hg24 tyX7 tyX7_ok nmX7 rfl inA_X7 5 (by decide) q_49 rfl rfl rfl rfl (Nat.le_of_ble_eq_true rfl) rfl dX7_init_33 (fun g25 eg26 => ?_)
  have hg27 := up_s eg26
  refine z_aload_n C 0 dX7_init_36 rfl ?_
  refine z_iconst (z := 0) C dX7_init_37 rfl ?_
  refine z_put (fs' := [.int (zI (-1)), .int (zI (0)), .ref q7, .int (zI (0)), .int (zI (0)), .int (zI (0)), .int (zI (0)), .int (zI (0)), .int (zI (0))]) C (lt_o (i := i) (c := 0) (d := 2) rfl) ha14 hg27 tyX7 tyX7_ok nmX7 rfl inA_X7 6 (by decide) q_50 rfl rfl rfl rfl (Nat.le_of_ble_eq_true rfl) rfl dX7_init_38 (fun g28 eg29 => ?_)
  have hg30 := up_s eg29
  refine z_aload_n C 0 dX7_init_41 rfl ?_
  refine z_iconst (z := 0) C dX7_init_42 rfl ?_
  refine z_put (fs' := [.int (zI (-1)), .int (zI (0)), .ref q7, .int (zI (0)), .int (zI (0)), .int (zI (0)), .int (zI (0)), .int (zI (0)), .int (zI (0))]) C (lt_o (i := i) (c := 0) (d := 2) rfl) ha14 hg30 tyX7 tyX7_ok nmX7 rfl inA_X7 7 (by decide) q_51 rfl rfl rfl rfl (Nat.le_of_ble_eq_true rfl) rfl dX7_init_43 (fun g31 eg32 => ?_)
  have hg33 := up_s eg32
  refine z_aload_n C 0 dX7_init_46 rfl ?_
  refine z_iconst (z := 0) C dX7_init_47 rfl ?_
  refine z_put (fs' := [.int (zI (-1)), .int (zI (0)), .ref q7, .int (zI (0)), .int (zI (0)), .int (zI (0)), .int (zI (0)), .int (zI (0)), .int (zI (0))]) C (lt_o (i := i) (c := 0) (d := 2) rfl) ha14 hg33 tyX7 tyX7_ok nmX7 rfl inA_X7 8 (by decide) q_52 rfl rfl rfl rfl (Nat.le_of_ble_eq_true rfl) rfl dX7_init_48 (fun g34 eg35 => ?_)
  have hg36 := up_s eg35
  have hg37 := up_n eg17 hg13 (ne_o (i := i) (c := 1) (d := 0) rfl)
  have hg38 := up_n eg20 hg37 (ne_o (i := i) (c := 1) (d := 0) rfl)
  have hg39 := up_n eg23 hg38 (ne_o (i := i) (c := 1) (d := 0) rfl)
  have hg40 := up_n eg26 hg39 (ne_o (i := i) (c := 1) (d := 0) rfl)
  have hg41 := up_n eg29 hg40 (ne_o (i := i) (c := 1) (d := 0) rfl)
  have hg42 := up_n eg32 hg41 (ne_o (i := i) (c := 1) (d := 0) rfl)
  have hg43 := up_n eg35 hg42 (ne_o (i := i) (c := 1) (d := 0) rfl)
  exact z_vret C hr hlk dX7_init_51 (by decide) (by decide) (⟨rfl, rfl, fun j h1 => by rw [ea10, va_up_ne _ _ (by omega)], fun j h1 h2 => by rw [eg35, va_up_ne _ _ (by omega)]; rw [eg32, va_up_ne _ _ (by omega)]; rw [eg29, va_up_ne _ _ (by omega)]; rw [eg26, va_up_ne _ _ (by omega)]; rw [eg23, va_up_ne _ _ (by omega)]; rw [eg20, va_up_ne _ _ (by omega)]; rw [eg17, va_up_ne _ _ (by omega)]; rw [eg11, va_up_ne _ _ (by omega)]; rw [eg5, va_up_ne _ _ (by omega)]; rw [eg2, va_up_ne _ _ (by omega)], by rw [← (show ad8 (i + 1) = q7 from ha12)] at hg36; exact hg36, hg43⟩)

set_option maxRecDepth 100000 in
set_option maxHeartbeats 4000000 in
theorem c_X4_init (l : Launch) (D : va_G) (A : Nat → Prop) (cs : Nat → ClassId) (tt : Nat) (ad : Nat → Nat) (g : Nat → va_E) (i a : Nat) (ha : ad i = a) (hg : g i = oC 6 [.int (zI 0), .int (zI 0), .null]) : zM l yX4_init cX4_init 1 none ({ frames := 2, cells := 2, slots := 87, locals := 120 } : Room) D A cs tt (i + 1) ad g [.ref a] (rV fun N' ad' g' => N' = i + 3 ∧ (∀ j, j < i + 1 → ad' j = ad j) ∧ (∀ j, j < i + 1 → j ≠ i → g' j = g j) ∧ isPit cs ad' g' i 0 0 0 0 (fun _ => 0)) := by
  refine z_of (by decide) (Nat.le_of_ble_eq_true rfl) ?_
  intro p e s m below meth c C hr hlk hnm
  refine z_lv (lv' := [(0, .ref a)]) [0] rfl ?_
  refine z_aload_n C 0 dX4_init_0 rfl ?_
  refine z_objInit C q_238 q_35 q_36 dX4_init_1 (Nat.le_of_ble_eq_true rfl) (Nat.le_of_ble_eq_true rfl) ?_
  refine z_aload_n C 0 dX4_init_4 rfl ?_
  refine z_iconst (z := 0) C dX4_init_5 rfl ?_
  refine z_put (fs' := [.int (zI (0)), .int (zI (0)), .null]) C (lt_o (i := i) (c := 0) (d := 1) rfl) ha hg tyX4 tyX4_ok nmX4 rfl inA_X4 0 (by decide) q_241 rfl rfl rfl rfl (Nat.le_of_ble_eq_true rfl) rfl dX4_init_6 (fun g1 eg2 => ?_)
  have hg3 := up_s eg2
  refine z_aload_n C 0 dX4_init_9 rfl ?_
  refine z_iconst (z := 0) C dX4_init_10 rfl ?_
  refine z_put (fs' := [.int (zI (0)), .int (zI (0)), .null]) C (lt_o (i := i) (c := 0) (d := 1) rfl) ha hg3 tyX4 tyX4_ok nmX4 rfl inA_X4 1 (by decide) q_244 rfl rfl rfl rfl (Nat.le_of_ble_eq_true rfl) rfl dX4_init_11 (fun g4 eg5 => ?_)
  have hg6 := up_s eg5
  refine z_aload_n C 0 dX4_init_14 rfl ?_
  refine z_new (fs := [.int (zI (0)), .int (zI (0)), .null]) (ci := 5) C tyX3 tyX3_ok rfl inA_X3 q_239 q_149 q_6 (fun j hj => by rcases (show j = 0 ∨ j = 1 ∨ j = 2 by omega) with rfl | rfl | rfl <;> rfl) (by decide) (by decide) dX4_init_15 (fun q7 ad8 g9 ea10 eg11 => ?_)
  have ha12 : zAt ad8 (i + 1) q7 := up_s ea10
  have hg13 := up_s eg11
  refine z_dup C dX4_init_18 rfl ?_
  refine z_cIN (As := []) (rest := [.ref q7, .ref a]) C (c_X3_init l D A cs tt _ _ _ (i + 1) q7 (lt_o (i := i) (c := 1) (d := 2) rfl) ha12 hg13) mi_yX3_init n_240 rfl (by decide +kernel) (by decide) (Nat.le_of_ble_eq_true rfl) (by decide) dX4_init_19 rfl (kV fun M18 ad19 g20 hq21 => ?_)
  obtain ⟨rfl, hA14, hG15, hg16, hg17⟩ := hq21
  have ha22 : zAt ad19 (i + 1 + 1) (ad19 (i + 1 + 1)) := rfl
  have ha23 : zAt ad8 (i) (a) := up_n ea10 ha (ne_o (i := i) (c := 0) (d := 1) rfl)
  have ha24 : zAt ad19 (i) (a) := (hA14 (i) (lt_o (i := i) (c := 0) (d := 2) rfl)).trans ha23
  have hg25 := up_n eg11 hg6 (ne_o (i := i) (c := 0) (d := 1) rfl)
  have hg26 := (hG15 (i) (lt_o (i := i) (c := 0) (d := 2) rfl) (ne_o (i := i) (c := 0) (d := 1) rfl)).trans hg25
  refine z_putF (fs' := [.int (zI (0)), .int (zI (0)), .ref q7]) C (lt_o (i := i) (c := 0) (d := 3) rfl) ha24 hg26 tyX4 tyX4_ok nmX4 rfl inA_X4 2 (by decide) q_247 rfl rfl hnm rfl rfl rfl (Nat.le_of_ble_eq_true rfl) rfl dX4_init_22 (fun g27 eg28 => ?_)
  have hg29 := up_s eg28
  have ha30 : zAt ad19 (i + 1) (q7) := (hA14 (i + 1) (lt_o (i := i) (c := 1) (d := 2) rfl)).trans ha12
  have hg31 := up_n eg28 hg16 (ne_o (i := i) (c := 1) (d := 0) rfl)
  have hg32 := up_n eg28 hg17 (ne_o (i := i) (c := 2) (d := 0) rfl)
  exact z_vret C hr hlk dX4_init_25 (by decide) (by decide) (⟨rfl, rfl, fun j h1 => by rw [hA14 _ (by omega)]; rw [ea10, va_up_ne _ _ (by omega)], fun j h1 h2 => by rw [eg28, va_up_ne _ _ (by omega)]; rw [hG15 _ (by omega) (by omega)]; rw [eg11, va_up_ne _ _ (by omega)]; rw [eg5, va_up_ne _ _ (by omega)]; rw [eg2, va_up_ne _ _ (by omega)], by rw [← (show ad19 (i + 1) = q7 from ha30)] at hg29; exact hg29, by rw [← (show ad19 (i + 1 + 1) = ad19 (i + 1 + 1) from ha22)] at hg31; exact hg31, hg32⟩)

set_option maxRecDepth 100000 in
set_option maxHeartbeats 4000000 in
theorem c_X5_init (l : Launch) (D : va_G) (A : Nat → Prop) (cs : Nat → ClassId) (tt : Nat) (ad : Nat → Nat) (g : Nat → va_E) (i a : Nat) (ha : ad i = a) (hg : g i = oC 7 [.int (zI 0), .int (zI 0), .int (zI 0), .null, .null, .null, .null, .null, .null]) : zM l yX5_init cX5_init 1 none ({ frames := 1, cells := 6, slots := 95, locals := 60 } : Room) D A cs tt (i + 1) ad g [.ref a] (rV fun N' ad' g' => N' = i + 7 ∧ (∀ j, j < i + 1 → ad' j = ad j) ∧ (∀ j, j < i + 1 → j ≠ i → g' j = g j) ∧ isPlan cs ad' g' i 0 0 0 (fun _ => 0) (fun _ => 0) (fun _ => 0) (fun _ => 0) (fun _ => 0) tabZ) := by
  refine z_of (by decide) (Nat.le_of_ble_eq_true rfl) ?_
  intro p e s m below meth c C hr hlk hnm
  refine z_lv (lv' := [(0, .ref a)]) [0] rfl ?_
  refine z_aload_n C 0 dX5_init_0 rfl ?_
  refine z_objInit C q_78 q_35 q_36 dX5_init_1 (Nat.le_of_ble_eq_true rfl) (Nat.le_of_ble_eq_true rfl) ?_
  refine z_aload_n C 0 dX5_init_4 rfl ?_
  refine z_iconst (z := 0) C dX5_init_5 rfl ?_
  refine z_put (fs' := [.int (zI (0)), .int (zI (0)), .int (zI (0)), .null, .null, .null, .null, .null, .null]) C (lt_o (i := i) (c := 0) (d := 1) rfl) ha hg tyX5 tyX5_ok nmX5 rfl inA_X5 0 (by decide) q_88 rfl rfl rfl rfl (Nat.le_of_ble_eq_true rfl) rfl dX5_init_6 (fun g1 eg2 => ?_)
  have hg3 := up_s eg2
  refine z_aload_n C 0 dX5_init_9 rfl ?_
  refine z_iconst (z := 0) C dX5_init_10 rfl ?_
  refine z_put (fs' := [.int (zI (0)), .int (zI (0)), .int (zI (0)), .null, .null, .null, .null, .null, .null]) C (lt_o (i := i) (c := 0) (d := 1) rfl) ha hg3 tyX5 tyX5_ok nmX5 rfl inA_X5 1 (by decide) q_92 rfl rfl rfl rfl (Nat.le_of_ble_eq_true rfl) rfl dX5_init_11 (fun g4 eg5 => ?_)
  have hg6 := up_s eg5
  refine z_aload_n C 0 dX5_init_14 rfl ?_
  refine z_iconst (z := 0) C dX5_init_15 rfl ?_
  refine z_put (fs' := [.int (zI (0)), .int (zI (0)), .int (zI (0)), .null, .null, .null, .null, .null, .null]) C (lt_o (i := i) (c := 0) (d := 1) rfl) ha hg6 tyX5 tyX5_ok nmX5 rfl inA_X5 2 (by decide) q_95 rfl rfl rfl rfl (Nat.le_of_ble_eq_true rfl) rfl dX5_init_16 (fun g7 eg8 => ?_)
  have hg9 := up_s eg8
  refine z_aload_n C 0 dX5_init_19 rfl ?_
  refine z_iconst (z := 4) C dX5_init_20 rfl ?_
  refine z_newI C 4 rfl q_134 (by decide) (by decide) (by decide) dX5_init_21 (fun q10 ad11 g12 ea13 eg14 => ?_)
  have ha15 : zAt ad11 (i + 1) q10 := up_s ea13
  have hg16 := up_s eg14
  have ha17 : zAt ad11 (i) (a) := up_n ea13 ha (ne_o (i := i) (c := 0) (d := 1) rfl)
  have hg18 := up_n eg14 hg9 (ne_o (i := i) (c := 0) (d := 1) rfl)
  refine z_putF (fs' := [.int (zI (0)), .int (zI (0)), .int (zI (0)), .ref q10, .null, .null, .null, .null, .null]) C (lt_o (i := i) (c := 0) (d := 2) rfl) ha17 hg18 tyX5 tyX5_ok nmX5 rfl inA_X5 3 (by decide) q_96 rfl rfl hnm rfl rfl rfl (Nat.le_of_ble_eq_true rfl) rfl dX5_init_23 (fun g19 eg20 => ?_)
  have hg21 := up_s eg20
  refine z_aload_n C 0 dX5_init_26 rfl ?_
  refine z_iconst (z := 4) C dX5_init_27 rfl ?_
  refine z_newI C 4 rfl q_134 (by decide) (by decide) (by decide) dX5_init_28 (fun q22 ad23 g24 ea25 eg26 => ?_)
  have ha27 : zAt ad23 (i + 1 + 1) q22 := up_s ea25
  have hg28 := up_s eg26
  have ha29 : zAt ad23 (i) (a) := up_n ea25 ha17 (ne_o (i := i) (c := 0) (d := 2) rfl)
  have hg30 := up_n eg26 hg21 (ne_o (i := i) (c := 0) (d := 2) rfl)
  refine z_putF (fs' := [.int (zI (0)), .int (zI (0)), .int (zI (0)), .ref q10, .ref q22, .null, .null, .null, .null]) C (lt_o (i := i) (c := 0) (d := 3) rfl) ha29 hg30 tyX5 tyX5_ok nmX5 rfl inA_X5 4 (by decide) q_100 rfl rfl hnm rfl rfl rfl (Nat.le_of_ble_eq_true rfl) rfl dX5_init_30 (fun g31 eg32 => ?_)
  have hg33 := up_s eg32
  refine z_aload_n C 0 dX5_init_33 rfl ?_
  refine z_bipush (z := 24) C dX5_init_34 (by decide) ?_
  refine z_newI C 24 rfl q_134 (by decide) (by decide) (by decide) dX5_init_36 (fun q34 ad35 g36 ea37 eg38 => ?_)
  have ha39 : zAt ad35 (i + 1 + 1 + 1) q34 := up_s ea37
  have hg40 := up_s eg38
  have ha41 : zAt ad35 (i) (a) := up_n ea37 ha29 (ne_o (i := i) (c := 0) (d := 3) rfl)
  have hg42 := up_n eg38 hg33 (ne_o (i := i) (c := 0) (d := 3) rfl)
  refine z_putF (fs' := [.int (zI (0)), .int (zI (0)), .int (zI (0)), .ref q10, .ref q22, .ref q34, .null, .null, .null]) C (lt_o (i := i) (c := 0) (d := 4) rfl) ha41 hg42 tyX5 tyX5_ok nmX5 rfl inA_X5 5 (by decide) q_104 rfl rfl hnm rfl rfl rfl (Nat.le_of_ble_eq_true rfl) rfl dX5_init_38 (fun g43 eg44 => ?_)
  have hg45 := up_s eg44
  refine z_aload_n C 0 dX5_init_41 rfl ?_
  refine z_bipush (z := 24) C dX5_init_42 (by decide) ?_
  refine z_newI C 24 rfl q_134 (by decide) (by decide) (by decide) dX5_init_44 (fun q46 ad47 g48 ea49 eg50 => ?_)
  have ha51 : zAt ad47 (i + 1 + 1 + 1 + 1) q46 := up_s ea49
  have hg52 := up_s eg50
  have ha53 : zAt ad47 (i) (a) := up_n ea49 ha41 (ne_o (i := i) (c := 0) (d := 4) rfl)
  have hg54 := up_n eg50 hg45 (ne_o (i := i) (c := 0) (d := 4) rfl)
  refine z_putF (fs' := [.int (zI (0)), .int (zI (0)), .int (zI (0)), .ref q10, .ref q22, .ref q34, .ref q46, .null, .null]) C (lt_o (i := i) (c := 0) (d := 5) rfl) ha53 hg54 tyX5 tyX5_ok nmX5 rfl inA_X5 6 (by decide) q_107 rfl rfl hnm rfl rfl rfl (Nat.le_of_ble_eq_true rfl) rfl dX5_init_46 (fun g55 eg56 => ?_)
  have hg57 := up_s eg56
  refine z_aload_n C 0 dX5_init_49 rfl ?_
  refine z_bipush (z := 24) C dX5_init_50 (by decide) ?_
  refine z_newI C 24 rfl q_134 (by decide) (by decide) (by decide) dX5_init_52 (fun q58 ad59 g60 ea61 eg62 => ?_)
  have ha63 : zAt ad59 (i + 1 + 1 + 1 + 1 + 1) q58 := up_s ea61
  have hg64 := up_s eg62
  have ha65 : zAt ad59 (i) (a) := up_n ea61 ha53 (ne_o (i := i) (c := 0) (d := 5) rfl)
  have hg66 := up_n eg62 hg57 (ne_o (i := i) (c := 0) (d := 5) rfl)
  refine z_putF (fs' := [.int (zI (0)), .int (zI (0)), .int (zI (0)), .ref q10, .ref q22, .ref q34, .ref q46, .ref q58, .null]) C (lt_o (i := i) (c := 0) (d := 6) rfl) ha65 hg66 tyX5 tyX5_ok nmX5 rfl inA_X5 7 (by decide) q_110 rfl rfl hnm rfl rfl rfl (Nat.le_of_ble_eq_true rfl) rfl dX5_init_54 (fun g67 eg68 => ?_)
  have hg69 := up_s eg68
  refine z_aload_n C 0 dX5_init_57 rfl ?_
  refine z_getT C n_79 dX5_init_58 ?_
  refine z_cloneT C q_81 q_82 q_83 q_84 q_85 n_86 (by decide) (Nat.le_of_ble_eq_true rfl) (by decide) (by decide) dX5_init_61 (fun q70 ad71 g72 ea73 eg74 => ?_)
  have ha75 : zAt ad71 (i + 1 + 1 + 1 + 1 + 1 + 1) q70 := up_s ea73
  have hg76 := up_s eg74
  refine z_castI C (by omega) ha75 hg76 q_87 dX5_init_64 ?_
  have ha77 : zAt ad71 (i) (a) := up_n ea73 ha65 (ne_o (i := i) (c := 0) (d := 6) rfl)
  have hg78 := up_n eg74 hg69 (ne_o (i := i) (c := 0) (d := 6) rfl)
  refine z_putF (fs' := [.int (zI (0)), .int (zI (0)), .int (zI (0)), .ref q10, .ref q22, .ref q34, .ref q46, .ref q58, .ref q70]) C (lt_o (i := i) (c := 0) (d := 7) rfl) ha77 hg78 tyX5 tyX5_ok nmX5 rfl inA_X5 8 (by decide) q_113 rfl rfl hnm rfl rfl rfl (Nat.le_of_ble_eq_true rfl) rfl dX5_init_67 (fun g79 eg80 => ?_)
  have hg81 := up_s eg80
  have ha82 : zAt ad23 (i + 1) (q10) := up_n ea25 ha15 (ne_o (i := i) (c := 1) (d := 2) rfl)
  have ha83 : zAt ad35 (i + 1) (q10) := up_n ea37 ha82 (ne_o (i := i) (c := 1) (d := 3) rfl)
  have ha84 : zAt ad47 (i + 1) (q10) := up_n ea49 ha83 (ne_o (i := i) (c := 1) (d := 4) rfl)
  have ha85 : zAt ad59 (i + 1) (q10) := up_n ea61 ha84 (ne_o (i := i) (c := 1) (d := 5) rfl)
  have ha86 : zAt ad71 (i + 1) (q10) := up_n ea73 ha85 (ne_o (i := i) (c := 1) (d := 6) rfl)
  have ha87 : zAt ad35 (i + 1 + 1) (q22) := up_n ea37 ha27 (ne_o (i := i) (c := 2) (d := 3) rfl)
  have ha88 : zAt ad47 (i + 1 + 1) (q22) := up_n ea49 ha87 (ne_o (i := i) (c := 2) (d := 4) rfl)
  have ha89 : zAt ad59 (i + 1 + 1) (q22) := up_n ea61 ha88 (ne_o (i := i) (c := 2) (d := 5) rfl)
  have ha90 : zAt ad71 (i + 1 + 1) (q22) := up_n ea73 ha89 (ne_o (i := i) (c := 2) (d := 6) rfl)
  have ha91 : zAt ad47 (i + 1 + 1 + 1) (q34) := up_n ea49 ha39 (ne_o (i := i) (c := 3) (d := 4) rfl)
  have ha92 : zAt ad59 (i + 1 + 1 + 1) (q34) := up_n ea61 ha91 (ne_o (i := i) (c := 3) (d := 5) rfl)
  have ha93 : zAt ad71 (i + 1 + 1 + 1) (q34) := up_n ea73 ha92 (ne_o (i := i) (c := 3) (d := 6) rfl)
  have ha94 : zAt ad59 (i + 1 + 1 + 1 + 1) (q46) := up_n ea61 ha51 (ne_o (i := i) (c := 4) (d := 5) rfl)
  have ha95 : zAt ad71 (i + 1 + 1 + 1 + 1) (q46) := up_n ea73 ha94 (ne_o (i := i) (c := 4) (d := 6) rfl)
  have ha96 : zAt ad71 (i + 1 + 1 + 1 + 1 + 1) (q58) := up_n ea73 ha63 (ne_o (i := i) (c := 5) (d := 6) rfl)
  have hg97 := up_n eg20 hg16 (ne_o (i := i) (c := 1) (d := 0) rfl)
  have hg98 := up_n eg26 hg97 (ne_o (i := i) (c := 1) (d := 2) rfl)
  have hg99 := up_n eg32 hg98 (ne_o (i := i) (c := 1) (d := 0) rfl)
  have hg100 := up_n eg38 hg99 (ne_o (i := i) (c := 1) (d := 3) rfl)
  have hg101 := up_n eg44 hg100 (ne_o (i := i) (c := 1) (d := 0) rfl)
  have hg102 := up_n eg50 hg101 (ne_o (i := i) (c := 1) (d := 4) rfl)
  have hg103 := up_n eg56 hg102 (ne_o (i := i) (c := 1) (d := 0) rfl)
  have hg104 := up_n eg62 hg103 (ne_o (i := i) (c := 1) (d := 5) rfl)
  have hg105 := up_n eg68 hg104 (ne_o (i := i) (c := 1) (d := 0) rfl)
  have hg106 := up_n eg74 hg105 (ne_o (i := i) (c := 1) (d := 6) rfl)
  have hg107 := up_n eg80 hg106 (ne_o (i := i) (c := 1) (d := 0) rfl)
  have hg108 := up_n eg32 hg28 (ne_o (i := i) (c := 2) (d := 0) rfl)
  have hg109 := up_n eg38 hg108 (ne_o (i := i) (c := 2) (d := 3) rfl)
  have hg110 := up_n eg44 hg109 (ne_o (i := i) (c := 2) (d := 0) rfl)
  have hg111 := up_n eg50 hg110 (ne_o (i := i) (c := 2) (d := 4) rfl)
  have hg112 := up_n eg56 hg111 (ne_o (i := i) (c := 2) (d := 0) rfl)
  have hg113 := up_n eg62 hg112 (ne_o (i := i) (c := 2) (d := 5) rfl)
  have hg114 := up_n eg68 hg113 (ne_o (i := i) (c := 2) (d := 0) rfl)
  have hg115 := up_n eg74 hg114 (ne_o (i := i) (c := 2) (d := 6) rfl)
  have hg116 := up_n eg80 hg115 (ne_o (i := i) (c := 2) (d := 0) rfl)
  have hg117 := up_n eg44 hg40 (ne_o (i := i) (c := 3) (d := 0) rfl)
  have hg118 := up_n eg50 hg117 (ne_o (i := i) (c := 3) (d := 4) rfl)
  have hg119 := up_n eg56 hg118 (ne_o (i := i) (c := 3) (d := 0) rfl)
  have hg120 := up_n eg62 hg119 (ne_o (i := i) (c := 3) (d := 5) rfl)
  have hg121 := up_n eg68 hg120 (ne_o (i := i) (c := 3) (d := 0) rfl)
  have hg122 := up_n eg74 hg121 (ne_o (i := i) (c := 3) (d := 6) rfl)
  have hg123 := up_n eg80 hg122 (ne_o (i := i) (c := 3) (d := 0) rfl)
  have hg124 := up_n eg56 hg52 (ne_o (i := i) (c := 4) (d := 0) rfl)
  have hg125 := up_n eg62 hg124 (ne_o (i := i) (c := 4) (d := 5) rfl)
  have hg126 := up_n eg68 hg125 (ne_o (i := i) (c := 4) (d := 0) rfl)
  have hg127 := up_n eg74 hg126 (ne_o (i := i) (c := 4) (d := 6) rfl)
  have hg128 := up_n eg80 hg127 (ne_o (i := i) (c := 4) (d := 0) rfl)
  have hg129 := up_n eg68 hg64 (ne_o (i := i) (c := 5) (d := 0) rfl)
  have hg130 := up_n eg74 hg129 (ne_o (i := i) (c := 5) (d := 6) rfl)
  have hg131 := up_n eg80 hg130 (ne_o (i := i) (c := 5) (d := 0) rfl)
  have hg132 := up_n eg80 hg76 (ne_o (i := i) (c := 6) (d := 0) rfl)
  exact z_vret C hr hlk dX5_init_70 (by decide) (by decide) (⟨rfl, rfl, fun j h1 => by rw [ea73, va_up_ne _ _ (by omega)]; rw [ea61, va_up_ne _ _ (by omega)]; rw [ea49, va_up_ne _ _ (by omega)]; rw [ea37, va_up_ne _ _ (by omega)]; rw [ea25, va_up_ne _ _ (by omega)]; rw [ea13, va_up_ne _ _ (by omega)], fun j h1 h2 => by rw [eg80, va_up_ne _ _ (by omega)]; rw [eg74, va_up_ne _ _ (by omega)]; rw [eg68, va_up_ne _ _ (by omega)]; rw [eg62, va_up_ne _ _ (by omega)]; rw [eg56, va_up_ne _ _ (by omega)]; rw [eg50, va_up_ne _ _ (by omega)]; rw [eg44, va_up_ne _ _ (by omega)]; rw [eg38, va_up_ne _ _ (by omega)]; rw [eg32, va_up_ne _ _ (by omega)]; rw [eg26, va_up_ne _ _ (by omega)]; rw [eg20, va_up_ne _ _ (by omega)]; rw [eg14, va_up_ne _ _ (by omega)]; rw [eg8, va_up_ne _ _ (by omega)]; rw [eg5, va_up_ne _ _ (by omega)]; rw [eg2, va_up_ne _ _ (by omega)], by rw [← (show ad71 (i + 1) = q10 from ha86), ← (show ad71 (i + 1 + 1) = q22 from ha90), ← (show ad71 (i + 1 + 1 + 1) = q34 from ha93), ← (show ad71 (i + 1 + 1 + 1 + 1) = q46 from ha95), ← (show ad71 (i + 1 + 1 + 1 + 1 + 1) = q58 from ha96), ← (show ad71 (i + 1 + 1 + 1 + 1 + 1 + 1) = q70 from ha75)] at hg81; exact hg81, hg107, hg116, hg123, hg128, hg131, hg132⟩)

set_option maxRecDepth 100000 in
set_option maxHeartbeats 4000000 in
theorem c_X0_init (l : Launch) (D : va_G) (A : Nat → Prop) (cs : Nat → ClassId) (tt : Nat) (ad : Nat → Nat) (g : Nat → va_E) (i a : Nat) (ha : ad i = a) (hg : g i = oC 2 [.int (zI 0), .int (zI 0), .null, .null]) : zM l yX0_init cX0_init 1 none ({ frames := 1, cells := 6, slots := 4808, locals := 60 } : Room) D A cs tt (i + 1) ad g [.ref a] (rV fun N' ad' g' => N' = i + 7 ∧ (∀ j, j < i + 1 → ad' j = ad j) ∧ (∀ j, j < i + 1 → j ≠ i → g' j = g j) ∧ isGss cs ad' g' i 0 (-1) (fun _ => 0) (fun _ _ => 0)) := by
  refine z_of (by decide) (Nat.le_of_ble_eq_true rfl) ?_
  intro p e s m below meth c C hr hlk hnm
  refine z_lv (lv' := [(0, .ref a)]) [0] rfl ?_
  refine z_aload_n C 0 dX0_init_0 rfl ?_
  refine z_objInit C q_288 q_35 q_36 dX0_init_1 (Nat.le_of_ble_eq_true rfl) (Nat.le_of_ble_eq_true rfl) ?_
  refine z_aload_n C 0 dX0_init_4 rfl ?_
  refine z_iconst (z := 0) C dX0_init_5 rfl ?_
  refine z_put (fs' := [.int (zI (0)), .int (zI (0)), .null, .null]) C (lt_o (i := i) (c := 0) (d := 1) rfl) ha hg tyX0 tyX0_ok nmX0 rfl inA_X0 0 (by decide) q_291 rfl rfl rfl rfl (Nat.le_of_ble_eq_true rfl) rfl dX0_init_6 (fun g1 eg2 => ?_)
  have hg3 := up_s eg2
  refine z_aload_n C 0 dX0_init_9 rfl ?_
  refine z_iconst (z := -1) C dX0_init_10 rfl ?_
  refine z_put (fs' := [.int (zI (0)), .int (zI (-1)), .null, .null]) C (lt_o (i := i) (c := 0) (d := 1) rfl) ha hg3 tyX0 tyX0_ok nmX0 rfl inA_X0 1 (by decide) q_293 rfl rfl rfl rfl (Nat.le_of_ble_eq_true rfl) rfl dX0_init_11 (fun g4 eg5 => ?_)
  have hg6 := up_s eg5
  refine z_aload_n C 0 dX0_init_14 rfl ?_
  refine z_iconst (z := 4) C dX0_init_15 rfl ?_
  refine z_newI C 4 rfl q_134 (by decide) (by decide) (by decide) dX0_init_16 (fun q7 ad8 g9 ea10 eg11 => ?_)
  have ha12 : zAt ad8 (i + 1) q7 := up_s ea10
  have hg13 := up_s eg11
  have ha14 : zAt ad8 (i) (a) := up_n ea10 ha (ne_o (i := i) (c := 0) (d := 1) rfl)
  have hg15 := up_n eg11 hg6 (ne_o (i := i) (c := 0) (d := 1) rfl)
  refine z_putF (fs' := [.int (zI (0)), .int (zI (-1)), .ref q7, .null]) C (lt_o (i := i) (c := 0) (d := 2) rfl) ha14 hg15 tyX0 tyX0_ok nmX0 rfl inA_X0 2 (by decide) q_295 rfl rfl hnm rfl rfl rfl (Nat.le_of_ble_eq_true rfl) rfl dX0_init_18 (fun g16 eg17 => ?_)
  have hg18 := up_s eg17
  refine z_aload_n C 0 dX0_init_21 rfl ?_
  refine z_iconst (z := 4) C dX0_init_22 rfl ?_
  refine z_sipush (z := 1200) C dX0_init_23 (by decide) ?_
  refine z_mna C q_289 q_134 (by decide) (by decide) dX0_init_26 (fun q19 r20 ad21 g22 ea23 eg24 => ?_)
  have hA25 : ∀ j, j < i + 1 + 1 → ad21 j = ad8 j := fun j h1 => by rw [ea23, va_up_ne _ _ (by omega), va_up_ne _ _ (by omega), va_up_ne _ _ (by omega), va_up_ne _ _ (by omega), va_up_ne _ _ (by omega)]
  have hG26 : ∀ j, j < i + 1 + 1 → g22 j = g16 j := fun j h1 => by rw [eg24, va_up_ne _ _ (by omega), va_up_ne _ _ (by omega), va_up_ne _ _ (by omega), va_up_ne _ _ (by omega), va_up_ne _ _ (by omega)]
  have ha27 : zAt ad21 (i + 1 + 1) (q19) := by show ad21 (i + 1 + 1) = q19; rw [ea23, va_up_ne _ _ (by omega), va_up_ne _ _ (by omega), va_up_ne _ _ (by omega), va_up_ne _ _ (by omega), va_up_self]
  have hg28 := congrFun eg24 (i + 1 + 1)
  rw [va_up_ne _ _ (by omega), va_up_ne _ _ (by omega), va_up_ne _ _ (by omega), va_up_ne _ _ (by omega), va_up_self] at hg28
  have ha29 : zAt ad21 (i + 1 + 1 + 1) (r20 0) := by show ad21 (i + 1 + 1 + 1) = r20 0; rw [ea23, va_up_ne _ _ (by omega), va_up_ne _ _ (by omega), va_up_ne _ _ (by omega), va_up_self]
  have hg30 := congrFun eg24 (i + 1 + 1 + 1)
  rw [va_up_ne _ _ (by omega), va_up_ne _ _ (by omega), va_up_ne _ _ (by omega), va_up_self] at hg30
  have ha31 : zAt ad21 (i + 1 + 1 + 1 + 1) (r20 1) := by show ad21 (i + 1 + 1 + 1 + 1) = r20 1; rw [ea23, va_up_ne _ _ (by omega), va_up_ne _ _ (by omega), va_up_self]
  have hg32 := congrFun eg24 (i + 1 + 1 + 1 + 1)
  rw [va_up_ne _ _ (by omega), va_up_ne _ _ (by omega), va_up_self] at hg32
  have ha33 : zAt ad21 (i + 1 + 1 + 1 + 1 + 1) (r20 2) := by show ad21 (i + 1 + 1 + 1 + 1 + 1) = r20 2; rw [ea23, va_up_ne _ _ (by omega), va_up_self]
  have hg34 := congrFun eg24 (i + 1 + 1 + 1 + 1 + 1)
  rw [va_up_ne _ _ (by omega), va_up_self] at hg34
  have ha35 : zAt ad21 (i + 1 + 1 + 1 + 1 + 1 + 1) (r20 3) := by show ad21 (i + 1 + 1 + 1 + 1 + 1 + 1) = r20 3; rw [ea23, va_up_self]
  have hg36 := congrFun eg24 (i + 1 + 1 + 1 + 1 + 1 + 1)
  rw [va_up_self] at hg36
  have ha37 : zAt ad21 (i) (a) := (hA25 (i) (lt_o (i := i) (c := 0) (d := 2) rfl)).trans ha14
  have hg38 := (hG26 (i) (lt_o (i := i) (c := 0) (d := 2) rfl)).trans hg18
  refine z_putF (fs' := [.int (zI (0)), .int (zI (-1)), .ref q7, .ref q19]) C (lt_o (i := i) (c := 0) (d := 7) rfl) ha37 hg38 tyX0 tyX0_ok nmX0 rfl inA_X0 3 (by decide) q_297 rfl rfl hnm rfl rfl rfl (Nat.le_of_ble_eq_true rfl) rfl dX0_init_30 (fun g39 eg40 => ?_)
  have hg41 := up_s eg40
  have ha42 : zAt ad21 (i + 1) (q7) := (hA25 (i + 1) (lt_o (i := i) (c := 1) (d := 2) rfl)).trans ha12
  have hg43 := up_n eg17 hg13 (ne_o (i := i) (c := 1) (d := 0) rfl)
  have hg44 := (hG26 (i + 1) (lt_o (i := i) (c := 1) (d := 2) rfl)).trans hg43
  have hg45 := up_n eg40 hg44 (ne_o (i := i) (c := 1) (d := 0) rfl)
  have hg46 := up_n eg40 hg28 (ne_o (i := i) (c := 2) (d := 0) rfl)
  have hg47 := up_n eg40 hg30 (ne_o (i := i) (c := 3) (d := 0) rfl)
  have hg48 := up_n eg40 hg32 (ne_o (i := i) (c := 4) (d := 0) rfl)
  have hg49 := up_n eg40 hg34 (ne_o (i := i) (c := 5) (d := 0) rfl)
  have hg50 := up_n eg40 hg36 (ne_o (i := i) (c := 6) (d := 0) rfl)
  have hk4 : ∀ k, k < 4 → (fun i => if i < 4 then some (r20 i) else none) k = some (ad21 (i + 3 + k)) := by
    intro k hk
    rcases (show k = 0 ∨ k = 1 ∨ k = 2 ∨ k = 3 by omega) with rfl | rfl | rfl | rfl
    · exact congrArg some (Eq.symm ha29)
    · exact congrArg some (Eq.symm ha31)
    · exact congrArg some (Eq.symm ha33)
    · exact congrArg some (Eq.symm ha35)
  have hc4 : ∀ k, k < 4 → g39 (i + 3 + k) = iA cs 1200 (fun _ => 0) := by
    intro k hk
    rcases (show k = 0 ∨ k = 1 ∨ k = 2 ∨ k = 3 by omega) with rfl | rfl | rfl | rfl
    · exact hg47
    · exact hg48
    · exact hg49
    · exact hg50
  exact z_vret C hr hlk dX0_init_33 (by decide) (by decide) (⟨rfl, rfl, fun j h1 => by rw [hA25 _ (by omega)]; rw [ea10, va_up_ne _ _ (by omega)], fun j h1 h2 => by rw [eg40, va_up_ne _ _ (by omega)]; rw [hG26 _ (by omega)]; rw [eg17, va_up_ne _ _ (by omega)]; rw [eg11, va_up_ne _ _ (by omega)]; rw [eg5, va_up_ne _ _ (by omega)]; rw [eg2, va_up_ne _ _ (by omega)], by rw [← (show ad21 (i + 1) = q7 from ha42), ← (show ad21 (i + 1 + 1) = q19 from ha27)] at hg41; exact hg41, hg45, ⟨_, hg46, hk4⟩, hc4⟩)

set_option maxRecDepth 100000 in
set_option maxHeartbeats 4000000 in
theorem c_J5_init_d00df (l : Launch) (D : va_G) (A : Nat → Prop) (cs : Nat → ClassId) (tt : Nat) (ad : Nat → Nat) (g : Nat → va_E) (i a : Nat) (ha : ad i = a) (hg : g i = oC 1 [.null, .int (zI 0), .int (zI 0), .int (zI 0)]) : zM l yJ5_init_d00df cJ5_init_d00df 2 none ({ frames := 1, cells := 1, slots := 16, locals := 60 } : Room) D A cs tt (i + 1) ad g [.ref a, .int (zI 16)] (rV fun N' ad' g' => N' = i + 2 ∧ (∀ j, j < i + 1 → ad' j = ad j) ∧ (∀ j, j < i + 1 → j ≠ i → g' j = g j) ∧ isBld cs ad' g' i) := by
  refine z_of (by decide) (Nat.le_of_ble_eq_true rfl) ?_
  intro p e s m below meth c C hr hlk hnm
  refine z_lv (lv' := [(0, .ref a), (1, .int (zI (16)))]) [0, 1] rfl ?_
  refine z_aload_n C 0 dJ5_init_d00df_0 rfl ?_
  refine z_objInit C q_325 q_35 q_36 dJ5_init_d00df_1 (Nat.le_of_ble_eq_true rfl) (Nat.le_of_ble_eq_true rfl) ?_
  refine z_getZ C q_326 dJ5_init_d00df_4 ?_
  refine z_if_eq (tgt := 25) C dJ5_init_d00df_7 (by decide) (by omega) (fun h => absurd h (by omega)) (fun _ => ?_)
  refine z_aload_n C 0 dJ5_init_d00df_10 rfl ?_
  refine z_iload_n C 1 dJ5_init_d00df_11 rfl ?_
  refine z_newB C 16 rfl q_72 (by decide) (by decide) (by decide) dJ5_init_d00df_12 (fun q1 ad2 g3 ea4 eg5 => ?_)
  have ha6 : zAt ad2 (i + 1) q1 := up_s ea4
  have hg7 := up_s eg5
  have ha8 : zAt ad2 (i) (a) := up_n ea4 ha (ne_o (i := i) (c := 0) (d := 1) rfl)
  have hg9 := up_n eg5 hg (ne_o (i := i) (c := 0) (d := 1) rfl)
  refine z_put (fs' := [.ref q1, .int (zI (0)), .int (zI (0)), .int (zI (0))]) C (lt_o (i := i) (c := 0) (d := 2) rfl) ha8 hg9 tyJ4 tyJ4_ok nmJ4 rfl inA_J4 0 (by decide) q_335 rfl rfl rfl rfl (Nat.le_of_ble_eq_true rfl) rfl dJ5_init_d00df_14 (fun g10 eg11 => ?_)
  have hg12 := up_s eg11
  refine z_aload_n C 0 dJ5_init_d00df_17 rfl ?_
  refine z_iconst (z := 0) C dJ5_init_d00df_18 rfl ?_
  refine z_put (fs' := [.ref q1, .int (zI (0)), .int (zI (0)), .int (zI (0))]) C (lt_o (i := i) (c := 0) (d := 2) rfl) ha8 hg12 tyJ4 tyJ4_ok nmJ4 rfl inA_J4 1 (by decide) q_336 rfl rfl (by decide) rfl (Nat.le_of_ble_eq_true rfl) rfl dJ5_init_d00df_19 (fun g13 eg14 => ?_)
  have hg15 := up_s eg14
  refine z_goto (tgt := 38) C dJ5_init_d00df_22 (by decide) ?_
  have hg16 := up_n eg11 hg7 (ne_o (i := i) (c := 1) (d := 0) rfl)
  have hg17 := up_n eg14 hg16 (ne_o (i := i) (c := 1) (d := 0) rfl)
  exact z_vret C hr hlk dJ5_init_d00df_38 (by decide) (by decide) (⟨rfl, rfl, fun j h1 => by rw [ea4, va_up_ne _ _ (by omega)], fun j h1 h2 => by rw [eg14, va_up_ne _ _ (by omega)]; rw [eg11, va_up_ne _ _ (by omega)]; rw [eg5, va_up_ne _ _ (by omega)], by rw [← (show ad2 (i + 1) = q1 from ha6)] at hg15; exact hg15, hg17⟩)

set_option maxRecDepth 100000 in
set_option maxHeartbeats 4000000 in
theorem c_J4_init_da8c8 (l : Launch) (D : va_G) (A : Nat → Prop) (cs : Nat → ClassId) (tt : Nat) (ad : Nat → Nat) (g : Nat → va_E) (i a : Nat) (ha : ad i = a) (hg : g i = oC 1 [.null, .int (zI 0), .int (zI 0), .int (zI 0)]) : zM l yJ4_init_da8c8 cJ4_init_da8c8 1 none ({ frames := 2, cells := 1, slots := 16, locals := 120 } : Room) D A cs tt (i + 1) ad g [.ref a] (rV fun N' ad' g' => N' = i + 2 ∧ (∀ j, j < i + 1 → ad' j = ad j) ∧ (∀ j, j < i + 1 → j ≠ i → g' j = g j) ∧ isBld cs ad' g' i) := by
  refine z_of (by decide) (Nat.le_of_ble_eq_true rfl) ?_
  intro p e s m below meth c C hr hlk hnm
  refine z_lv (lv' := [(0, .ref a)]) [0] rfl ?_
  refine z_aload_n C 0 dJ4_init_da8c8_0 rfl ?_
  refine z_bipush (z := 16) C dJ4_init_da8c8_1 (by decide) ?_
  refine z_cI (As := [.int (zI (16))]) (rest := []) C (c_J5_init_d00df l D A cs tt _ _ i a ha hg) mi_yJ5_init_d00df q_322 rfl (by decide +kernel) (by decide) (Nat.le_of_ble_eq_true rfl) (by decide) dJ4_init_da8c8_3 rfl (kV fun M4 ad5 g6 hq7 => ?_)
  obtain ⟨rfl, hA1, hG2, hp3⟩ := hq7
  exact z_vret C hr hlk dJ4_init_da8c8_6 (by decide) (by decide) (⟨rfl, rfl, hA1, hG2, hp3⟩)

def isSt (cs : Nat → ClassId) (ad : Nat → Nat) (g : Nat → va_E) (i : Nat) : Prop := g i = oC 8 [.ref (ad (i + 1)), .ref (ad (i + 11)), .int (zI 0), .ref (ad (i + 12)), .ref (ad (i + 13)), .ref (ad (i + 17))] ∧ isWorld cs ad g (i + 1) (fun _ => 0) (fun _ => 0) (fun _ => 0) (fun _ _ => 0) ∧ (∃ b : Nat → Option Nat, g (i + 11) = rA (cs 4) 40 b ∧ ∀ k, k < 40 → b k = some (ad (i + 18 + 10 * k))) ∧ (∃ b : Nat → Option Nat, g (i + 12) = rA (cs 5) 6 b ∧ ∀ k, k < 6 → b k = some (ad (i + 418 + 3 * k))) ∧ isNotes cs ad g (i + 13) 0 (fun _ => 0) (fun _ => 0) (fun _ => 0) ∧ g (i + 17) = iA cs 3 (fun _ => 0) ∧ (∀ k, k < 40 → isWorld cs ad g (i + 18 + 10 * k) (fun _ => 0) (fun _ => 0) (fun _ => 0) (fun _ _ => 0)) ∧ ∀ k, k < 6 → isPit cs ad g (i + 418 + 3 * k) 0 0 0 0 (fun _ => 0)
theorem isSt.mv {cs : Nat → ClassId} {ad ad' : Nat → Nat} {g g' : Nat → va_E} {i : Nat} (hA : ∀ j, i ≤ j → j < i + 436 → ad' j = ad j) (hG : ∀ j, i ≤ j → j < i + 436 → g' j = g j) (h : isSt cs ad g i) : isSt cs ad' g' i := by
  obtain ⟨h1, h2, ⟨b1, h3, h4⟩, ⟨b2, h5, h6⟩, h7, h8, h9, h10⟩ := h
  refine ⟨by rw [hG _ (by omega) (by omega), hA _ (by omega) (by omega), hA _ (by omega) (by omega), hA _ (by omega) (by omega), hA _ (by omega) (by omega), hA _ (by omega) (by omega)]; exact h1, h2.mv (fun j _ _ => hA j (by omega) (by omega)) (fun j _ _ => hG j (by omega) (by omega)), ⟨b1, by rw [hG _ (by omega) (by omega)]; exact h3, fun k hk => by rw [hA _ (by omega) (by omega)]; exact h4 k hk⟩, ⟨b2, by rw [hG _ (by omega) (by omega)]; exact h5, fun k hk => by rw [hA _ (by omega) (by omega)]; exact h6 k hk⟩, h7.mv (fun j _ _ => hA j (by omega) (by omega)) (fun j _ _ => hG j (by omega) (by omega)), by rw [hG _ (by omega) (by omega)]; exact h8, fun k hk => (h9 k hk).mv (fun j _ _ => hA j (by omega) (by omega)) (fun j _ _ => hG j (by omega) (by omega)), fun k hk => (h10 k hk).mv (fun j _ _ => hA j (by omega) (by omega)) (fun j _ _ => hG j (by omega) (by omega))⟩

set_option maxRecDepth 100000 in
set_option maxHeartbeats 4000000 in
theorem c_X6_init (l : Launch) (D : va_G) (A : Nat → Prop) (cs : Nat → ClassId) (tt : Nat) (ad : Nat → Nat) (g : Nat → va_E) (i a : Nat) (ha : ad i = a) (hg : g i = oC 8 [.null, .null, .int (zI 0), .null, .null, .null]) : zM l yX6_init cX6_init 2 none ({ frames := 3, cells := 435, slots := 15336, locals := 180 } : Room) D A cs tt (i + 1) ad g [.ref a] (rV fun N' ad' g' => N' = i + 436 ∧ (∀ j, j < i + 1 → ad' j = ad j) ∧ (∀ j, j < i + 1 → j ≠ i → g' j = g j) ∧ isSt cs ad' g' i) := by
  refine z_of (by decide) (Nat.le_of_ble_eq_true rfl) ?_
  intro p e s m below meth c C hr hlk hnm
  refine z_lv (lv' := [(0, .ref a)]) [0] rfl ?_
  refine z_aload_n C 0 dX6_init_0 rfl ?_
  refine z_objInit C q_140 q_35 q_36 dX6_init_1 (Nat.le_of_ble_eq_true rfl) (Nat.le_of_ble_eq_true rfl) ?_
  refine z_aload_n C 0 dX6_init_4 rfl ?_
  refine z_new (fs := [.int (zI (0)), .int (zI (0)), .int (zI (0)), .int (zI (0)), .int (zI (0)), .int (zI (0)), .null]) (ci := 10) C tyX8 tyX8_ok rfl inA_X8 q_141 q_142 q_5 (fun j hj => by rcases (show j = 0 ∨ j = 1 ∨ j = 2 ∨ j = 3 ∨ j = 4 ∨ j = 5 ∨ j = 6 by omega) with rfl | rfl | rfl | rfl | rfl | rfl | rfl <;> rfl) (by decide) (by decide) dX6_init_5 (fun q1 ad2 g3 ea4 eg5 => ?_)
  have ha6 : zAt ad2 (i + 1) q1 := up_s ea4
  have hg7 := up_s eg5
  refine z_dup C dX6_init_8 rfl ?_
  refine z_cI (As := []) (rest := [.ref q1, .ref a]) C (c_X8_init l D A cs tt _ _ (i + 1) q1 ha6 hg7) mi_yX8_init q_143 rfl (by decide +kernel) (by decide) (Nat.le_of_ble_eq_true rfl) (by decide) dX6_init_9 rfl (kV fun M11 ad12 g13 hq14 => ?_)
  obtain ⟨rfl, hA8, hG9, hp10⟩ := hq14
  have ha15 : zAt ad2 (i) (a) := up_n ea4 ha (ne_o (i := i) (c := 0) (d := 1) rfl)
  have ha16 : zAt ad12 (i) (a) := (hA8 (i) (lt_o (i := i) (c := 0) (d := 2) rfl)).trans ha15
  have hg17 := up_n eg5 hg (ne_o (i := i) (c := 0) (d := 1) rfl)
  have hg18 := (hG9 (i) (lt_o (i := i) (c := 0) (d := 2) rfl) (ne_o (i := i) (c := 0) (d := 1) rfl)).trans hg17
  refine z_putF (fs' := [.ref q1, .null, .int (zI (0)), .null, .null, .null]) C (lt_o (i := i) (c := 0) (d := 11) rfl) ha16 hg18 tyX6 tyX6_ok nmX6 rfl inA_X6 0 (by decide) q_257 rfl rfl hnm rfl rfl rfl (Nat.le_of_ble_eq_true rfl) rfl dX6_init_12 (fun g19 eg20 => ?_)
  have hg21 := up_s eg20
  refine z_aload_n C 0 dX6_init_15 rfl ?_
  refine z_bipush (z := 40) C dX6_init_16 (by decide) ?_
  refine z_newR C 4 40 rfl rfl q_141 C.2.2.2.2.2.2.2.2.1.2.1 (by decide) (by decide) (by decide) dX6_init_18 (fun q22 ad23 g24 ea25 eg26 => ?_)
  have ha27 : zAt ad23 (i + 1 + 10) q22 := up_s ea25
  have hg28 := up_s eg26
  have ha29 : zAt ad23 (i) (a) := up_n ea25 ha16 (ne_o (i := i) (c := 0) (d := 11) rfl)
  have hg30 := up_n eg26 hg21 (ne_o (i := i) (c := 0) (d := 11) rfl)
  refine z_putF (fs' := [.ref q1, .ref q22, .int (zI (0)), .null, .null, .null]) C (lt_o (i := i) (c := 0) (d := 12) rfl) ha29 hg30 tyX6 tyX6_ok nmX6 rfl inA_X6 1 (by decide) q_259 rfl rfl hnm rfl rfl rfl (Nat.le_of_ble_eq_true rfl) rfl dX6_init_21 (fun g31 eg32 => ?_)
  have hg33 := up_s eg32
  refine z_aload_n C 0 dX6_init_24 rfl ?_
  refine z_iconst (z := 0) C dX6_init_25 rfl ?_
  refine z_put (fs' := [.ref q1, .ref q22, .int (zI (0)), .null, .null, .null]) C (lt_o (i := i) (c := 0) (d := 12) rfl) ha29 hg33 tyX6 tyX6_ok nmX6 rfl inA_X6 2 (by decide) q_260 rfl rfl rfl rfl (Nat.le_of_ble_eq_true rfl) rfl dX6_init_26 (fun g34 eg35 => ?_)
  have hg36 := up_s eg35
  refine z_aload_n C 0 dX6_init_29 rfl ?_
  refine z_bipush (z := 6) C dX6_init_30 (by decide) ?_
  refine z_newR C 5 6 rfl rfl q_208 C.2.2.2.2.2.2.2.2.1.2.2.1 (by decide) (by decide) (by decide) dX6_init_32 (fun q37 ad38 g39 ea40 eg41 => ?_)
  have ha42 : zAt ad38 (i + 1 + 10 + 1) q37 := up_s ea40
  have hg43 := up_s eg41
  have ha44 : zAt ad38 (i) (a) := up_n ea40 ha29 (ne_o (i := i) (c := 0) (d := 12) rfl)
  have hg45 := up_n eg41 hg36 (ne_o (i := i) (c := 0) (d := 12) rfl)
  refine z_putF (fs' := [.ref q1, .ref q22, .int (zI (0)), .ref q37, .null, .null]) C (lt_o (i := i) (c := 0) (d := 13) rfl) ha44 hg45 tyX6 tyX6_ok nmX6 rfl inA_X6 3 (by decide) q_262 rfl rfl hnm rfl rfl rfl (Nat.le_of_ble_eq_true rfl) rfl dX6_init_35 (fun g46 eg47 => ?_)
  have hg48 := up_s eg47
  refine z_aload_n C 0 dX6_init_38 rfl ?_
  refine z_new (fs := [.int (zI (0)), .null, .null, .null]) (ci := 4) C tyX2 tyX2_ok rfl inA_X2 q_210 q_211 q_7 (fun j hj => by rcases (show j = 0 ∨ j = 1 ∨ j = 2 ∨ j = 3 by omega) with rfl | rfl | rfl | rfl <;> rfl) (by decide) (by decide) dX6_init_39 (fun q49 ad50 g51 ea52 eg53 => ?_)
  have ha54 : zAt ad50 (i + 1 + 10 + 1 + 1) q49 := up_s ea52
  have hg55 := up_s eg53
  refine z_dup C dX6_init_42 rfl ?_
  refine z_cIN (As := []) (rest := [.ref q49, .ref a]) C (c_X2_init l D A cs tt _ _ (i + 1 + 10 + 1 + 1) q49 ha54 hg55) mi_yX2_init n_212 rfl (by decide +kernel) (by decide) (Nat.le_of_ble_eq_true rfl) (by decide) dX6_init_43 rfl (kV fun M59 ad60 g61 hq62 => ?_)
  obtain ⟨rfl, hA56, hG57, hp58⟩ := hq62
  have ha63 : zAt ad50 (i) (a) := up_n ea52 ha44 (ne_o (i := i) (c := 0) (d := 13) rfl)
  have ha64 : zAt ad60 (i) (a) := (hA56 (i) (lt_o (i := i) (c := 0) (d := 14) rfl)).trans ha63
  have hg65 := up_n eg53 hg48 (ne_o (i := i) (c := 0) (d := 13) rfl)
  have hg66 := (hG57 (i) (lt_o (i := i) (c := 0) (d := 14) rfl) (ne_o (i := i) (c := 0) (d := 13) rfl)).trans hg65
  refine z_putF (fs' := [.ref q1, .ref q22, .int (zI (0)), .ref q37, .ref q49, .null]) C (lt_o (i := i) (c := 0) (d := 17) rfl) ha64 hg66 tyX6 tyX6_ok nmX6 rfl inA_X6 4 (by decide) q_264 rfl rfl hnm rfl rfl rfl (Nat.le_of_ble_eq_true rfl) rfl dX6_init_46 (fun g67 eg68 => ?_)
  have hg69 := up_s eg68
  refine z_aload_n C 0 dX6_init_49 rfl ?_
  refine z_iconst (z := 3) C dX6_init_50 rfl ?_
  refine z_newI C 3 rfl q_134 (by decide) (by decide) (by decide) dX6_init_51 (fun q70 ad71 g72 ea73 eg74 => ?_)
  have ha75 : zAt ad71 (i + 1 + 10 + 1 + 1 + 4) q70 := up_s ea73
  have hg76 := up_s eg74
  have ha77 : zAt ad71 (i) (a) := up_n ea73 ha64 (ne_o (i := i) (c := 0) (d := 17) rfl)
  have hg78 := up_n eg74 hg69 (ne_o (i := i) (c := 0) (d := 17) rfl)
  refine z_putF (fs' := [.ref q1, .ref q22, .int (zI (0)), .ref q37, .ref q49, .ref q70]) C (lt_o (i := i) (c := 0) (d := 18) rfl) ha77 hg78 tyX6 tyX6_ok nmX6 rfl inA_X6 5 (by decide) q_266 rfl rfl hnm rfl rfl rfl (Nat.le_of_ble_eq_true rfl) rfl dX6_init_53 (fun g79 eg80 => ?_)
  have hg81 := up_s eg80
  refine z_iconst (z := 0) C dX6_init_56 rfl ?_
  refine z_istore_n (lv' := [(1, .int (zI (0))), (0, .ref a)]) C dX6_init_57 rfl (by decide) rfl ?_
  have ha83 : zAt ad12 (i + 1) (q1) := (hA8 (i + 1) (lt_o (i := i) (c := 1) (d := 2) rfl)).trans ha6
  have ha84 : zAt ad23 (i + 1) (q1) := up_n ea25 ha83 (ne_o (i := i) (c := 1) (d := 11) rfl)
  have ha85 : zAt ad38 (i + 1) (q1) := up_n ea40 ha84 (ne_o (i := i) (c := 1) (d := 12) rfl)
  have ha86 : zAt ad50 (i + 1) (q1) := up_n ea52 ha85 (ne_o (i := i) (c := 1) (d := 13) rfl)
  have ha87 : zAt ad60 (i + 1) (q1) := (hA56 (i + 1) (lt_o (i := i) (c := 1) (d := 14) rfl)).trans ha86
  have ha88 : zAt ad71 (i + 1) (q1) := up_n ea73 ha87 (ne_o (i := i) (c := 1) (d := 17) rfl)
  have ha89 : zAt ad38 (i + 1 + 10) (q22) := up_n ea40 ha27 (ne_o (i := i) (c := 11) (d := 12) rfl)
  have ha90 : zAt ad50 (i + 1 + 10) (q22) := up_n ea52 ha89 (ne_o (i := i) (c := 11) (d := 13) rfl)
  have ha91 : zAt ad60 (i + 1 + 10) (q22) := (hA56 (i + 1 + 10) (lt_o (i := i) (c := 11) (d := 14) rfl)).trans ha90
  have ha92 : zAt ad71 (i + 1 + 10) (q22) := up_n ea73 ha91 (ne_o (i := i) (c := 11) (d := 17) rfl)
  have ha93 : zAt ad50 (i + 1 + 10 + 1) (q37) := up_n ea52 ha42 (ne_o (i := i) (c := 12) (d := 13) rfl)
  have ha94 : zAt ad60 (i + 1 + 10 + 1) (q37) := (hA56 (i + 1 + 10 + 1) (lt_o (i := i) (c := 12) (d := 14) rfl)).trans ha93
  have ha95 : zAt ad71 (i + 1 + 10 + 1) (q37) := up_n ea73 ha94 (ne_o (i := i) (c := 12) (d := 17) rfl)
  have ha96 : zAt ad60 (i + 1 + 10 + 1 + 1) (q49) := (hA56 (i + 1 + 10 + 1 + 1) (lt_o (i := i) (c := 13) (d := 14) rfl)).trans ha54
  have ha97 : zAt ad71 (i + 1 + 10 + 1 + 1) (q49) := up_n ea73 ha96 (ne_o (i := i) (c := 13) (d := 17) rfl)
  have h82 : g79 i = oC 8 [.ref (ad71 (i + 1)), .ref (ad71 (i + 11)), .int (zI 0), .ref (ad71 (i + 12)), .ref (ad71 (i + 13)), .ref (ad71 (i + 17))] := by rw [← (show ad71 (i + 1) = q1 from ha88), ← (show ad71 (i + 1 + 10) = q22 from ha92), ← (show ad71 (i + 1 + 10 + 1) = q37 from ha95), ← (show ad71 (i + 1 + 10 + 1 + 1) = q49 from ha97), ← (show ad71 (i + 1 + 10 + 1 + 1 + 4) = q70 from ha75)] at hg81; exact hg81
  have hp98 := isWorld.mv (ad' := ad71) (g' := g79) (fun j h1 h2 => by rw [ea73, va_up_ne _ _ (by omega)]; rw [hA56 _ (by omega)]; rw [ea52, va_up_ne _ _ (by omega)]; rw [ea40, va_up_ne _ _ (by omega)]; rw [ea25, va_up_ne _ _ (by omega)]) (fun j h1 h2 => by rw [eg80, va_up_ne _ _ (by omega)]; rw [eg74, va_up_ne _ _ (by omega)]; rw [eg68, va_up_ne _ _ (by omega)]; rw [hG57 _ (by omega) (by omega)]; rw [eg53, va_up_ne _ _ (by omega)]; rw [eg47, va_up_ne _ _ (by omega)]; rw [eg41, va_up_ne _ _ (by omega)]; rw [eg35, va_up_ne _ _ (by omega)]; rw [eg32, va_up_ne _ _ (by omega)]; rw [eg26, va_up_ne _ _ (by omega)]; rw [eg20, va_up_ne _ _ (by omega)]) hp10
  have hp99 := isNotes.mv (ad' := ad71) (g' := g79) (fun j h1 h2 => by rw [ea73, va_up_ne _ _ (by omega)]) (fun j h1 h2 => by rw [eg80, va_up_ne _ _ (by omega)]; rw [eg74, va_up_ne _ _ (by omega)]; rw [eg68, va_up_ne _ _ (by omega)]) hp58
  have hg100 := up_n eg32 hg28 (ne_o (i := i) (c := 11) (d := 0) rfl)
  have hg101 := up_n eg35 hg100 (ne_o (i := i) (c := 11) (d := 0) rfl)
  have hg102 := up_n eg41 hg101 (ne_o (i := i) (c := 11) (d := 12) rfl)
  have hg103 := up_n eg47 hg102 (ne_o (i := i) (c := 11) (d := 0) rfl)
  have hg104 := up_n eg53 hg103 (ne_o (i := i) (c := 11) (d := 13) rfl)
  have hg105 := (hG57 (i + 1 + 10) (lt_o (i := i) (c := 11) (d := 14) rfl) (ne_o (i := i) (c := 11) (d := 13) rfl)).trans hg104
  have hg106 := up_n eg68 hg105 (ne_o (i := i) (c := 11) (d := 0) rfl)
  have hg107 := up_n eg74 hg106 (ne_o (i := i) (c := 11) (d := 17) rfl)
  have hg108 := up_n eg80 hg107 (ne_o (i := i) (c := 11) (d := 0) rfl)
  have hg109 := up_n eg47 hg43 (ne_o (i := i) (c := 12) (d := 0) rfl)
  have hg110 := up_n eg53 hg109 (ne_o (i := i) (c := 12) (d := 13) rfl)
  have hg111 := (hG57 (i + 1 + 10 + 1) (lt_o (i := i) (c := 12) (d := 14) rfl) (ne_o (i := i) (c := 12) (d := 13) rfl)).trans hg110
  have hg112 := up_n eg68 hg111 (ne_o (i := i) (c := 12) (d := 0) rfl)
  have hg113 := up_n eg74 hg112 (ne_o (i := i) (c := 12) (d := 17) rfl)
  have hg114 := up_n eg80 hg113 (ne_o (i := i) (c := 12) (d := 0) rfl)
  have hg115 := up_n eg80 hg76 (ne_o (i := i) (c := 17) (d := 0) rfl)
  have hadf : ∀ j, j < i + 1 → ad71 j = ad j := fun j h1 => by rw [ea73, va_up_ne _ _ (by omega)]; rw [hA56 _ (by omega)]; rw [ea52, va_up_ne _ _ (by omega)]; rw [ea40, va_up_ne _ _ (by omega)]; rw [ea25, va_up_ne _ _ (by omega)]; rw [hA8 _ (by omega)]; rw [ea4, va_up_ne _ _ (by omega)]
  have hgf : ∀ j, j < i → g79 j = g j := fun j h1 => by rw [eg80, va_up_ne _ _ (by omega)]; rw [eg74, va_up_ne _ _ (by omega)]; rw [eg68, va_up_ne _ _ (by omega)]; rw [hG57 _ (by omega) (by omega)]; rw [eg53, va_up_ne _ _ (by omega)]; rw [eg47, va_up_ne _ _ (by omega)]; rw [eg41, va_up_ne _ _ (by omega)]; rw [eg35, va_up_ne _ _ (by omega)]; rw [eg32, va_up_ne _ _ (by omega)]; rw [eg26, va_up_ne _ _ (by omega)]; rw [eg20, va_up_ne _ _ (by omega)]; rw [hG9 _ (by omega) (by omega)]; rw [eg5, va_up_ne _ _ (by omega)]
  have loop2 : ∀ (n kk : Nat) (ad1 : Nat → Nat) (g1 : Nat → va_E), kk + n = 6 → (∀ j, j < i + 1 → ad1 j = ad j) → (∀ j, j < i → g1 j = g j) → g1 i = oC 8 [.ref (ad1 (i + 1)), .ref (ad1 (i + 11)), .int (zI 0), .ref (ad1 (i + 12)), .ref (ad1 (i + 13)), .ref (ad1 (i + 17))] → isWorld cs ad1 g1 (i + 1) (fun _ => 0) (fun _ => 0) (fun _ => 0) (fun _ _ => 0) → isNotes cs ad1 g1 (i + 13) 0 (fun _ => 0) (fun _ => 0) (fun _ => 0) → g1 (i + 17) = iA cs 3 (fun _ => 0) → (∃ b : Nat → Option Nat, g1 (i + 11) = rA (cs 4) 40 b ∧ ∀ k, k < 40 → b k = some (ad1 (i + 18 + 10 * k))) → (∀ k, k < 40 → isWorld cs ad1 g1 (i + 18 + 10 * k) (fun _ => 0) (fun _ => 0) (fun _ => 0) (fun _ _ => 0)) → (∃ b : Nat → Option Nat, g1 (i + 12) = rA (cs 5) 6 b ∧ ∀ k, k < kk → b k = some (ad1 (i + 418 + 3 * k))) → (∀ k, k < kk → isPit cs ad1 g1 (i + 418 + 3 * k) 0 0 0 0 (fun _ => 0)) → zV p l e ({ frames := 3, cells := 435, slots := 15336, locals := 180 } : Room) s m [Value.ref a].toArray below meth c (MQ below (zPost D A (rV fun N' ad' g' => N' = i + 436 ∧ (∀ j, j < i + 1 → ad' j = ad j) ∧ (∀ j, j < i + 1 → j ≠ i → g' j = g j) ∧ isSt cs ad' g' i)) [Value.ref a].toArray s ({ frames := 3, cells := 435, slots := 15336, locals := 180 } : Room).cells ({ frames := 3, cells := 435, slots := 15336, locals := 180 } : Room).slots A) D A 2 (i + 418 + 3 * kk) ad1 g1 (417 + 3 * kk) (14796 + 90 * kk) 88 [(1, .int (zI (kk : Int))), (0, .ref a)] [] := by
    intro n
    induction n with
    | zero =>
      intro kk ad1 g1 hkk f1 f2 f8 fw fn fr g40 gw40 g6 gw6
      have haa : zAt ad1 i a := by show ad1 i = a; rw [f1 _ (by omega)]; exact ha
      have ha116 : zAt ad1 (i + 12) (ad1 (i + 12)) := rfl
      obtain ⟨b, fb1, fb2⟩ := g6
      refine z_iload_n C 0 dX6_init_88 rfl ?_
      refine z_aload_n C 1 dX6_init_89 rfl ?_
      refine z_get (v := .ref (ad1 (i + 12))) C (by omega) haa f8 rfl inA_X6 3 (by decide) q_262 rfl rfl dX6_init_90 ?_
      refine z_alen (z := 6) C (by omega) ha116 fb1 5 rfl rfl dX6_init_93 ?_
      have hkk : kk = 6 := by omega
      subst hkk
      refine z_icmp_ge (tgt := 116) C dX6_init_94 (by decide) (by omega) (by omega) (fun _ => ?_) (fun h => absurd h (by omega))
      exact z_vret C hr hlk dX6_init_116 (by decide) (by decide) (⟨rfl, rfl, f1, fun j h1 h2 => f2 j (by omega), f8, fw, g40, ⟨b, fb1, fb2⟩, fn, fr, gw40, gw6⟩)
    | succ n ih =>
      intro kk ad1 g1 hkk f1 f2 f8 fw fn fr g40 gw40 g6 gw6
      have haa : zAt ad1 i a := by show ad1 i = a; rw [f1 _ (by omega)]; exact ha
      have ha117 : zAt ad1 (i + 12) (ad1 (i + 12)) := rfl
      obtain ⟨b, fb1, fb2⟩ := g6
      refine z_iload_n C 0 dX6_init_88 rfl ?_
      refine z_aload_n C 1 dX6_init_89 rfl ?_
      refine z_get (v := .ref (ad1 (i + 12))) C (by omega) haa f8 rfl inA_X6 3 (by decide) q_262 rfl rfl dX6_init_90 ?_
      refine z_alen (z := 6) C (by omega) ha117 fb1 5 rfl rfl dX6_init_93 ?_
      refine z_icmp_ge (tgt := 116) C dX6_init_94 (by decide) (by omega) (by omega) (fun h => absurd h (by omega)) (fun _ => ?_)
      refine z_aload_n C 1 dX6_init_97 rfl ?_
      refine z_get (v := .ref (ad1 (i + 12))) C (by omega) haa f8 rfl inA_X6 3 (by decide) q_262 rfl rfl dX6_init_98 ?_
      refine z_iload_n C 0 dX6_init_101 rfl ?_
      refine z_new (fs := [.int (zI (0)), .int (zI (0)), .null]) (ci := 6) C tyX4 tyX4_ok rfl inA_X4 q_208 q_234 q_8 (fun j hj => by rcases (show j = 0 ∨ j = 1 ∨ j = 2 by omega) with rfl | rfl | rfl <;> rfl) (by show _ ≤ 435; omega) (by show _ ≤ 15336; omega) dX6_init_102 (fun q118 ad119 g120 ea121 eg122 => ?_)
      have ha123 : zAt ad119 (i + 418 + 3 * kk) q118 := up_s ea121
      have hg124 := up_s eg122
      refine z_dup C dX6_init_105 rfl ?_
      refine z_cIN (As := []) (rest := [.ref q118, .int (zI ((kk : Int))), .ref (ad1 (i + 12))]) C (c_X4_init l D A cs tt _ _ (i + 418 + 3 * kk) q118 ha123 hg124) mi_yX4_init n_235 rfl (by decide +kernel) (by decide) (Nat.le_of_ble_eq_true rfl) ⟨by show _ + 2 ≤ 435; omega, by show _ + 87 ≤ 15336; omega⟩ dX6_init_106 rfl (kV fun M128 ad129 g130 hq131 => ?_)
      obtain ⟨rfl, hA125, hG126, hp127⟩ := hq131
      have ha132 : zAt ad119 (i + 12) (ad1 (i + 12)) := up_n ea121 ha117 (by omega)
      have ha133 : zAt ad129 (i + 12) (ad1 (i + 12)) := (hA125 (i + 12) (by omega)).trans ha132
      have hg134 := up_n eg122 fb1 (by omega)
      have hg135 := (hG126 (i + 12) (by omega) (by omega)).trans hg134
      have ha136 : zAt ad129 (i + 418 + 3 * kk) (q118) := (hA125 (i + 418 + 3 * kk) (lt_o (i := i + 418 + 3 * kk) (c := 0) (d := 1) rfl)).trans ha123
      refine z_aast (q := (RX4, TX4, 3)) C (by omega) ha133 hg135 5 rfl (lt_o (i := i + 418 + 3 * kk) (c := 0) (d := 3) rfl) ha136 hp127.1 rfl (kk) (by omega) (by omega) (by decide) dX6_init_109 (fun g137 eg138 => ?_)
      have hg139 := up_s eg138
      refine z_iinc (z := ((kk + 1 : Nat) : Int)) (lv' := [(1, .int (zI (((kk + 1 : Nat) : Int)))), (0, .ref a)]) (j := 0) C dX6_init_110 rfl (congrArg zI (by omega)) (by decide) rfl ?_
      refine z_goto (tgt := 88) C dX6_init_113 (by decide) ?_
      have hp140 := isPit.mv (ad' := ad129) (g' := g137) (fun j h1 h2 => by rfl) (fun j h1 h2 => by rw [eg138, va_up_ne _ _ (by omega)]) hp127
      have f1' : ∀ j, j < i + 1 → ad129 j = ad j := fun j h1 => by rw [hA125 _ (by omega)]; rw [ea121, va_up_ne _ _ (by omega)]; exact f1 j h1
      have f2' : ∀ j, j < i → g137 j = g j := fun j h1 => by rw [eg138, va_up_ne _ _ (by omega)]; rw [hG126 _ (by omega) (by omega)]; rw [eg122, va_up_ne _ _ (by omega)]; exact f2 j h1
      have hA9 : ∀ j, j < i + 418 + 3 * kk → ad129 j = ad1 j := fun j h1 => by rw [hA125 _ (by omega)]; rw [ea121, va_up_ne _ _ (by omega)]
      have hG9 : ∀ j, j < i + 418 + 3 * kk → j ≠ i + 12 → g137 j = g1 j := fun j h1 h2 => by rw [eg138, va_up_ne _ _ (by omega)]; rw [hG126 _ (by omega) (by omega)]; rw [eg122, va_up_ne _ _ (by omega)]
      have f8' : g137 i = oC 8 [.ref (ad129 (i + 1)), .ref (ad129 (i + 11)), .int (zI 0), .ref (ad129 (i + 12)), .ref (ad129 (i + 13)), .ref (ad129 (i + 17))] := by rw [hG9 _ (by omega) (by omega), hA9 _ (by omega), hA9 _ (by omega), hA9 _ (by omega), hA9 _ (by omega), hA9 _ (by omega)]; exact f8
      have fb' : ∀ k, k < kk + 1 → (va_up (b) (kk) (some q118)) k = some (ad129 (i + 418 + 3 * k)) := by
        intro k hk
        by_cases e9 : k = kk
        · subst e9; rw [va_up_self]; exact congrArg some (Eq.symm ha136)
        · rw [va_up_ne _ _ e9, hA9 _ (by omega)]; exact fb2 k (by omega)
      have fw' : ∀ k, k < kk + 1 → isPit cs ad129 g137 (i + 418 + 3 * k) 0 0 0 0 (fun _ => 0) := by
        intro k hk
        by_cases e9 : k = kk
        · subst e9; exact hp140
        · exact (gw6 k (by omega)).mv (fun j h1 h2 => hA9 j (by omega)) (fun j h1 h2 => hG9 j (by omega) (by omega))
      have e9 : i + 418 + 3 * kk + 3 = i + 418 + 3 * (kk + 1) := by omega
      rw [e9]
      refine z_widen (k2 := 417 + 3 * (kk + 1)) (n2 := 14796 + 90 * (kk + 1)) (by show 417 + 3 * kk + 1 + 2 ≤ _; omega) (by show 14796 + 90 * kk + 3 + 87 ≤ _; omega) ?_
      refine ih (kk + 1) ad129 g137 (by omega) f1' f2' f8' (fw.mv (fun j h1 h2 => hA9 j (by omega)) (fun j h1 h2 => hG9 j (by omega) (by omega))) (fn.mv (fun j h1 h2 => hA9 j (by omega)) (fun j h1 h2 => hG9 j (by omega) (by omega))) (by rw [hG9 _ (by omega) (by omega)]; exact fr) ?_ (fun k hk => (gw40 k hk).mv (fun j h1 h2 => hA9 j (by omega)) (fun j h1 h2 => hG9 j (by omega) (by omega))) ⟨_, hg139, fb'⟩ fw'
      obtain ⟨b4, q1, q2⟩ := g40
      exact ⟨b4, by rw [hG9 _ (by omega) (by omega)]; exact q1, fun k hk => by rw [hA9 _ (by omega)]; exact q2 k hk⟩
  have loop1 : ∀ (n kk : Nat) (ad1 : Nat → Nat) (g1 : Nat → va_E), kk + n = 40 → (∀ j, j < i + 1 → ad1 j = ad j) → (∀ j, j < i → g1 j = g j) → g1 i = oC 8 [.ref (ad1 (i + 1)), .ref (ad1 (i + 11)), .int (zI 0), .ref (ad1 (i + 12)), .ref (ad1 (i + 13)), .ref (ad1 (i + 17))] → isWorld cs ad1 g1 (i + 1) (fun _ => 0) (fun _ => 0) (fun _ => 0) (fun _ _ => 0) → isNotes cs ad1 g1 (i + 13) 0 (fun _ => 0) (fun _ => 0) (fun _ => 0) → g1 (i + 17) = iA cs 3 (fun _ => 0) → g1 (i + 12) = rA (cs 5) 6 (fun _ => none) → (∃ b : Nat → Option Nat, g1 (i + 11) = rA (cs 4) 40 b ∧ ∀ k, k < kk → b k = some (ad1 (i + 18 + 10 * k))) → (∀ k, k < kk → isWorld cs ad1 g1 (i + 18 + 10 * k) (fun _ => 0) (fun _ => 0) (fun _ => 0) (fun _ _ => 0)) → zV p l e ({ frames := 3, cells := 435, slots := 15336, locals := 180 } : Room) s m [Value.ref a].toArray below meth c (MQ below (zPost D A (rV fun N' ad' g' => N' = i + 436 ∧ (∀ j, j < i + 1 → ad' j = ad j) ∧ (∀ j, j < i + 1 → j ≠ i → g' j = g j) ∧ isSt cs ad' g' i)) [Value.ref a].toArray s ({ frames := 3, cells := 435, slots := 15336, locals := 180 } : Room).cells ({ frames := 3, cells := 435, slots := 15336, locals := 180 } : Room).slots A) D A 2 (i + 18 + 10 * kk) ad1 g1 (17 + 10 * kk) (436 + 359 * kk) 58 [(1, .int (zI (kk : Int))), (0, .ref a)] [] := by
    intro n
    induction n with
    | zero =>
      intro kk ad1 g1 hkk f1 f2 f8 fw fn fr gp g40 gw40
      have haa : zAt ad1 i a := by show ad1 i = a; rw [f1 _ (by omega)]; exact ha
      have ha141 : zAt ad1 (i + 11) (ad1 (i + 11)) := rfl
      obtain ⟨b, fb1, fb2⟩ := g40
      refine z_iload_n C 0 dX6_init_58 rfl ?_
      refine z_aload_n C 1 dX6_init_59 rfl ?_
      refine z_get (v := .ref (ad1 (i + 11))) C (by omega) haa f8 rfl inA_X6 1 (by decide) q_259 rfl rfl dX6_init_60 ?_
      refine z_alen (z := 40) C (by omega) ha141 fb1 4 rfl rfl dX6_init_63 ?_
      have hkk : kk = 40 := by omega
      subst hkk
      refine z_icmp_ge (tgt := 86) C dX6_init_64 (by decide) (by omega) (by omega) (fun _ => ?_) (fun h => absurd h (by omega))
      refine z_iconst (z := 0) C dX6_init_86 rfl ?_
      refine z_istore_n (lv' := [(1, .int (zI (0))), (0, .ref a)]) C dX6_init_87 rfl (by decide) rfl ?_
      refine z_lv (lv' := [(1, .int (zI ((0 : Nat) : Int))), (0, .ref a)]) [0, 1] rfl ?_
      refine z_widen (k2 := 417 + 3 * 0) (n2 := 14796 + 90 * 0) (by decide) (by decide) ?_
      exact loop2 6 0 ad1 g1 rfl f1 f2 f8 fw fn fr ⟨b, fb1, fb2⟩ gw40 ⟨_, gp, fun k hk => absurd hk (Nat.not_lt_zero k)⟩ (fun k hk => absurd hk (Nat.not_lt_zero k))
    | succ n ih =>
      intro kk ad1 g1 hkk f1 f2 f8 fw fn fr gp g40 gw40
      have haa : zAt ad1 i a := by show ad1 i = a; rw [f1 _ (by omega)]; exact ha
      have ha142 : zAt ad1 (i + 11) (ad1 (i + 11)) := rfl
      obtain ⟨b, fb1, fb2⟩ := g40
      refine z_iload_n C 0 dX6_init_58 rfl ?_
      refine z_aload_n C 1 dX6_init_59 rfl ?_
      refine z_get (v := .ref (ad1 (i + 11))) C (by omega) haa f8 rfl inA_X6 1 (by decide) q_259 rfl rfl dX6_init_60 ?_
      refine z_alen (z := 40) C (by omega) ha142 fb1 4 rfl rfl dX6_init_63 ?_
      refine z_icmp_ge (tgt := 86) C dX6_init_64 (by decide) (by omega) (by omega) (fun h => absurd h (by omega)) (fun _ => ?_)
      refine z_aload_n C 1 dX6_init_67 rfl ?_
      refine z_get (v := .ref (ad1 (i + 11))) C (by omega) haa f8 rfl inA_X6 1 (by decide) q_259 rfl rfl dX6_init_68 ?_
      refine z_iload_n C 0 dX6_init_71 rfl ?_
      refine z_new (fs := [.int (zI (0)), .int (zI (0)), .int (zI (0)), .int (zI (0)), .int (zI (0)), .int (zI (0)), .null]) (ci := 10) C tyX8 tyX8_ok rfl inA_X8 q_141 q_142 q_5 (fun j hj => by rcases (show j = 0 ∨ j = 1 ∨ j = 2 ∨ j = 3 ∨ j = 4 ∨ j = 5 ∨ j = 6 by omega) with rfl | rfl | rfl | rfl | rfl | rfl | rfl <;> rfl) (by show _ ≤ 435; omega) (by show _ ≤ 15336; omega) dX6_init_72 (fun q143 ad144 g145 ea146 eg147 => ?_)
      have ha148 : zAt ad144 (i + 18 + 10 * kk) q143 := up_s ea146
      have hg149 := up_s eg147
      refine z_dup C dX6_init_75 rfl ?_
      refine z_cI (As := []) (rest := [.ref q143, .int (zI ((kk : Int))), .ref (ad1 (i + 11))]) C (c_X8_init l D A cs tt _ _ (i + 18 + 10 * kk) q143 ha148 hg149) mi_yX8_init q_143 rfl (by decide +kernel) (by decide) (Nat.le_of_ble_eq_true rfl) ⟨by show _ + 9 ≤ 435; omega, by show _ + 352 ≤ 15336; omega⟩ dX6_init_76 rfl (kV fun M153 ad154 g155 hq156 => ?_)
      obtain ⟨rfl, hA150, hG151, hp152⟩ := hq156
      have ha157 : zAt ad144 (i + 11) (ad1 (i + 11)) := up_n ea146 ha142 (by omega)
      have ha158 : zAt ad154 (i + 11) (ad1 (i + 11)) := (hA150 (i + 11) (by omega)).trans ha157
      have hg159 := up_n eg147 fb1 (by omega)
      have hg160 := (hG151 (i + 11) (by omega) (by omega)).trans hg159
      have ha161 : zAt ad154 (i + 18 + 10 * kk) (q143) := (hA150 (i + 18 + 10 * kk) (lt_o (i := i + 18 + 10 * kk) (c := 0) (d := 1) rfl)).trans ha148
      refine z_aast (q := (RX8, TX8, 7)) C (by omega) ha158 hg160 4 rfl (lt_o (i := i + 18 + 10 * kk) (c := 0) (d := 10) rfl) ha161 hp152.1 rfl (kk) (by omega) (by omega) (by decide) dX6_init_79 (fun g162 eg163 => ?_)
      have hg164 := up_s eg163
      refine z_iinc (z := ((kk + 1 : Nat) : Int)) (lv' := [(1, .int (zI (((kk + 1 : Nat) : Int)))), (0, .ref a)]) (j := 0) C dX6_init_80 rfl (congrArg zI (by omega)) (by decide) rfl ?_
      refine z_goto (tgt := 58) C dX6_init_83 (by decide) ?_
      have hp165 := isWorld.mv (ad' := ad154) (g' := g162) (fun j h1 h2 => by rfl) (fun j h1 h2 => by rw [eg163, va_up_ne _ _ (by omega)]) hp152
      have f1' : ∀ j, j < i + 1 → ad154 j = ad j := fun j h1 => by rw [hA150 _ (by omega)]; rw [ea146, va_up_ne _ _ (by omega)]; exact f1 j h1
      have f2' : ∀ j, j < i → g162 j = g j := fun j h1 => by rw [eg163, va_up_ne _ _ (by omega)]; rw [hG151 _ (by omega) (by omega)]; rw [eg147, va_up_ne _ _ (by omega)]; exact f2 j h1
      have hA9 : ∀ j, j < i + 18 + 10 * kk → ad154 j = ad1 j := fun j h1 => by rw [hA150 _ (by omega)]; rw [ea146, va_up_ne _ _ (by omega)]
      have hG9 : ∀ j, j < i + 18 + 10 * kk → j ≠ i + 11 → g162 j = g1 j := fun j h1 h2 => by rw [eg163, va_up_ne _ _ (by omega)]; rw [hG151 _ (by omega) (by omega)]; rw [eg147, va_up_ne _ _ (by omega)]
      have f8' : g162 i = oC 8 [.ref (ad154 (i + 1)), .ref (ad154 (i + 11)), .int (zI 0), .ref (ad154 (i + 12)), .ref (ad154 (i + 13)), .ref (ad154 (i + 17))] := by rw [hG9 _ (by omega) (by omega), hA9 _ (by omega), hA9 _ (by omega), hA9 _ (by omega), hA9 _ (by omega), hA9 _ (by omega)]; exact f8
      have fb' : ∀ k, k < kk + 1 → (va_up (b) (kk) (some q143)) k = some (ad154 (i + 18 + 10 * k)) := by
        intro k hk
        by_cases e9 : k = kk
        · subst e9; rw [va_up_self]; exact congrArg some (Eq.symm ha161)
        · rw [va_up_ne _ _ e9, hA9 _ (by omega)]; exact fb2 k (by omega)
      have fw' : ∀ k, k < kk + 1 → isWorld cs ad154 g162 (i + 18 + 10 * k) (fun _ => 0) (fun _ => 0) (fun _ => 0) (fun _ _ => 0) := by
        intro k hk
        by_cases e9 : k = kk
        · subst e9; exact hp165
        · exact (gw40 k (by omega)).mv (fun j h1 h2 => hA9 j (by omega)) (fun j h1 h2 => hG9 j (by omega) (by omega))
      have e9 : i + 18 + 10 * kk + 10 = i + 18 + 10 * (kk + 1) := by omega
      rw [e9]
      refine z_widen (k2 := 17 + 10 * (kk + 1)) (n2 := 436 + 359 * (kk + 1)) (by show 17 + 10 * kk + 1 + 9 ≤ _; omega) (by show 436 + 359 * kk + 7 + 352 ≤ _; omega) ?_
      exact ih (kk + 1) ad154 g162 (by omega) f1' f2' f8' (fw.mv (fun j h1 h2 => hA9 j (by omega)) (fun j h1 h2 => hG9 j (by omega) (by omega))) (fn.mv (fun j h1 h2 => hA9 j (by omega)) (fun j h1 h2 => hG9 j (by omega) (by omega))) (by rw [hG9 _ (by omega) (by omega)]; exact fr) (by rw [hG9 _ (by omega) (by omega)]; exact gp) ⟨_, hg164, fb'⟩ fw'
  refine z_lv (lv' := [(1, .int (zI ((0 : Nat) : Int))), (0, .ref a)]) [0, 1] rfl ?_
  refine z_widen (k2 := 17 + 10 * 0) (n2 := 436 + 359 * 0) (by decide) (by decide) ?_
  exact loop1 40 0 ad71 g79 rfl hadf hgf h82 hp98 hp99 hg115 hg114 ⟨_, hg108, fun k hk => absurd hk (Nat.not_lt_zero k)⟩ (fun k hk => absurd hk (Nat.not_lt_zero k))

