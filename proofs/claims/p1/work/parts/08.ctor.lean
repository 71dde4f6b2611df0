def isPack (cs : Nat → ClassId) (ad : Nat → Nat) (g : Nat → va_E) (i : Nat) (sz ro : Int) (r : Nat → Int) : Prop := g i = oC 5 [.int (zI sz), .int (zI ro), .ref (ad (i + 1))] ∧ g (i + 1) = iA cs 84 r
def isWorld (cs : Nat → ClassId) (ad : Nat → Nat) (g : Nat → va_E) (i : Nat) (t : Nat → Int) (sz ro : Nat → Int) (r : Nat → Nat → Int) : Prop := g i = oC 10 [.int (zI (t 0)), .int (zI (t 1)), .int (zI (t 2)), .int (zI (t 3)), .int (zI (t 4)), .int (zI (t 5)), .ref (ad (i + 1))] ∧ (∃ a : Nat → Option Nat, g (i + 1) = rA (cs 3) 4 a ∧ ∀ k, k < 4 → a k = some (ad (i + 2 + 2 * k))) ∧ ∀ k, k < 4 → isPack cs ad g (i + 2 + 2 * k) (sz k) (ro k) (r k)

set_option maxRecDepth 100000 in
set_option maxHeartbeats 4000000 in
theorem c_X3_init (l : Launch) (D : va_G) (A : Nat → Prop) (cs : Nat → ClassId) (tt : Nat) (N : Nat) (ad : Nat → Nat) (g : Nat → va_E) (i a : Nat) (hi : i < N) (ha : ad i = a) (hg : g i = oC 5 [.int (zI 0), .int (zI 0), .null]) : zM l yX3_init cX3_init 1 none ({ frames := 1, cells := 1, slots := 84, locals := 60 } : Room) D A cs tt N ad g [.ref a] (rV fun N' ad' g' => N' = N + 1 ∧ (∀ j, j < N → ad' j = ad j) ∧ (∀ j, j < N → j ≠ i → g' j = g j) ∧ g' i = oC 5 [.int (zI 0), .int (zI 0), .ref (ad' N)] ∧ g' N = iA cs 84 (fun _ => 0)) := by
  refine z_of (by decide) (Nat.le_of_ble_eq_true rfl) ?_
  intro p e s m below meth c C hr hlk hnm
  refine z_lv (lv' := [(0, .ref a)]) [0] rfl ?_
  refine z_aload_n C 0 dX3_init_0 rfl ?_
  refine z_objInit C q_153 q_35 q_36 dX3_init_1 (Nat.le_of_ble_eq_true rfl) (Nat.le_of_ble_eq_true rfl) ?_
  refine z_aload_n C 0 dX3_init_4 rfl ?_
  refine z_iconst (z := 0) C dX3_init_5 rfl ?_
  refine z_put (fs' := [.int (zI (0)), .int (zI (0)), .null]) C (by omega) ha hg tyX3 tyX3_ok nmX3 rfl inA_X3 0 (by decide) q_154 rfl rfl rfl rfl (Nat.le_of_ble_eq_true rfl) rfl dX3_init_6 (fun g1 eg2 => ?_)
  have hg3 := up_s eg2
  refine z_aload_n C 0 dX3_init_9 rfl ?_
  refine z_iconst (z := 0) C dX3_init_10 rfl ?_
  refine z_put (fs' := [.int (zI (0)), .int (zI (0)), .null]) C (by omega) ha hg3 tyX3 tyX3_ok nmX3 rfl inA_X3 1 (by decide) q_159 rfl rfl rfl rfl (Nat.le_of_ble_eq_true rfl) rfl dX3_init_11 (fun g4 eg5 => ?_)
  have hg6 := up_s eg5
  refine z_aload_n C 0 dX3_init_14 rfl ?_
  refine z_bipush (z := 84) C dX3_init_15 (by decide) ?_
  refine z_newI C 84 rfl q_134 (by decide) (by decide) (by decide) dX3_init_17 (fun q7 ad8 g9 ea10 eg11 => ?_)
  have ha12 := up_s ea10
  have hg13 := up_s eg11
  have ha14 := up_n ea10 ha (by omega)
  have hg15 := up_n eg11 hg6 (by omega)
  refine z_putF (fs' := [.int (zI (0)), .int (zI (0)), .ref q7]) C (by omega) ha14 hg15 tyX3 tyX3_ok nmX3 rfl inA_X3 2 (by decide) q_162 rfl rfl hnm rfl rfl rfl (Nat.le_of_ble_eq_true rfl) rfl dX3_init_19 (fun g16 eg17 => ?_)
  have hg18 := up_s eg17
  have hg19 := up_n eg17 hg13 (by omega)
  exact z_vret C hr hlk dX3_init_22 (by decide) (by decide) (⟨rfl, rfl, fun j h1 => by rw [ea10, va_up_ne _ _ (by omega)], fun j h1 h2 => by rw [eg17, va_up_ne _ _ (by omega)]; rw [eg11, va_up_ne _ _ (by omega)]; rw [eg5, va_up_ne _ _ (by omega)]; rw [eg2, va_up_ne _ _ (by omega)], by rw [ha12]; exact hg18, hg19⟩)

set_option maxRecDepth 100000 in
set_option maxHeartbeats 4000000 in
theorem c_X8_init (l : Launch) (D : va_G) (A : Nat → Prop) (cs : Nat → ClassId) (tt : Nat) (ad : Nat → Nat) (g : Nat → va_E) (i a : Nat) (ha : ad i = a) (hg : g i = oC 10 [.int (zI 0), .int (zI 0), .int (zI 0), .int (zI 0), .int (zI 0), .int (zI 0), .null]) : zM l yX8_init cX8_init 2 none ({ frames := 2, cells := 9, slots := 352, locals := 120 } : Room) D A cs tt (i + 1) ad g [.ref a] (rV fun N' ad' g' => N' = i + 10 ∧ (∀ j, j < i + 1 → ad' j = ad j) ∧ (∀ j, j < i + 1 → j ≠ i → g' j = g j) ∧ isWorld cs ad' g' i (fun _ => 0) (fun _ => 0) (fun _ => 0) (fun _ _ => 0)) := by
  refine z_of (by decide) (Nat.le_of_ble_eq_true rfl) ?_
  intro p e s m below meth c C hr hlk hnm
  refine z_lv (lv' := [(0, .ref a)]) [0] rfl ?_
  refine z_aload_n C 0 dX8_init_0 rfl ?_
  refine z_objInit C q_146 q_35 q_36 dX8_init_1 (Nat.le_of_ble_eq_true rfl) (Nat.le_of_ble_eq_true rfl) ?_
  refine z_aload_n C 0 dX8_init_4 rfl ?_
  refine z_iconst (z := 0) C dX8_init_5 rfl ?_
  refine z_put (fs' := [.int (zI (0)), .int (zI (0)), .int (zI (0)), .int (zI (0)), .int (zI (0)), .int (zI (0)), .null]) C (by omega) ha hg tyX8 tyX8_ok nmX8 rfl inA_X8 0 (by decide) q_173 rfl rfl rfl rfl (Nat.le_of_ble_eq_true rfl) rfl dX8_init_6 (fun g1 eg2 => ?_)
  have hg3 := up_s eg2
  refine z_aload_n C 0 dX8_init_9 rfl ?_
  refine z_iconst (z := 0) C dX8_init_10 rfl ?_
  refine z_put (fs' := [.int (zI (0)), .int (zI (0)), .int (zI (0)), .int (zI (0)), .int (zI (0)), .int (zI (0)), .null]) C (by omega) ha hg3 tyX8 tyX8_ok nmX8 rfl inA_X8 1 (by decide) q_176 rfl rfl rfl rfl (Nat.le_of_ble_eq_true rfl) rfl dX8_init_11 (fun g4 eg5 => ?_)
  have hg6 := up_s eg5
  refine z_aload_n C 0 dX8_init_14 rfl ?_
  refine z_iconst (z := 0) C dX8_init_15 rfl ?_
  refine z_put (fs' := [.int (zI (0)), .int (zI (0)), .int (zI (0)), .int (zI (0)), .int (zI (0)), .int (zI (0)), .null]) C (by omega) ha hg6 tyX8 tyX8_ok nmX8 rfl inA_X8 2 (by decide) q_179 rfl rfl rfl rfl (Nat.le_of_ble_eq_true rfl) rfl dX8_init_16 (fun g7 eg8 => ?_)
  have hg9 := up_s eg8
  refine z_aload_n C 0 dX8_init_19 rfl ?_
  refine z_iconst (z := 0) C dX8_init_20 rfl ?_
  refine z_put (fs' := [.int (zI (0)), .int (zI (0)), .int (zI (0)), .int (zI (0)), .int (zI (0)), .int (zI (0)), .null]) C (by omega) ha hg9 tyX8 tyX8_ok nmX8 rfl inA_X8 3 (by decide) q_181 rfl rfl rfl rfl (Nat.le_of_ble_eq_true rfl) rfl dX8_init_21 (fun g10 eg11 => ?_)
  have hg12 := up_s eg11
  refine z_aload_n C 0 dX8_init_24 rfl ?_
  refine z_iconst (z := 0) C dX8_init_25 rfl ?_
  refine z_put (fs' := [.int (zI (0)), .int (zI (0)), .int (zI (0)), .int (zI (0)), .int (zI (0)), .int (zI (0)), .null]) C (by omega) ha hg12 tyX8 tyX8_ok nmX8 rfl inA_X8 4 (by decide) q_183 rfl rfl rfl rfl (Nat.le_of_ble_eq_true rfl) rfl dX8_init_26 (fun g13 eg14 => ?_)
  have hg15 := up_s eg14
  refine z_aload_n C 0 dX8_init_29 rfl ?_
  refine z_iconst (z := 0) C dX8_init_30 rfl ?_
  refine z_put (fs' := [.int (zI (0)), .int (zI (0)), .int (zI (0)), .int (zI (0)), .int (zI (0)), .int (zI (0)), .null]) C (by omega) ha hg15 tyX8 tyX8_ok nmX8 rfl inA_X8 5 (by decide) q_185 rfl rfl rfl rfl (Nat.le_of_ble_eq_true rfl) rfl dX8_init_31 (fun g16 eg17 => ?_)
  have hg18 := up_s eg17
  refine z_aload_n C 0 dX8_init_34 rfl ?_
  refine z_iconst (z := 4) C dX8_init_35 rfl ?_
  refine z_newR C 3 4 rfl rfl q_147 C.2.2.2.2.2.2.2.2.1.1 (by decide) (by decide) (by decide) dX8_init_36 (fun q19 ad20 g21 ea22 eg23 => ?_)
  have ha24 := up_s ea22
  have hg25 := up_s eg23
  have ha26 := up_n ea22 ha (by omega)
  have hg27 := up_n eg23 hg18 (by omega)
  refine z_putF (fs' := [.int (zI (0)), .int (zI (0)), .int (zI (0)), .int (zI (0)), .int (zI (0)), .int (zI (0)), .ref q19]) C (by omega) ha26 hg27 tyX8 tyX8_ok nmX8 rfl inA_X8 6 (by decide) q_188 rfl rfl hnm rfl rfl rfl (Nat.le_of_ble_eq_true rfl) rfl dX8_init_39 (fun g28 eg29 => ?_)
  have hg30 := up_s eg29
  refine z_iconst (z := 0) C dX8_init_42 rfl ?_
  refine z_istore_n (lv' := [(1, .int (zI (0))), (0, .ref a)]) C dX8_init_43 rfl (by decide) rfl ?_
  refine z_iload_n C 0 dX8_init_44 rfl ?_
  refine z_aload_n C 1 dX8_init_45 rfl ?_
  refine z_get (v := .ref q19) C (by omega) ha26 hg30 rfl inA_X8 6 (by decide) q_188 rfl rfl dX8_init_46 ?_
  have hg31 := up_n eg29 hg25 (by omega)
  refine z_alen (z := 4) C (by omega) ha24 hg31 3 rfl rfl dX8_init_49 ?_
  refine z_icmp_ge (tgt := 72) C dX8_init_50 (by decide) (by omega) (by omega) (fun h => absurd h (by omega)) (fun _ => ?_)
  refine z_aload_n C 1 dX8_init_53 rfl ?_
  refine z_get (v := .ref q19) C (by omega) ha26 hg30 rfl inA_X8 6 (by decide) q_188 rfl rfl dX8_init_54 ?_
  refine z_iload_n C 0 dX8_init_57 rfl ?_
  refine z_new (fs := [.int (zI (0)), .int (zI (0)), .null]) (ci := 5) C tyX3 tyX3_ok rfl inA_X3 q_147 q_149 q_6 (fun j hj => by rcases (show j = 0 ∨ j = 1 ∨ j = 2 by omega) with rfl | rfl | rfl <;> rfl) (by decide) (by decide) dX8_init_58 (fun q32 ad33 g34 ea35 eg36 => ?_)
  have ha37 := up_s ea35
  have hg38 := up_s eg36
  refine z_dup C dX8_init_61 rfl ?_
  refine z_cIN (As := []) (rest := [.ref q32, .int (zI (0)), .ref q19]) C (c_X3_init l D A cs tt _ _ _ (i + 1 + 1) q32 (by omega) ha37 hg38) mi_yX3_init n_150 rfl (by decide +kernel) (by decide) (Nat.le_of_ble_eq_true rfl) (by decide) dX8_init_62 rfl (kV fun M43 ad44 g45 hq46 => ?_)
  obtain ⟨rfl, hA39, hG40, hg41, hg42⟩ := hq46
  have ha47 : ad44 (i + 1 + 1 + 1) = ad44 (i + 1 + 1 + 1) := rfl
  have ha48 := up_n ea35 ha24 (by omega)
  have ha49 := (hA39 (i + 1) (by omega)).trans ha48
  have hg50 := up_n eg36 hg31 (by omega)
  have hg51 := (hG40 (i + 1) (by omega) (by omega)).trans hg50
  have ha52 := (hA39 (i + 1 + 1) (by omega)).trans ha37
  refine z_aast (q := (RX3, TX3, 3)) C (by omega) ha49 hg51 3 rfl (by omega) ha52 hg41 rfl (0) (by omega) (by omega) (by decide) dX8_init_65 (fun g53 eg54 => ?_)
  have hg55 := up_s eg54
  refine z_iinc (z := 1) (lv' := [(1, .int (zI (1))), (0, .ref a)]) (j := 0) C dX8_init_66 rfl (congrArg zI (by omega)) (by decide) rfl ?_
  refine z_goto (tgt := 44) C dX8_init_69 (by decide) ?_
  refine z_iload_n C 0 dX8_init_44 rfl ?_
  refine z_aload_n C 1 dX8_init_45 rfl ?_
  have ha56 := up_n ea35 ha26 (by omega)
  have ha57 := (hA39 (i) (by omega)).trans ha56
  have hg58 := up_n eg36 hg30 (by omega)
  have hg59 := (hG40 (i) (by omega) (by omega)).trans hg58
  have hg60 := up_n eg54 hg59 (by omega)
  refine z_get (v := .ref q19) C (by omega) ha57 hg60 rfl inA_X8 6 (by decide) q_188 rfl rfl dX8_init_46 ?_
  refine z_alen (z := 4) C (by omega) ha49 hg55 3 rfl rfl dX8_init_49 ?_
  refine z_icmp_ge (tgt := 72) C dX8_init_50 (by decide) (by omega) (by omega) (fun h => absurd h (by omega)) (fun _ => ?_)
  refine z_aload_n C 1 dX8_init_53 rfl ?_
  refine z_get (v := .ref q19) C (by omega) ha57 hg60 rfl inA_X8 6 (by decide) q_188 rfl rfl dX8_init_54 ?_
  refine z_iload_n C 0 dX8_init_57 rfl ?_
  refine z_new (fs := [.int (zI (0)), .int (zI (0)), .null]) (ci := 5) C tyX3 tyX3_ok rfl inA_X3 q_147 q_149 q_6 (fun j hj => by rcases (show j = 0 ∨ j = 1 ∨ j = 2 by omega) with rfl | rfl | rfl <;> rfl) (by decide) (by decide) dX8_init_58 (fun q61 ad62 g63 ea64 eg65 => ?_)
  have ha66 := up_s ea64
  have hg67 := up_s eg65
  refine z_dup C dX8_init_61 rfl ?_
  refine z_cIN (As := []) (rest := [.ref q61, .int (zI (1)), .ref q19]) C (c_X3_init l D A cs tt _ _ _ (i + 1 + 1 + 1 + 1) q61 (by omega) ha66 hg67) mi_yX3_init n_150 rfl (by decide +kernel) (by decide) (Nat.le_of_ble_eq_true rfl) (by decide) dX8_init_62 rfl (kV fun M72 ad73 g74 hq75 => ?_)
  obtain ⟨rfl, hA68, hG69, hg70, hg71⟩ := hq75
  have ha76 : ad73 (i + 1 + 1 + 1 + 1 + 1) = ad73 (i + 1 + 1 + 1 + 1 + 1) := rfl
  have ha77 := up_n ea64 ha49 (by omega)
  have ha78 := (hA68 (i + 1) (by omega)).trans ha77
  have hg79 := up_n eg65 hg55 (by omega)
  have hg80 := (hG69 (i + 1) (by omega) (by omega)).trans hg79
  have ha81 := (hA68 (i + 1 + 1 + 1 + 1) (by omega)).trans ha66
  refine z_aast (q := (RX3, TX3, 3)) C (by omega) ha78 hg80 3 rfl (by omega) ha81 hg70 rfl (1) (by omega) (by omega) (by decide) dX8_init_65 (fun g82 eg83 => ?_)
  have hg84 := up_s eg83
  refine z_iinc (z := 2) (lv' := [(1, .int (zI (2))), (0, .ref a)]) (j := 0) C dX8_init_66 rfl (congrArg zI (by omega)) (by decide) rfl ?_
  refine z_goto (tgt := 44) C dX8_init_69 (by decide) ?_
  refine z_iload_n C 0 dX8_init_44 rfl ?_
  refine z_aload_n C 1 dX8_init_45 rfl ?_
  have ha85 := up_n ea64 ha57 (by omega)
  have ha86 := (hA68 (i) (by omega)).trans ha85
  have hg87 := up_n eg65 hg60 (by omega)
  have hg88 := (hG69 (i) (by omega) (by omega)).trans hg87
  have hg89 := up_n eg83 hg88 (by omega)
  refine z_get (v := .ref q19) C (by omega) ha86 hg89 rfl inA_X8 6 (by decide) q_188 rfl rfl dX8_init_46 ?_
  refine z_alen (z := 4) C (by omega) ha78 hg84 3 rfl rfl dX8_init_49 ?_
  refine z_icmp_ge (tgt := 72) C dX8_init_50 (by decide) (by omega) (by omega) (fun h => absurd h (by omega)) (fun _ => ?_)
  refine z_aload_n C 1 dX8_init_53 rfl ?_
  refine z_get (v := .ref q19) C (by omega) ha86 hg89 rfl inA_X8 6 (by decide) q_188 rfl rfl dX8_init_54 ?_
  refine z_iload_n C 0 dX8_init_57 rfl ?_
  refine z_new (fs := [.int (zI (0)), .int (zI (0)), .null]) (ci := 5) C tyX3 tyX3_ok rfl inA_X3 q_147 q_149 q_6 (fun j hj => by rcases (show j = 0 ∨ j = 1 ∨ j = 2 by omega) with rfl | rfl | rfl <;> rfl) (by decide) (by decide) dX8_init_58 (fun q90 ad91 g92 ea93 eg94 => ?_)
  have ha95 := up_s ea93
  have hg96 := up_s eg94
  refine z_dup C dX8_init_61 rfl ?_
  refine z_cIN (As := []) (rest := [.ref q90, .int (zI (2)), .ref q19]) C (c_X3_init l D A cs tt _ _ _ (i + 1 + 1 + 1 + 1 + 1 + 1) q90 (by omega) ha95 hg96) mi_yX3_init n_150 rfl (by decide +kernel) (by decide) (Nat.le_of_ble_eq_true rfl) (by decide) dX8_init_62 rfl (kV fun M101 ad102 g103 hq104 => ?_)
  obtain ⟨rfl, hA97, hG98, hg99, hg100⟩ := hq104
  have ha105 : ad102 (i + 1 + 1 + 1 + 1 + 1 + 1 + 1) = ad102 (i + 1 + 1 + 1 + 1 + 1 + 1 + 1) := rfl
  have ha106 := up_n ea93 ha78 (by omega)
  have ha107 := (hA97 (i + 1) (by omega)).trans ha106
  have hg108 := up_n eg94 hg84 (by omega)
  have hg109 := (hG98 (i + 1) (by omega) (by omega)).trans hg108
  have ha110 := (hA97 (i + 1 + 1 + 1 + 1 + 1 + 1) (by omega)).trans ha95
  refine z_aast (q := (RX3, TX3, 3)) C (by omega) ha107 hg109 3 rfl (by omega) ha110 hg99 rfl (2) (by omega) (by omega) (by decide) dX8_init_65 (fun g111 eg112 => ?_)
  have hg113 := up_s eg112
  refine z_iinc (z := 3) (lv' := [(1, .int (zI (3))), (0, .ref a)]) (j := 0) C dX8_init_66 rfl (congrArg zI (by omega)) (by decide) rfl ?_
  refine z_goto (tgt := 44) C dX8_init_69 (by decide) ?_
  refine z_iload_n C 0 dX8_init_44 rfl ?_
  refine z_aload_n C 1 dX8_init_45 rfl ?_
  have ha114 := up_n ea93 ha86 (by omega)
  have ha115 := (hA97 (i) (by omega)).trans ha114
  have hg116 := up_n eg94 hg89 (by omega)
  have hg117 := (hG98 (i) (by omega) (by omega)).trans hg116
  have hg118 := up_n eg112 hg117 (by omega)
  refine z_get (v := .ref q19) C (by omega) ha115 hg118 rfl inA_X8 6 (by decide) q_188 rfl rfl dX8_init_46 ?_
  refine z_alen (z := 4) C (by omega) ha107 hg113 3 rfl rfl dX8_init_49 ?_
  refine z_icmp_ge (tgt := 72) C dX8_init_50 (by decide) (by omega) (by omega) (fun h => absurd h (by omega)) (fun _ => ?_)
  refine z_aload_n C 1 dX8_init_53 rfl ?_
  refine z_get (v := .ref q19) C (by omega) ha115 hg118 rfl inA_X8 6 (by decide) q_188 rfl rfl dX8_init_54 ?_
  refine z_iload_n C 0 dX8_init_57 rfl ?_
  refine z_new (fs := [.int (zI (0)), .int (zI (0)), .null]) (ci := 5) C tyX3 tyX3_ok rfl inA_X3 q_147 q_149 q_6 (fun j hj => by rcases (show j = 0 ∨ j = 1 ∨ j = 2 by omega) with rfl | rfl | rfl <;> rfl) (by decide) (by decide) dX8_init_58 (fun q119 ad120 g121 ea122 eg123 => ?_)
  have ha124 := up_s ea122
  have hg125 := up_s eg123
  refine z_dup C dX8_init_61 rfl ?_
  refine z_cIN (As := []) (rest := [.ref q119, .int (zI (3)), .ref q19]) C (c_X3_init l D A cs tt _ _ _ (i + 1 + 1 + 1 + 1 + 1 + 1 + 1 + 1) q119 (by omega) ha124 hg125) mi_yX3_init n_150 rfl (by decide +kernel) (by decide) (Nat.le_of_ble_eq_true rfl) (by decide) dX8_init_62 rfl (kV fun M130 ad131 g132 hq133 => ?_)
  obtain ⟨rfl, hA126, hG127, hg128, hg129⟩ := hq133
  have ha134 : ad131 (i + 1 + 1 + 1 + 1 + 1 + 1 + 1 + 1 + 1) = ad131 (i + 1 + 1 + 1 + 1 + 1 + 1 + 1 + 1 + 1) := rfl
  have ha135 := up_n ea122 ha107 (by omega)
  have ha136 := (hA126 (i + 1) (by omega)).trans ha135
  have hg137 := up_n eg123 hg113 (by omega)
  have hg138 := (hG127 (i + 1) (by omega) (by omega)).trans hg137
  have ha139 := (hA126 (i + 1 + 1 + 1 + 1 + 1 + 1 + 1 + 1) (by omega)).trans ha124
  refine z_aast (q := (RX3, TX3, 3)) C (by omega) ha136 hg138 3 rfl (by omega) ha139 hg128 rfl (3) (by omega) (by omega) (by decide) dX8_init_65 (fun g140 eg141 => ?_)
  have hg142 := up_s eg141
  refine z_iinc (z := 4) (lv' := [(1, .int (zI (4))), (0, .ref a)]) (j := 0) C dX8_init_66 rfl (congrArg zI (by omega)) (by decide) rfl ?_
  refine z_goto (tgt := 44) C dX8_init_69 (by decide) ?_
  refine z_iload_n C 0 dX8_init_44 rfl ?_
  refine z_aload_n C 1 dX8_init_45 rfl ?_
  have ha143 := up_n ea122 ha115 (by omega)
  have ha144 := (hA126 (i) (by omega)).trans ha143
  have hg145 := up_n eg123 hg118 (by omega)
  have hg146 := (hG127 (i) (by omega) (by omega)).trans hg145
  have hg147 := up_n eg141 hg146 (by omega)
  refine z_get (v := .ref q19) C (by omega) ha144 hg147 rfl inA_X8 6 (by decide) q_188 rfl rfl dX8_init_46 ?_
  refine z_alen (z := 4) C (by omega) ha136 hg142 3 rfl rfl dX8_init_49 ?_
  refine z_icmp_ge (tgt := 72) C dX8_init_50 (by decide) (by omega) (by omega) (fun _ => ?_) (fun h => absurd h (by omega))
  have ha148 := up_n ea64 ha52 (by omega)
  have ha149 := (hA68 (i + 1 + 1) (by omega)).trans ha148
  have ha150 := up_n ea93 ha149 (by omega)
  have ha151 := (hA97 (i + 1 + 1) (by omega)).trans ha150
  have ha152 := up_n ea122 ha151 (by omega)
  have ha153 := (hA126 (i + 1 + 1) (by omega)).trans ha152
  have hg154 := up_n eg54 hg41 (by omega)
  have hg155 := up_n eg65 hg154 (by omega)
  have hg156 := (hG69 (i + 1 + 1) (by omega) (by omega)).trans hg155
  have hg157 := up_n eg83 hg156 (by omega)
  have hg158 := up_n eg94 hg157 (by omega)
  have hg159 := (hG98 (i + 1 + 1) (by omega) (by omega)).trans hg158
  have hg160 := up_n eg112 hg159 (by omega)
  have hg161 := up_n eg123 hg160 (by omega)
  have hg162 := (hG127 (i + 1 + 1) (by omega) (by omega)).trans hg161
  have hg163 := up_n eg141 hg162 (by omega)
  have ha164 := up_n ea64 ha47 (by omega)
  have ha165 := (hA68 (i + 1 + 1 + 1) (by omega)).trans ha164
  have ha166 := up_n ea93 ha165 (by omega)
  have ha167 := (hA97 (i + 1 + 1 + 1) (by omega)).trans ha166
  have ha168 := up_n ea122 ha167 (by omega)
  have ha169 := (hA126 (i + 1 + 1 + 1) (by omega)).trans ha168
  have hg170 := up_n eg54 hg42 (by omega)
  have hg171 := up_n eg65 hg170 (by omega)
  have hg172 := (hG69 (i + 1 + 1 + 1) (by omega) (by omega)).trans hg171
  have hg173 := up_n eg83 hg172 (by omega)
  have hg174 := up_n eg94 hg173 (by omega)
  have hg175 := (hG98 (i + 1 + 1 + 1) (by omega) (by omega)).trans hg174
  have hg176 := up_n eg112 hg175 (by omega)
  have hg177 := up_n eg123 hg176 (by omega)
  have hg178 := (hG127 (i + 1 + 1 + 1) (by omega) (by omega)).trans hg177
  have hg179 := up_n eg141 hg178 (by omega)
  have ha180 := up_n ea93 ha81 (by omega)
  have ha181 := (hA97 (i + 1 + 1 + 1 + 1) (by omega)).trans ha180
  have ha182 := up_n ea122 ha181 (by omega)
  have ha183 := (hA126 (i + 1 + 1 + 1 + 1) (by omega)).trans ha182
  have hg184 := up_n eg83 hg70 (by omega)
  have hg185 := up_n eg94 hg184 (by omega)
  have hg186 := (hG98 (i + 1 + 1 + 1 + 1) (by omega) (by omega)).trans hg185
  have hg187 := up_n eg112 hg186 (by omega)
  have hg188 := up_n eg123 hg187 (by omega)
  have hg189 := (hG127 (i + 1 + 1 + 1 + 1) (by omega) (by omega)).trans hg188
  have hg190 := up_n eg141 hg189 (by omega)
  have ha191 := up_n ea93 ha76 (by omega)
  have ha192 := (hA97 (i + 1 + 1 + 1 + 1 + 1) (by omega)).trans ha191
  have ha193 := up_n ea122 ha192 (by omega)
  have ha194 := (hA126 (i + 1 + 1 + 1 + 1 + 1) (by omega)).trans ha193
  have hg195 := up_n eg83 hg71 (by omega)
  have hg196 := up_n eg94 hg195 (by omega)
  have hg197 := (hG98 (i + 1 + 1 + 1 + 1 + 1) (by omega) (by omega)).trans hg196
  have hg198 := up_n eg112 hg197 (by omega)
  have hg199 := up_n eg123 hg198 (by omega)
  have hg200 := (hG127 (i + 1 + 1 + 1 + 1 + 1) (by omega) (by omega)).trans hg199
  have hg201 := up_n eg141 hg200 (by omega)
  have ha202 := up_n ea122 ha110 (by omega)
  have ha203 := (hA126 (i + 1 + 1 + 1 + 1 + 1 + 1) (by omega)).trans ha202
  have hg204 := up_n eg112 hg99 (by omega)
  have hg205 := up_n eg123 hg204 (by omega)
  have hg206 := (hG127 (i + 1 + 1 + 1 + 1 + 1 + 1) (by omega) (by omega)).trans hg205
  have hg207 := up_n eg141 hg206 (by omega)
  have ha208 := up_n ea122 ha105 (by omega)
  have ha209 := (hA126 (i + 1 + 1 + 1 + 1 + 1 + 1 + 1) (by omega)).trans ha208
  have hg210 := up_n eg112 hg100 (by omega)
  have hg211 := up_n eg123 hg210 (by omega)
  have hg212 := (hG127 (i + 1 + 1 + 1 + 1 + 1 + 1 + 1) (by omega) (by omega)).trans hg211
  have hg213 := up_n eg141 hg212 (by omega)
  have hg214 := up_n eg141 hg128 (by omega)
  have hg215 := up_n eg141 hg129 (by omega)
  have hr4 : ∀ k, k < 4 → (va_up (va_up (va_up (va_up (fun _ => none) (0) (some q32)) (1) (some q61)) (2) (some q90)) (3) (some q119)) k = some (ad131 (i + 2 + 2 * k)) := by
    intro k hk
    rcases (show k = 0 ∨ k = 1 ∨ k = 2 ∨ k = 3 by omega) with rfl | rfl | rfl | rfl
    · exact congrArg some (Eq.symm ha153)
    · exact congrArg some (Eq.symm ha183)
    · exact congrArg some (Eq.symm ha203)
    · exact congrArg some (Eq.symm ha139)
  have hp4 : ∀ k, k < 4 → isPack cs ad131 g140 (i + 2 + 2 * k) 0 0 (fun _ => 0) := by
    intro k hk
    rcases (show k = 0 ∨ k = 1 ∨ k = 2 ∨ k = 3 by omega) with rfl | rfl | rfl | rfl
    · exact ⟨by rw [← ha169] at hg163; exact hg163, hg179⟩
    · exact ⟨by rw [← ha194] at hg190; exact hg190, hg201⟩
    · exact ⟨by rw [← ha209] at hg207; exact hg207, hg213⟩
    · exact ⟨by rw [← ha134] at hg214; exact hg214, hg215⟩
  exact z_vret C hr hlk dX8_init_72 (by decide) (by decide) (⟨rfl, rfl, fun j h1 => by rw [hA126 _ (by omega)]; rw [ea122, va_up_ne _ _ (by omega)]; rw [hA97 _ (by omega)]; rw [ea93, va_up_ne _ _ (by omega)]; rw [hA68 _ (by omega)]; rw [ea64, va_up_ne _ _ (by omega)]; rw [hA39 _ (by omega)]; rw [ea35, va_up_ne _ _ (by omega)]; rw [ea22, va_up_ne _ _ (by omega)], fun j h1 h2 => by rw [eg141, va_up_ne _ _ (by omega)]; rw [hG127 _ (by omega) (by omega)]; rw [eg123, va_up_ne _ _ (by omega)]; rw [eg112, va_up_ne _ _ (by omega)]; rw [hG98 _ (by omega) (by omega)]; rw [eg94, va_up_ne _ _ (by omega)]; rw [eg83, va_up_ne _ _ (by omega)]; rw [hG69 _ (by omega) (by omega)]; rw [eg65, va_up_ne _ _ (by omega)]; rw [eg54, va_up_ne _ _ (by omega)]; rw [hG40 _ (by omega) (by omega)]; rw [eg36, va_up_ne _ _ (by omega)]; rw [eg29, va_up_ne _ _ (by omega)]; rw [eg23, va_up_ne _ _ (by omega)]; rw [eg17, va_up_ne _ _ (by omega)]; rw [eg14, va_up_ne _ _ (by omega)]; rw [eg11, va_up_ne _ _ (by omega)]; rw [eg8, va_up_ne _ _ (by omega)]; rw [eg5, va_up_ne _ _ (by omega)]; rw [eg2, va_up_ne _ _ (by omega)], by rw [← ha136] at hg147; exact hg147, ⟨_, hg142, hr4⟩, hp4⟩)

