section
-- 46.run.lean.txt
set_option maxRecDepth 100000 in
set_option maxHeartbeats 4000000 in
theorem c_X5_copyFrom (l : Launch) (D : va_G) (A : Nat → Prop) (cs : Nat → ClassId) (tt : Nat) (N : Nat) (ad : Nat → Nat) (g : Nat → va_E) (b : Nat) (hNb : b + 7 ≤ N) (sl ho ua : Int) (st op ai fa mu tb : Nat → Int) (hb : isPlan cs ad g b sl ho ua st op ai fa mu tb) (b2 : Nat) (hNb2 : b2 + 7 ≤ N) (sl2 ho2 ua2 : Int) (st2 op2 ai2 fa2 mu2 tb2 : Nat → Int) (hb2 : isPlan cs ad g b2 sl2 ho2 ua2 st2 op2 ai2 fa2 mu2 tb2) (hbb : b + 7 ≤ b2 ∨ b2 + 7 ≤ b) : zM l yX5_copyFrom cX5_copyFrom 2 none ({ frames := 1, cells := 0, slots := 0, locals := 60 } : Room) D A cs tt N ad g [.ref (ad b), .ref (ad b2)] (rV0 N ad fun g' => isPlan cs ad g' b sl2 ho2 ua2 st2 op2 ai2 fa2 mu2 tb2 ∧ ∀ j, j < b ∨ b + 7 ≤ j → g' j = g j) := by
  have hay1 : zAt ad (b) (ad b) := rfl
  have hay2 : zAt ad (b + 1) (ad (b + 1)) := rfl
  have hay3 : zAt ad (b + 2) (ad (b + 2)) := rfl
  have hay4 : zAt ad (b + 3) (ad (b + 3)) := rfl
  have hay5 : zAt ad (b + 4) (ad (b + 4)) := rfl
  have hay6 : zAt ad (b + 5) (ad (b + 5)) := rfl
  have hay7 : zAt ad (b + 6) (ad (b + 6)) := rfl
  have hay8 : zAt ad (b2) (ad b2) := rfl
  have hay9 : zAt ad (b2 + 1) (ad (b2 + 1)) := rfl
  have hay10 : zAt ad (b2 + 2) (ad (b2 + 2)) := rfl
  have hay11 : zAt ad (b2 + 3) (ad (b2 + 3)) := rfl
  have hay12 : zAt ad (b2 + 4) (ad (b2 + 4)) := rfl
  have hay13 : zAt ad (b2 + 5) (ad (b2 + 5)) := rfl
  have hay14 : zAt ad (b2 + 6) (ad (b2 + 6)) := rfl
  refine z_of (by decide) (Nat.le_of_ble_eq_true rfl) ?_
  intro p e s m below meth c C hr hlk hnm
  refine z_lv (lv' := [(0, .ref (ad b)), (1, .ref (ad b2))]) [0, 1] rfl ?_
  refine z_aload_n C 0 dX5_copyFrom_0 rfl ?_
  refine z_aload_n C 1 dX5_copyFrom_1 rfl ?_
  refine z_get (v := .int (zI (sl2))) C (by omega) hay8 hb2.1 rfl inA_X5 0 (by decide) q_88 rfl rfl dX5_copyFrom_2 ?_
  refine z_put (fs' := [.int (zI (sl2)), .int (zI (ho)), .int (zI (ua)), .ref (ad (b + 1)), .ref (ad (b + 2)), .ref (ad (b + 3)), .ref (ad (b + 4)), .ref (ad (b + 5)), .ref (ad (b + 6))]) C (by omega) hay1 hb.1 tyX5 tyX5_ok nmX5 rfl inA_X5 0 (by decide) q_88 rfl rfl rfl rfl (Nat.le_of_ble_eq_true rfl) rfl dX5_copyFrom_5 (fun gy15 egy16 => ?_)
  have hgy17 := up_s egy16
  refine z_aload_n C 0 dX5_copyFrom_8 rfl ?_
  refine z_aload_n C 1 dX5_copyFrom_9 rfl ?_
  have hgy18 := up_n egy16 hb2.1 (by omega)
  refine z_get (v := .int (zI (ho2))) C (by omega) hay8 hgy18 rfl inA_X5 1 (by decide) q_92 rfl rfl dX5_copyFrom_10 ?_
  refine z_put (fs' := [.int (zI (sl2)), .int (zI (ho2)), .int (zI (ua)), .ref (ad (b + 1)), .ref (ad (b + 2)), .ref (ad (b + 3)), .ref (ad (b + 4)), .ref (ad (b + 5)), .ref (ad (b + 6))]) C (by omega) hay1 hgy17 tyX5 tyX5_ok nmX5 rfl inA_X5 1 (by decide) q_92 rfl rfl rfl rfl (Nat.le_of_ble_eq_true rfl) rfl dX5_copyFrom_13 (fun gy19 egy20 => ?_)
  have hgy21 := up_s egy20
  refine z_aload_n C 0 dX5_copyFrom_16 rfl ?_
  refine z_aload_n C 1 dX5_copyFrom_17 rfl ?_
  have hgy22 := up_n egy20 hgy18 (by omega)
  refine z_get (v := .int (zI (ua2))) C (by omega) hay8 hgy22 rfl inA_X5 2 (by decide) q_95 rfl rfl dX5_copyFrom_18 ?_
  refine z_put (fs' := [.int (zI (sl2)), .int (zI (ho2)), .int (zI (ua2)), .ref (ad (b + 1)), .ref (ad (b + 2)), .ref (ad (b + 3)), .ref (ad (b + 4)), .ref (ad (b + 5)), .ref (ad (b + 6))]) C (by omega) hay1 hgy21 tyX5 tyX5_ok nmX5 rfl inA_X5 2 (by decide) q_95 rfl rfl rfl rfl (Nat.le_of_ble_eq_true rfl) rfl dX5_copyFrom_21 (fun gy23 egy24 => ?_)
  have hgy25 := up_s egy24
  refine z_aload_n C 1 dX5_copyFrom_24 rfl ?_
  have hgy26 := up_n egy24 hgy22 (by omega)
  refine z_get (v := .ref (ad (b2 + 1))) C (by omega) hay8 hgy26 rfl inA_X5 3 (by decide) q_96 rfl rfl dX5_copyFrom_25 ?_
  refine z_iconst (z := 0) C dX5_copyFrom_28 rfl ?_
  refine z_aload_n C 0 dX5_copyFrom_29 rfl ?_
  refine z_get (v := .ref (ad (b + 1))) C (by omega) hay1 hgy25 rfl inA_X5 3 (by decide) q_96 rfl rfl dX5_copyFrom_30 ?_
  refine z_iconst (z := 0) C dX5_copyFrom_33 rfl ?_
  refine z_aload_n C 0 dX5_copyFrom_34 rfl ?_
  refine z_get (v := .ref (ad (b + 1))) C (by omega) hay1 hgy25 rfl inA_X5 3 (by decide) q_96 rfl rfl dX5_copyFrom_35 ?_
  have hgy27 := up_n egy16 hb.2.1 (ne_o (i := b) (c := 1) (d := 0) rfl)
  have hgy28 := up_n egy20 hgy27 (ne_o (i := b) (c := 1) (d := 0) rfl)
  have hgy29 := up_n egy24 hgy28 (ne_o (i := b) (c := 1) (d := 0) rfl)
  refine z_alen (z := 4) C (by omega) hay2 hgy29 1 rfl rfl dX5_copyFrom_38 ?_
  have hgy30 := up_n egy16 hb2.2.1 (by omega)
  have hgy31 := up_n egy20 hgy30 (by omega)
  have hgy32 := up_n egy24 hgy31 (by omega)
  refine z_copyI C q_733 q_430 q_429 q_21 (by omega) (by omega) hay9 hay2 hgy32 hgy29 0 0 4 rfl rfl rfl (by decide) (by decide) (by decide) (by decide) (Nat.le_of_ble_eq_true rfl) dX5_copyFrom_39 (fun gy33 egy34 => ?_)
  have hgy35 := up_s egy34
  refine z_ext (r' := st2) (by omega) hgy35 (fun j hj => cZ_all hj) (fun gy36 egy37 => ?_)
  have hgy38 := up_s egy37
  refine z_aload_n C 1 dX5_copyFrom_42 rfl ?_
  have hgy39 := up_n egy34 hgy26 (by omega)
  have hgy40 := up_n egy37 hgy39 (by omega)
  refine z_get (v := .ref (ad (b2 + 2))) C (by omega) hay8 hgy40 rfl inA_X5 4 (by decide) q_100 rfl rfl dX5_copyFrom_43 ?_
  refine z_iconst (z := 0) C dX5_copyFrom_46 rfl ?_
  refine z_aload_n C 0 dX5_copyFrom_47 rfl ?_
  have hgy41 := up_n egy34 hgy25 (ne_o (i := b) (c := 0) (d := 1) rfl)
  have hgy42 := up_n egy37 hgy41 (ne_o (i := b) (c := 0) (d := 1) rfl)
  refine z_get (v := .ref (ad (b + 2))) C (by omega) hay1 hgy42 rfl inA_X5 4 (by decide) q_100 rfl rfl dX5_copyFrom_48 ?_
  refine z_iconst (z := 0) C dX5_copyFrom_51 rfl ?_
  refine z_aload_n C 0 dX5_copyFrom_52 rfl ?_
  refine z_get (v := .ref (ad (b + 2))) C (by omega) hay1 hgy42 rfl inA_X5 4 (by decide) q_100 rfl rfl dX5_copyFrom_53 ?_
  have hgy43 := up_n egy16 hb.2.2.1 (ne_o (i := b) (c := 2) (d := 0) rfl)
  have hgy44 := up_n egy20 hgy43 (ne_o (i := b) (c := 2) (d := 0) rfl)
  have hgy45 := up_n egy24 hgy44 (ne_o (i := b) (c := 2) (d := 0) rfl)
  have hgy46 := up_n egy34 hgy45 (ne_o (i := b) (c := 2) (d := 1) rfl)
  have hgy47 := up_n egy37 hgy46 (ne_o (i := b) (c := 2) (d := 1) rfl)
  refine z_alen (z := 4) C (by omega) hay3 hgy47 1 rfl rfl dX5_copyFrom_56 ?_
  have hgy48 := up_n egy16 hb2.2.2.1 (by omega)
  have hgy49 := up_n egy20 hgy48 (by omega)
  have hgy50 := up_n egy24 hgy49 (by omega)
  have hgy51 := up_n egy34 hgy50 (by omega)
  have hgy52 := up_n egy37 hgy51 (by omega)
  refine z_copyI C q_733 q_430 q_429 q_21 (by omega) (by omega) hay10 hay3 hgy52 hgy47 0 0 4 rfl rfl rfl (by decide) (by decide) (by decide) (by decide) (Nat.le_of_ble_eq_true rfl) dX5_copyFrom_57 (fun gy53 egy54 => ?_)
  have hgy55 := up_s egy54
  refine z_ext (r' := op2) (by omega) hgy55 (fun j hj => cZ_all hj) (fun gy56 egy57 => ?_)
  have hgy58 := up_s egy57
  refine z_aload_n C 1 dX5_copyFrom_60 rfl ?_
  have hgy59 := up_n egy54 hgy40 (by omega)
  have hgy60 := up_n egy57 hgy59 (by omega)
  refine z_get (v := .ref (ad (b2 + 3))) C (by omega) hay8 hgy60 rfl inA_X5 5 (by decide) q_104 rfl rfl dX5_copyFrom_61 ?_
  refine z_iconst (z := 0) C dX5_copyFrom_64 rfl ?_
  refine z_aload_n C 0 dX5_copyFrom_65 rfl ?_
  have hgy61 := up_n egy54 hgy42 (ne_o (i := b) (c := 0) (d := 2) rfl)
  have hgy62 := up_n egy57 hgy61 (ne_o (i := b) (c := 0) (d := 2) rfl)
  refine z_get (v := .ref (ad (b + 3))) C (by omega) hay1 hgy62 rfl inA_X5 5 (by decide) q_104 rfl rfl dX5_copyFrom_66 ?_
  refine z_iconst (z := 0) C dX5_copyFrom_69 rfl ?_
  refine z_aload_n C 0 dX5_copyFrom_70 rfl ?_
  refine z_get (v := .ref (ad (b + 3))) C (by omega) hay1 hgy62 rfl inA_X5 5 (by decide) q_104 rfl rfl dX5_copyFrom_71 ?_
  have hgy63 := up_n egy16 hb.2.2.2.1 (ne_o (i := b) (c := 3) (d := 0) rfl)
  have hgy64 := up_n egy20 hgy63 (ne_o (i := b) (c := 3) (d := 0) rfl)
  have hgy65 := up_n egy24 hgy64 (ne_o (i := b) (c := 3) (d := 0) rfl)
  have hgy66 := up_n egy34 hgy65 (ne_o (i := b) (c := 3) (d := 1) rfl)
  have hgy67 := up_n egy37 hgy66 (ne_o (i := b) (c := 3) (d := 1) rfl)
  have hgy68 := up_n egy54 hgy67 (ne_o (i := b) (c := 3) (d := 2) rfl)
  have hgy69 := up_n egy57 hgy68 (ne_o (i := b) (c := 3) (d := 2) rfl)
  refine z_alen (z := 24) C (by omega) hay4 hgy69 1 rfl rfl dX5_copyFrom_74 ?_
  have hgy70 := up_n egy16 hb2.2.2.2.1 (by omega)
  have hgy71 := up_n egy20 hgy70 (by omega)
  have hgy72 := up_n egy24 hgy71 (by omega)
  have hgy73 := up_n egy34 hgy72 (by omega)
  have hgy74 := up_n egy37 hgy73 (by omega)
  have hgy75 := up_n egy54 hgy74 (by omega)
  have hgy76 := up_n egy57 hgy75 (by omega)
  refine z_copyI C q_733 q_430 q_429 q_21 (by omega) (by omega) hay11 hay4 hgy76 hgy69 0 0 24 rfl rfl rfl (by decide) (by decide) (by decide) (by decide) (Nat.le_of_ble_eq_true rfl) dX5_copyFrom_75 (fun gy77 egy78 => ?_)
  have hgy79 := up_s egy78
  refine z_ext (r' := ai2) (by omega) hgy79 (fun j hj => cZ_all hj) (fun gy80 egy81 => ?_)
  have hgy82 := up_s egy81
  refine z_aload_n C 1 dX5_copyFrom_78 rfl ?_
  have hgy83 := up_n egy78 hgy60 (by omega)
  have hgy84 := up_n egy81 hgy83 (by omega)
  refine z_get (v := .ref (ad (b2 + 4))) C (by omega) hay8 hgy84 rfl inA_X5 6 (by decide) q_107 rfl rfl dX5_copyFrom_79 ?_
  refine z_iconst (z := 0) C dX5_copyFrom_82 rfl ?_
  refine z_aload_n C 0 dX5_copyFrom_83 rfl ?_
  have hgy85 := up_n egy78 hgy62 (ne_o (i := b) (c := 0) (d := 3) rfl)
  have hgy86 := up_n egy81 hgy85 (ne_o (i := b) (c := 0) (d := 3) rfl)
  refine z_get (v := .ref (ad (b + 4))) C (by omega) hay1 hgy86 rfl inA_X5 6 (by decide) q_107 rfl rfl dX5_copyFrom_84 ?_
  refine z_iconst (z := 0) C dX5_copyFrom_87 rfl ?_
  refine z_aload_n C 0 dX5_copyFrom_88 rfl ?_
  refine z_get (v := .ref (ad (b + 4))) C (by omega) hay1 hgy86 rfl inA_X5 6 (by decide) q_107 rfl rfl dX5_copyFrom_89 ?_
  have hgy87 := up_n egy16 hb.2.2.2.2.1 (ne_o (i := b) (c := 4) (d := 0) rfl)
  have hgy88 := up_n egy20 hgy87 (ne_o (i := b) (c := 4) (d := 0) rfl)
  have hgy89 := up_n egy24 hgy88 (ne_o (i := b) (c := 4) (d := 0) rfl)
  have hgy90 := up_n egy34 hgy89 (ne_o (i := b) (c := 4) (d := 1) rfl)
  have hgy91 := up_n egy37 hgy90 (ne_o (i := b) (c := 4) (d := 1) rfl)
  have hgy92 := up_n egy54 hgy91 (ne_o (i := b) (c := 4) (d := 2) rfl)
  have hgy93 := up_n egy57 hgy92 (ne_o (i := b) (c := 4) (d := 2) rfl)
  have hgy94 := up_n egy78 hgy93 (ne_o (i := b) (c := 4) (d := 3) rfl)
  have hgy95 := up_n egy81 hgy94 (ne_o (i := b) (c := 4) (d := 3) rfl)
  refine z_alen (z := 24) C (by omega) hay5 hgy95 1 rfl rfl dX5_copyFrom_92 ?_
  have hgy96 := up_n egy16 hb2.2.2.2.2.1 (by omega)
  have hgy97 := up_n egy20 hgy96 (by omega)
  have hgy98 := up_n egy24 hgy97 (by omega)
  have hgy99 := up_n egy34 hgy98 (by omega)
  have hgy100 := up_n egy37 hgy99 (by omega)
  have hgy101 := up_n egy54 hgy100 (by omega)
  have hgy102 := up_n egy57 hgy101 (by omega)
  have hgy103 := up_n egy78 hgy102 (by omega)
  have hgy104 := up_n egy81 hgy103 (by omega)
  refine z_copyI C q_733 q_430 q_429 q_21 (by omega) (by omega) hay12 hay5 hgy104 hgy95 0 0 24 rfl rfl rfl (by decide) (by decide) (by decide) (by decide) (Nat.le_of_ble_eq_true rfl) dX5_copyFrom_93 (fun gy105 egy106 => ?_)
  have hgy107 := up_s egy106
  refine z_ext (r' := fa2) (by omega) hgy107 (fun j hj => cZ_all hj) (fun gy108 egy109 => ?_)
  have hgy110 := up_s egy109
  refine z_aload_n C 1 dX5_copyFrom_96 rfl ?_
  have hgy111 := up_n egy106 hgy84 (by omega)
  have hgy112 := up_n egy109 hgy111 (by omega)
  refine z_get (v := .ref (ad (b2 + 5))) C (by omega) hay8 hgy112 rfl inA_X5 7 (by decide) q_110 rfl rfl dX5_copyFrom_97 ?_
  refine z_iconst (z := 0) C dX5_copyFrom_100 rfl ?_
  refine z_aload_n C 0 dX5_copyFrom_101 rfl ?_
  have hgy113 := up_n egy106 hgy86 (ne_o (i := b) (c := 0) (d := 4) rfl)
  have hgy114 := up_n egy109 hgy113 (ne_o (i := b) (c := 0) (d := 4) rfl)
  refine z_get (v := .ref (ad (b + 5))) C (by omega) hay1 hgy114 rfl inA_X5 7 (by decide) q_110 rfl rfl dX5_copyFrom_102 ?_
  refine z_iconst (z := 0) C dX5_copyFrom_105 rfl ?_
  refine z_aload_n C 0 dX5_copyFrom_106 rfl ?_
  refine z_get (v := .ref (ad (b + 5))) C (by omega) hay1 hgy114 rfl inA_X5 7 (by decide) q_110 rfl rfl dX5_copyFrom_107 ?_
  have hgy115 := up_n egy16 hb.2.2.2.2.2.1 (ne_o (i := b) (c := 5) (d := 0) rfl)
  have hgy116 := up_n egy20 hgy115 (ne_o (i := b) (c := 5) (d := 0) rfl)
  have hgy117 := up_n egy24 hgy116 (ne_o (i := b) (c := 5) (d := 0) rfl)
  have hgy118 := up_n egy34 hgy117 (ne_o (i := b) (c := 5) (d := 1) rfl)
  have hgy119 := up_n egy37 hgy118 (ne_o (i := b) (c := 5) (d := 1) rfl)
  have hgy120 := up_n egy54 hgy119 (ne_o (i := b) (c := 5) (d := 2) rfl)
  have hgy121 := up_n egy57 hgy120 (ne_o (i := b) (c := 5) (d := 2) rfl)
  have hgy122 := up_n egy78 hgy121 (ne_o (i := b) (c := 5) (d := 3) rfl)
  have hgy123 := up_n egy81 hgy122 (ne_o (i := b) (c := 5) (d := 3) rfl)
  have hgy124 := up_n egy106 hgy123 (ne_o (i := b) (c := 5) (d := 4) rfl)
  have hgy125 := up_n egy109 hgy124 (ne_o (i := b) (c := 5) (d := 4) rfl)
  refine z_alen (z := 24) C (by omega) hay6 hgy125 1 rfl rfl dX5_copyFrom_110 ?_
  have hgy126 := up_n egy16 hb2.2.2.2.2.2.1 (by omega)
  have hgy127 := up_n egy20 hgy126 (by omega)
  have hgy128 := up_n egy24 hgy127 (by omega)
  have hgy129 := up_n egy34 hgy128 (by omega)
  have hgy130 := up_n egy37 hgy129 (by omega)
  have hgy131 := up_n egy54 hgy130 (by omega)
  have hgy132 := up_n egy57 hgy131 (by omega)
  have hgy133 := up_n egy78 hgy132 (by omega)
  have hgy134 := up_n egy81 hgy133 (by omega)
  have hgy135 := up_n egy106 hgy134 (by omega)
  have hgy136 := up_n egy109 hgy135 (by omega)
  refine z_copyI C q_733 q_430 q_429 q_21 (by omega) (by omega) hay13 hay6 hgy136 hgy125 0 0 24 rfl rfl rfl (by decide) (by decide) (by decide) (by decide) (Nat.le_of_ble_eq_true rfl) dX5_copyFrom_111 (fun gy137 egy138 => ?_)
  have hgy139 := up_s egy138
  refine z_ext (r' := mu2) (by omega) hgy139 (fun j hj => cZ_all hj) (fun gy140 egy141 => ?_)
  have hgy142 := up_s egy141
  refine z_aload_n C 1 dX5_copyFrom_114 rfl ?_
  have hgy143 := up_n egy138 hgy112 (by omega)
  have hgy144 := up_n egy141 hgy143 (by omega)
  refine z_get (v := .ref (ad (b2 + 6))) C (by omega) hay8 hgy144 rfl inA_X5 8 (by decide) q_113 rfl rfl dX5_copyFrom_115 ?_
  refine z_iconst (z := 0) C dX5_copyFrom_118 rfl ?_
  refine z_aload_n C 0 dX5_copyFrom_119 rfl ?_
  have hgy145 := up_n egy138 hgy114 (ne_o (i := b) (c := 0) (d := 5) rfl)
  have hgy146 := up_n egy141 hgy145 (ne_o (i := b) (c := 0) (d := 5) rfl)
  refine z_get (v := .ref (ad (b + 6))) C (by omega) hay1 hgy146 rfl inA_X5 8 (by decide) q_113 rfl rfl dX5_copyFrom_120 ?_
  refine z_iconst (z := 0) C dX5_copyFrom_123 rfl ?_
  refine z_aload_n C 0 dX5_copyFrom_124 rfl ?_
  refine z_get (v := .ref (ad (b + 6))) C (by omega) hay1 hgy146 rfl inA_X5 8 (by decide) q_113 rfl rfl dX5_copyFrom_125 ?_
  have hgy147 := up_n egy16 hb.2.2.2.2.2.2 (ne_o (i := b) (c := 6) (d := 0) rfl)
  have hgy148 := up_n egy20 hgy147 (ne_o (i := b) (c := 6) (d := 0) rfl)
  have hgy149 := up_n egy24 hgy148 (ne_o (i := b) (c := 6) (d := 0) rfl)
  have hgy150 := up_n egy34 hgy149 (ne_o (i := b) (c := 6) (d := 1) rfl)
  have hgy151 := up_n egy37 hgy150 (ne_o (i := b) (c := 6) (d := 1) rfl)
  have hgy152 := up_n egy54 hgy151 (ne_o (i := b) (c := 6) (d := 2) rfl)
  have hgy153 := up_n egy57 hgy152 (ne_o (i := b) (c := 6) (d := 2) rfl)
  have hgy154 := up_n egy78 hgy153 (ne_o (i := b) (c := 6) (d := 3) rfl)
  have hgy155 := up_n egy81 hgy154 (ne_o (i := b) (c := 6) (d := 3) rfl)
  have hgy156 := up_n egy106 hgy155 (ne_o (i := b) (c := 6) (d := 4) rfl)
  have hgy157 := up_n egy109 hgy156 (ne_o (i := b) (c := 6) (d := 4) rfl)
  have hgy158 := up_n egy138 hgy157 (ne_o (i := b) (c := 6) (d := 5) rfl)
  have hgy159 := up_n egy141 hgy158 (ne_o (i := b) (c := 6) (d := 5) rfl)
  refine z_alen (z := 15) C (by omega) hay7 hgy159 1 rfl rfl dX5_copyFrom_128 ?_
  have hgy160 := up_n egy16 hb2.2.2.2.2.2.2 (by omega)
  have hgy161 := up_n egy20 hgy160 (by omega)
  have hgy162 := up_n egy24 hgy161 (by omega)
  have hgy163 := up_n egy34 hgy162 (by omega)
  have hgy164 := up_n egy37 hgy163 (by omega)
  have hgy165 := up_n egy54 hgy164 (by omega)
  have hgy166 := up_n egy57 hgy165 (by omega)
  have hgy167 := up_n egy78 hgy166 (by omega)
  have hgy168 := up_n egy81 hgy167 (by omega)
  have hgy169 := up_n egy106 hgy168 (by omega)
  have hgy170 := up_n egy109 hgy169 (by omega)
  have hgy171 := up_n egy138 hgy170 (by omega)
  have hgy172 := up_n egy141 hgy171 (by omega)
  refine z_copyI C q_733 q_430 q_429 q_21 (by omega) (by omega) hay14 hay7 hgy172 hgy159 0 0 15 rfl rfl rfl (by decide) (by decide) (by decide) (by decide) (Nat.le_of_ble_eq_true rfl) dX5_copyFrom_129 (fun gy173 egy174 => ?_)
  have hgy175 := up_s egy174
  refine z_ext (r' := tb2) (by omega) hgy175 (fun j hj => cZ_all hj) (fun gy176 egy177 => ?_)
  have hgy178 := up_s egy177
  have hgy179 := up_n egy174 hgy146 (ne_o (i := b) (c := 0) (d := 6) rfl)
  have hgy180 := up_n egy177 hgy179 (ne_o (i := b) (c := 0) (d := 6) rfl)
  have hgy181 := up_n egy54 hgy38 (ne_o (i := b) (c := 1) (d := 2) rfl)
  have hgy182 := up_n egy57 hgy181 (ne_o (i := b) (c := 1) (d := 2) rfl)
  have hgy183 := up_n egy78 hgy182 (ne_o (i := b) (c := 1) (d := 3) rfl)
  have hgy184 := up_n egy81 hgy183 (ne_o (i := b) (c := 1) (d := 3) rfl)
  have hgy185 := up_n egy106 hgy184 (ne_o (i := b) (c := 1) (d := 4) rfl)
  have hgy186 := up_n egy109 hgy185 (ne_o (i := b) (c := 1) (d := 4) rfl)
  have hgy187 := up_n egy138 hgy186 (ne_o (i := b) (c := 1) (d := 5) rfl)
  have hgy188 := up_n egy141 hgy187 (ne_o (i := b) (c := 1) (d := 5) rfl)
  have hgy189 := up_n egy174 hgy188 (ne_o (i := b) (c := 1) (d := 6) rfl)
  have hgy190 := up_n egy177 hgy189 (ne_o (i := b) (c := 1) (d := 6) rfl)
  have hgy191 := up_n egy78 hgy58 (ne_o (i := b) (c := 2) (d := 3) rfl)
  have hgy192 := up_n egy81 hgy191 (ne_o (i := b) (c := 2) (d := 3) rfl)
  have hgy193 := up_n egy106 hgy192 (ne_o (i := b) (c := 2) (d := 4) rfl)
  have hgy194 := up_n egy109 hgy193 (ne_o (i := b) (c := 2) (d := 4) rfl)
  have hgy195 := up_n egy138 hgy194 (ne_o (i := b) (c := 2) (d := 5) rfl)
  have hgy196 := up_n egy141 hgy195 (ne_o (i := b) (c := 2) (d := 5) rfl)
  have hgy197 := up_n egy174 hgy196 (ne_o (i := b) (c := 2) (d := 6) rfl)
  have hgy198 := up_n egy177 hgy197 (ne_o (i := b) (c := 2) (d := 6) rfl)
  have hgy199 := up_n egy106 hgy82 (ne_o (i := b) (c := 3) (d := 4) rfl)
  have hgy200 := up_n egy109 hgy199 (ne_o (i := b) (c := 3) (d := 4) rfl)
  have hgy201 := up_n egy138 hgy200 (ne_o (i := b) (c := 3) (d := 5) rfl)
  have hgy202 := up_n egy141 hgy201 (ne_o (i := b) (c := 3) (d := 5) rfl)
  have hgy203 := up_n egy174 hgy202 (ne_o (i := b) (c := 3) (d := 6) rfl)
  have hgy204 := up_n egy177 hgy203 (ne_o (i := b) (c := 3) (d := 6) rfl)
  have hgy205 := up_n egy138 hgy110 (ne_o (i := b) (c := 4) (d := 5) rfl)
  have hgy206 := up_n egy141 hgy205 (ne_o (i := b) (c := 4) (d := 5) rfl)
  have hgy207 := up_n egy174 hgy206 (ne_o (i := b) (c := 4) (d := 6) rfl)
  have hgy208 := up_n egy177 hgy207 (ne_o (i := b) (c := 4) (d := 6) rfl)
  have hgy209 := up_n egy174 hgy142 (ne_o (i := b) (c := 5) (d := 6) rfl)
  have hgy210 := up_n egy177 hgy209 (ne_o (i := b) (c := 5) (d := 6) rfl)
  exact z_vret C hr hlk dX5_copyFrom_132 (by decide) (by decide) ⟨rfl, rfl, rfl, ⟨hgy180, hgy190, hgy198, hgy204, hgy208, hgy210, hgy178⟩, fun j j1 => by rw [egy177, va_up_ne _ _ (by omega)]; rw [egy174, va_up_ne _ _ (by omega)]; rw [egy141, va_up_ne _ _ (by omega)]; rw [egy138, va_up_ne _ _ (by omega)]; rw [egy109, va_up_ne _ _ (by omega)]; rw [egy106, va_up_ne _ _ (by omega)]; rw [egy81, va_up_ne _ _ (by omega)]; rw [egy78, va_up_ne _ _ (by omega)]; rw [egy57, va_up_ne _ _ (by omega)]; rw [egy54, va_up_ne _ _ (by omega)]; rw [egy37, va_up_ne _ _ (by omega)]; rw [egy34, va_up_ne _ _ (by omega)]; rw [egy24, va_up_ne _ _ (by omega)]; rw [egy20, va_up_ne _ _ (by omega)]; rw [egy16, va_up_ne _ _ (by omega)]⟩

set_option maxRecDepth 100000 in
set_option maxHeartbeats 4000000 in
theorem c_X5_warm (l : Launch) (D : va_G) (A : Nat → Prop) (cs : Nat → ClassId) (tt : Nat) (N : Nat) (ad : Nat → Nat) (g : Nat → va_E) (b : Nat) (hNb : b + 7 ≤ N) (sl ho ua : Int) (st op ai fa mu tb : Nat → Int) (hb : isPlan cs ad g b sl ho ua st op ai fa mu tb) (hsl : 0 ≤ sl ∧ sl ≤ 4) (hho : 0 ≤ ho ∧ ho ≤ 24) (z : Int) (hz : -2147483648 ≤ z ∧ z ≤ 2147483647) : zM l yX5_warm cX5_warm 3 none ({ frames := 2, cells := 0, slots := 0, locals := 120 } : Room) D A cs tt N ad g [.ref (ad b), .int (zI (z))] (rV0 N ad fun g' => okPlan cs ad g' b ∧ ∀ j, j < b ∨ b + 7 ≤ j → g' j = g j) := by
  have hay1 : zAt ad (b) (ad b) := rfl
  have hay2 : zAt ad (b + 1) (ad (b + 1)) := rfl
  have hay3 : zAt ad (b + 2) (ad (b + 2)) := rfl
  have hay4 : zAt ad (b + 3) (ad (b + 3)) := rfl
  have hay5 : zAt ad (b + 4) (ad (b + 4)) := rfl
  have hay6 : zAt ad (b + 5) (ad (b + 5)) := rfl
  have hay7 : zAt ad (b + 6) (ad (b + 6)) := rfl
  refine z_of (by decide) (Nat.le_of_ble_eq_true rfl) ?_
  intro p e s m below meth c C hr hlk hnm
  refine z_lv (lv' := [(0, .ref (ad b)), (1, .int (zI (z)))]) [0, 1] rfl ?_
  have lp : ∀ (n9 : Nat) (i : Int) (u9 : Int) (a9 : Nat → Int) (g1 : Nat → va_E), (24 - i).toNat = n9 → (isPlan cs ad g1 b sl ho u9 st op a9 fa mu tb) → (∀ j, j < b ∨ b + 7 ≤ j → g1 j = g j) → (0 ≤ i ∧ i ≤ 24) → zV p l e ({ frames := 2, cells := 0, slots := 0, locals := 120 } : Room) s m ([.ref (ad b), .int (zI (z))] : List Value).toArray below meth c (MQ below (zPost D A (rV0 N ad fun g' => okPlan cs ad g' b ∧ ∀ j, j < b ∨ b + 7 ≤ j → g' j = g j)) ([.ref (ad b), .int (zI (z))] : List Value).toArray s ({ frames := 2, cells := 0, slots := 0, locals := 120 } : Room).cells ({ frames := 2, cells := 0, slots := 0, locals := 120 } : Room).slots A) D A 3 (N) ad g1 (0) (0) 17 [(2, .int (zI (i))), (0, .ref (ad b)), (1, .int (zI (z)))] [] := by
    intro n9
    induction n9 using Nat.strongRecOn with
    | ind n9 ih =>
      intro i u9 a9 g1 hm9 f1 f3 f4
      have hay8 : zAt ad (b) (ad b) := rfl
      have hay9 : zAt ad (b + 1) (ad (b + 1)) := rfl
      have hay10 : zAt ad (b + 2) (ad (b + 2)) := rfl
      have hay11 : zAt ad (b + 3) (ad (b + 3)) := rfl
      have hay12 : zAt ad (b + 4) (ad (b + 4)) := rfl
      have hay13 : zAt ad (b + 5) (ad (b + 5)) := rfl
      have hay14 : zAt ad (b + 6) (ad (b + 6)) := rfl
      refine z_iload_n C 0 dX5_warm_17 rfl ?_
      refine z_aload_n C 1 dX5_warm_18 rfl ?_
      refine z_get (v := .int (zI (ho))) C (by omega) hay8 f1.1 rfl inA_X5 1 (by decide) q_92 rfl rfl dX5_warm_19 ?_
      refine z_icmp_ge (tgt := 50) C dX5_warm_22 (by decide) (by omega) (by omega) (fun hby15 => ?_) (fun hby15 => ?_)
      · exact z_vret C hr hlk dX5_warm_50 (by decide) (by decide) ⟨rfl, rfl, rfl, ⟨_, _, _, _, _, _, _, _, _, hsl, hho, ⟨f1.1, f1.2.1, f1.2.2.1, f1.2.2.2.1, f1.2.2.2.2.1, f1.2.2.2.2.2.1, f1.2.2.2.2.2.2⟩⟩, fun j j1 => by exact f3 j j1⟩
      · refine z_aload_n C 1 dX5_warm_25 rfl ?_
        refine z_get (v := .ref (ad (b + 3))) C (by omega) hay8 f1.1 rfl inA_X5 5 (by decide) q_104 rfl rfl dX5_warm_26 ?_
        refine z_iload_n C 0 dX5_warm_29 rfl ?_
        refine z_aload_n C 1 dX5_warm_30 rfl ?_
        refine z_get (v := .ref (ad (b + 3))) C (by omega) hay8 f1.1 rfl inA_X5 5 (by decide) q_104 rfl rfl dX5_warm_31 ?_
        refine z_iload_n C 0 dX5_warm_34 rfl ?_
        refine z_iald C (by omega) hay11 f1.2.2.2.1 ((i).toNat) (by omega) (by omega) (by decide) dX5_warm_35 ?_
        refine z_iload_n C 2 dX5_warm_36 rfl ?_
        refine z_iadd C dX5_warm_37 ?_
        refine z_bipush (z := 100) C dX5_warm_38 (by decide) ?_
        obtain ⟨xy16, exy17, hxy18⟩ := zI_of (zI ((a9 ((i).toNat)) + z))
        rw [exy17]
        refine z_mmin C q_1292 q_473 q_20 q_474 (by omega) (by omega) (by decide) (Nat.le_of_ble_eq_true rfl) (by decide) (by decide) dX5_warm_40 ?_
        obtain ⟨xy19, exy20, hxy21⟩ := mm_min (xy16) (100)
        rw [exy20]
        refine z_iast C (by omega) hay11 f1.2.2.2.1 ((i).toNat) (by omega) (by omega) (by decide) dX5_warm_43 (fun gy22 egy23 => ?_)
        have hgy24 := up_s egy23
        refine z_iinc (z := i + 1) (lv' := [(2, .int (zI (i + 1))), (0, .ref (ad b)), (1, .int (zI (z)))]) (j := 0) C dX5_warm_44 rfl rfl (by decide) rfl ?_
        refine z_goto (tgt := 17) C dX5_warm_47 (by decide) ?_
        refine z_lv (lv' := [(2, .int (zI (i + 1))), (0, .ref (ad b)), (1, .int (zI (z)))]) [0, 1, 2] rfl ?_
        have hgy25 := up_n egy23 f1.1 (ne_o (i := b) (c := 0) (d := 3) rfl)
        have hgy26 := up_n egy23 f1.2.1 (ne_o (i := b) (c := 1) (d := 3) rfl)
        have hgy27 := up_n egy23 f1.2.2.1 (ne_o (i := b) (c := 2) (d := 3) rfl)
        have hgy28 := up_n egy23 f1.2.2.2.2.1 (ne_o (i := b) (c := 4) (d := 3) rfl)
        have hgy29 := up_n egy23 f1.2.2.2.2.2.1 (ne_o (i := b) (c := 5) (d := 3) rfl)
        have hgy30 := up_n egy23 f1.2.2.2.2.2.2 (ne_o (i := b) (c := 6) (d := 3) rfl)
        exact ih _ (by omega) (i + 1) _ _ gy22 rfl ⟨hgy25, hgy26, hgy27, hgy24, hgy28, hgy29, hgy30⟩ (fun j j1 => by rw [egy23, va_up_ne _ _ (by omega)]; exact f3 j j1) (by omega)
  refine z_aload_n C 0 dX5_warm_0 rfl ?_
  refine z_aload_n C 0 dX5_warm_1 rfl ?_
  refine z_get (v := .int (zI (ua))) C (by omega) hay1 hb.1 rfl inA_X5 2 (by decide) q_95 rfl rfl dX5_warm_2 ?_
  refine z_iload_n C 1 dX5_warm_5 rfl ?_
  refine z_iadd C dX5_warm_6 ?_
  refine z_bipush (z := 100) C dX5_warm_7 (by decide) ?_
  obtain ⟨xy31, exy32, hxy33⟩ := zI_of (zI (ua + z))
  rw [exy32]
  refine z_mmin C q_1292 q_473 q_20 q_474 (by omega) (by omega) (by decide) (Nat.le_of_ble_eq_true rfl) (by decide) (by decide) dX5_warm_9 ?_
  obtain ⟨xy34, exy35, hxy36⟩ := mm_min (xy31) (100)
  rw [exy35]
  refine z_put (fs' := [.int (zI (sl)), .int (zI (ho)), .int (zI (xy34)), .ref (ad (b + 1)), .ref (ad (b + 2)), .ref (ad (b + 3)), .ref (ad (b + 4)), .ref (ad (b + 5)), .ref (ad (b + 6))]) C (by omega) hay1 hb.1 tyX5 tyX5_ok nmX5 rfl inA_X5 2 (by decide) q_95 rfl rfl rfl rfl (Nat.le_of_ble_eq_true rfl) rfl dX5_warm_12 (fun gy37 egy38 => ?_)
  have hgy39 := up_s egy38
  refine z_iconst (z := 0) C dX5_warm_15 rfl ?_
  refine z_istore_n (lv' := [(2, .int (zI (0))), (0, .ref (ad b)), (1, .int (zI (z)))]) C dX5_warm_16 rfl (by decide) rfl ?_
  refine z_lv (lv' := [(2, .int (zI (0))), (0, .ref (ad b)), (1, .int (zI (z)))]) [0, 1, 2] rfl ?_
  have hgy40 := up_n egy38 hb.2.1 (ne_o (i := b) (c := 1) (d := 0) rfl)
  have hgy41 := up_n egy38 hb.2.2.1 (ne_o (i := b) (c := 2) (d := 0) rfl)
  have hgy42 := up_n egy38 hb.2.2.2.1 (ne_o (i := b) (c := 3) (d := 0) rfl)
  have hgy43 := up_n egy38 hb.2.2.2.2.1 (ne_o (i := b) (c := 4) (d := 0) rfl)
  have hgy44 := up_n egy38 hb.2.2.2.2.2.1 (ne_o (i := b) (c := 5) (d := 0) rfl)
  have hgy45 := up_n egy38 hb.2.2.2.2.2.2 (ne_o (i := b) (c := 6) (d := 0) rfl)
  exact lp _ (0) _ _ gy37 rfl ⟨hgy39, hgy40, hgy41, hgy42, hgy43, hgy44, hgy45⟩ (fun j j1 => by rw [egy38, va_up_ne _ _ (by omega)]) (by omega)

set_option maxRecDepth 100000 in
set_option maxHeartbeats 4000000 in
theorem c_X9_isOnceUnstable (l : Launch) (D : va_G) (A : Nat → Prop) (cs : Nat → ClassId) (tt : Nat) (N : Nat) (ad : Nat → Nat) (g : Nat → va_E) (hN : 952 ≤ N) (t fp im nz kz sl ho ua : Int) (st op ai fa mu tb tp : Nat → Int) (hR : okRec cs ad g N t fp im nz kz sl ho ua st op ai fa mu tb tp) (z : Int) (hz : 0 ≤ z ∧ z ≤ 3) (z1 : Int) (hz1 : 0 ≤ z1 ∧ z1 ≤ 100) : zM l yX9_isOnceUnstable cX9_isOnceUnstable 4 (some .boolean) ({ frames := 6, cells := 0, slots := 0, locals := 360 } : Room) D A cs tt N ad g [.ref (ad 0), .int (zI (z)), .int (zI (z1))] (rI0 N ad fun r g' => (0 ≤ r ∧ r ≤ 1) ∧ okRec cs ad g' N t fp im nz kz sl ho ua st op ai fa mu tb tp ∧ oX g g') := by
  obtain ⟨ary1, bry1, cry1, dry1, ery1, fry1, gry11, hry1, ⟨acry1, iry1⟩, ⟨kcry1, jry1⟩, kry1, lry1, mry1, nry1, ory1, pry1⟩ := id hR
  have hay2 : zAt ad (0) (ad 0) := rfl
  have hay3 : zAt ad (1) (ad 1) := rfl
  have hay4 : zAt ad (2) (ad 2) := rfl
  have hay5 : zAt ad (4) (ad 4) := rfl
  have hay6 : zAt ad (11) (ad 11) := rfl
  have hay7 : zAt ad (447) (ad 447) := rfl
  have hay8 : zAt ad (883) (ad 883) := rfl
  have hay9 : zAt ad (890) (ad 890) := rfl
  have hay10 : zAt ad (900) (ad 900) := rfl
  have hay11 : zAt ad (910) (ad 910) := rfl
  have hay12 : zAt ad (917) (ad 917) := rfl
  have hay13 : zAt ad (919) (ad 919) := rfl
  have hay14 : zAt ad (4 + 1) (ad (4 + 1)) := rfl
  have hay15 : zAt ad (4 + 2) (ad (4 + 2)) := rfl
  have hay16 : zAt ad (4 + 3) (ad (4 + 3)) := rfl
  have hay17 : zAt ad (4 + 4) (ad (4 + 4)) := rfl
  have hay18 : zAt ad (4 + 5) (ad (4 + 5)) := rfl
  have hay19 : zAt ad (4 + 6) (ad (4 + 6)) := rfl
  obtain ⟨thcy20, zhcy20, ohcy20, rhcy20, hzhcy20, hthcy20, hwhcy20⟩ := id lry1
  obtain ⟨thcy21, zhcy21, ohcy21, rhcy21, hzhcy21, hthcy21, hwhcy21⟩ := id mry1
  obtain ⟨asy22, bsy22, csy22, dsy22, esy22, ⟨ptsy22, fsy22, gsy221⟩, hsy22, ⟨nusy22, nvsy22, nwsy22, isy22, jsy22, ksy22, lsy22, msy22, nsy22⟩, rfsy22, osy22⟩ := id iry1
  have hay23 : zAt ad (11 + 1) (ad (11 + 1)) := rfl
  have hay24 : zAt ad (11 + 11) (ad (11 + 11)) := rfl
  have hay25 : zAt ad (11 + 12) (ad (11 + 12)) := rfl
  have hay26 : zAt ad (11 + 13) (ad (11 + 13)) := rfl
  have hay27 : zAt ad (11 + 13 + 1) (ad (11 + 13 + 1)) := rfl
  have hay28 : zAt ad (11 + 13 + 2) (ad (11 + 13 + 2)) := rfl
  have hay29 : zAt ad (11 + 13 + 3) (ad (11 + 13 + 3)) := rfl
  have hay30 : zAt ad (11 + 17) (ad (11 + 17)) := rfl
  obtain ⟨uy31t, uy31z, uy31o, uy31r, uy31z4, uy31t5, uy311, ⟨uy31u, uy312, uy313⟩, uy314⟩ := id csy22
  have hay32 : zAt ad (11 + 1) (ad (11 + 1)) := rfl
  have hay33 : zAt ad (11 + 1 + 1) (ad (11 + 1 + 1)) := rfl
  obtain ⟨sloy34, hooy34, uaoy34, stoy34, opoy34, aioy34, faoy34, muoy34, tboy34, hsloy34, hhooy34, hpoy34⟩ := id kry1
  have hay35 : zAt ad (883 + 1) (ad (883 + 1)) := rfl
  have hay36 : zAt ad (883 + 2) (ad (883 + 2)) := rfl
  have hay37 : zAt ad (883 + 3) (ad (883 + 3)) := rfl
  have hay38 : zAt ad (883 + 4) (ad (883 + 4)) := rfl
  have hay39 : zAt ad (883 + 5) (ad (883 + 5)) := rfl
  have hay40 : zAt ad (883 + 6) (ad (883 + 6)) := rfl
  refine z_of (by decide) (Nat.le_of_ble_eq_true rfl) ?_
  intro p e s m below meth c C hr hlk hnm
  refine z_lv (lv' := [(0, .ref (ad 0)), (1, .int (zI (z))), (2, .int (zI (z1)))]) [0, 1, 2] rfl ?_
  refine z_aload_n C 0 dX9_isOnceUnstable_0 rfl ?_
  refine z_get (v := .ref (ad 890)) C (lt_K hN (rfl : Nat.blt (0) 952 = true)) hay2 ary1 rfl inA_X9 9 (by decide) q_358 rfl rfl dX9_isOnceUnstable_1 ?_
  refine z_aload_n C 0 dX9_isOnceUnstable_4 rfl ?_
  refine z_get (v := .ref (ad 11)) C (lt_K hN (rfl : Nat.blt (0) 952 = true)) hay2 ary1 rfl inA_X9 5 (by decide) q_354 rfl rfl dX9_isOnceUnstable_5 ?_
  refine z_get (v := .ref (ad (11 + 1))) C (lt_K hN (rfl : Nat.blt (11) 952 = true)) hay6 iry1.1 rfl inA_X6 0 (by decide) q_258 rfl rfl dX9_isOnceUnstable_8 ?_
  refine z_cV (As := [.ref (ad (11 + 1))]) (rest := []) (ci := 10) C (c_X8_copyFrom l D A cs tt N ad _ (890) (by omega) lry1 (11 + 1) (by omega) csy22 (by omega)) (lt_K hN (rfl : Nat.blt (890) 952 = true)) hay9 hwhcy20.1 rfl rfl mv_yX8_copyFrom q_1228 hd_yX8_copyFrom (by decide) (Nat.le_of_ble_eq_true rfl) (by decide) dX9_isOnceUnstable_11 rfl (kV0 fun gvy41 hvy41 => ?_)
  obtain ⟨⟨tvy41, zvy41, ovy41, rvy41, hzvy41, htvy41, -, hwvy41⟩, hfvy41⟩ := hvy41
  have hoky42 : okWorld cs ad gvy41 (890) := ⟨_, _, _, _, hzvy41, htvy41, hwvy41⟩
  obtain ⟨thcy43, zhcy43, ohcy43, rhcy43, hzhcy43, hthcy43, hwhcy43⟩ := id hoky42
  refine z_iconst (z := 0) C dX9_isOnceUnstable_14 rfl ?_
  refine z_istore_n (lv' := [(3, .int (zI (0))), (0, .ref (ad 0)), (1, .int (zI (z))), (2, .int (zI (z1)))]) C dX9_isOnceUnstable_15 rfl (by decide) rfl ?_
  have lp16 : ∀ (n9 : Nat) (i : Int) (g1 : Nat → va_E), (z1 - i).toNat = n9 → (okRec cs ad g1 N t fp im nz kz sl ho ua st op ai fa mu tb tp) → (oX g g1) → (0 ≤ i ∧ i ≤ z1) → zV p l e ({ frames := 6, cells := 0, slots := 0, locals := 360 } : Room) s m ([.ref (ad 0), .int (zI (z)), .int (zI (z1))] : List Value).toArray below meth c (MQ below (zPost D A (rI0 N ad fun r g' => (0 ≤ r ∧ r ≤ 1) ∧ okRec cs ad g' N t fp im nz kz sl ho ua st op ai fa mu tb tp ∧ oX g g')) ([.ref (ad 0), .int (zI (z)), .int (zI (z1))] : List Value).toArray s ({ frames := 6, cells := 0, slots := 0, locals := 360 } : Room).cells ({ frames := 6, cells := 0, slots := 0, locals := 360 } : Room).slots A) D A 4 (N) ad g1 (0) (0) 16 [(3, .int (zI (i))), (0, .ref (ad 0)), (1, .int (zI (z))), (2, .int (zI (z1)))] [] := by
    intro n9
    induction n9 using Nat.strongRecOn with
    | ind n9 ih_lp16 =>
      intro i g1 hm9 f1 f2 hv16_0
      obtain ⟨ary44, bry44, cry44, dry44, ery44, fry44, gry441, hry44, ⟨acry44, iry44⟩, ⟨kcry44, jry44⟩, kry44, lry44, mry44, nry44, ory44, pry44⟩ := id f1
      have hay45 : zAt ad (0) (ad 0) := rfl
      have hay46 : zAt ad (1) (ad 1) := rfl
      have hay47 : zAt ad (2) (ad 2) := rfl
      have hay48 : zAt ad (4) (ad 4) := rfl
      have hay49 : zAt ad (11) (ad 11) := rfl
      have hay50 : zAt ad (447) (ad 447) := rfl
      have hay51 : zAt ad (883) (ad 883) := rfl
      have hay52 : zAt ad (890) (ad 890) := rfl
      have hay53 : zAt ad (900) (ad 900) := rfl
      have hay54 : zAt ad (910) (ad 910) := rfl
      have hay55 : zAt ad (917) (ad 917) := rfl
      have hay56 : zAt ad (919) (ad 919) := rfl
      have hay57 : zAt ad (4 + 1) (ad (4 + 1)) := rfl
      have hay58 : zAt ad (4 + 2) (ad (4 + 2)) := rfl
      have hay59 : zAt ad (4 + 3) (ad (4 + 3)) := rfl
      have hay60 : zAt ad (4 + 4) (ad (4 + 4)) := rfl
      have hay61 : zAt ad (4 + 5) (ad (4 + 5)) := rfl
      have hay62 : zAt ad (4 + 6) (ad (4 + 6)) := rfl
      obtain ⟨thcy63, zhcy63, ohcy63, rhcy63, hzhcy63, hthcy63, hwhcy63⟩ := id lry44
      obtain ⟨thcy64, zhcy64, ohcy64, rhcy64, hzhcy64, hthcy64, hwhcy64⟩ := id mry44
      obtain ⟨asy65, bsy65, csy65, dsy65, esy65, ⟨ptsy65, fsy65, gsy651⟩, hsy65, ⟨nusy65, nvsy65, nwsy65, isy65, jsy65, ksy65, lsy65, msy65, nsy65⟩, rfsy65, osy65⟩ := id iry44
      have hay66 : zAt ad (11 + 1) (ad (11 + 1)) := rfl
      have hay67 : zAt ad (11 + 11) (ad (11 + 11)) := rfl
      have hay68 : zAt ad (11 + 12) (ad (11 + 12)) := rfl
      have hay69 : zAt ad (11 + 13) (ad (11 + 13)) := rfl
      have hay70 : zAt ad (11 + 13 + 1) (ad (11 + 13 + 1)) := rfl
      have hay71 : zAt ad (11 + 13 + 2) (ad (11 + 13 + 2)) := rfl
      have hay72 : zAt ad (11 + 13 + 3) (ad (11 + 13 + 3)) := rfl
      have hay73 : zAt ad (11 + 17) (ad (11 + 17)) := rfl
      obtain ⟨uy74t, uy74z, uy74o, uy74r, uy74z4, uy74t5, uy741, ⟨uy74u, uy742, uy743⟩, uy744⟩ := id csy65
      have hay75 : zAt ad (11 + 1) (ad (11 + 1)) := rfl
      have hay76 : zAt ad (11 + 1 + 1) (ad (11 + 1 + 1)) := rfl
      obtain ⟨sloy77, hooy77, uaoy77, stoy77, opoy77, aioy77, faoy77, muoy77, tboy77, hsloy77, hhooy77, hpoy77⟩ := id kry44
      have hay78 : zAt ad (883 + 1) (ad (883 + 1)) := rfl
      have hay79 : zAt ad (883 + 2) (ad (883 + 2)) := rfl
      have hay80 : zAt ad (883 + 3) (ad (883 + 3)) := rfl
      have hay81 : zAt ad (883 + 4) (ad (883 + 4)) := rfl
      have hay82 : zAt ad (883 + 5) (ad (883 + 5)) := rfl
      have hay83 : zAt ad (883 + 6) (ad (883 + 6)) := rfl
      refine z_iload_n C 0 dX9_isOnceUnstable_16 rfl ?_
      refine z_iload_n C 3 dX9_isOnceUnstable_17 rfl ?_
      refine z_icmp_ge (tgt := 56) C dX9_isOnceUnstable_18 (by decide) (by omega) (by omega) (fun hby84 => ?_) (fun hby84 => ?_)
      · refine z_iconst (z := 0) C dX9_isOnceUnstable_56 rfl ?_
        have hrecy85 : okRec cs ad g1 N (t) (fp) (im) (nz) (kz) (sl) (ho) (ua) (st) (op) (ai) (fa) (mu) (tb) (tp) := ⟨ary44, bry44, cry44, dry44, ery44, fry44, gry441, hry44, ⟨_, iry44⟩, ⟨_, jry44⟩, kry44, lry44, mry44, nry44, ory44, pry44⟩
        exact z_zret C hr hlk dX9_isOnceUnstable_57 (by decide) (by decide) (by decide) ⟨0, rfl, rfl, rfl, by omega, hrecy85, fun j j1 j2 => by exact f2 j j1 j2⟩
      · refine z_aload_n C 1 dX9_isOnceUnstable_21 rfl ?_
        refine z_get (v := .ref (ad 890)) C (lt_K hN (rfl : Nat.blt (0) 952 = true)) hay45 ary44 rfl inA_X9 9 (by decide) q_358 rfl rfl dX9_isOnceUnstable_22 ?_
        refine z_aload_n C 1 dX9_isOnceUnstable_25 rfl ?_
        refine z_get (v := .ref (ad 883)) C (lt_K hN (rfl : Nat.blt (0) 952 = true)) hay45 ary44 rfl inA_X9 8 (by decide) q_357 rfl rfl dX9_isOnceUnstable_26 ?_
        refine z_iconst (z := 1) C dX9_isOnceUnstable_29 rfl ?_
        refine z_iload_n C 2 dX9_isOnceUnstable_30 rfl ?_
        obtain ⟨xy86, exy87, hxy88⟩ := zI_of (zI (1) <<< (zI (z) &&& 31))
        refine z_ishl (z := xy86) C dX9_isOnceUnstable_31 exy87 ?_
        refine z_iconst (z := 1) C dX9_isOnceUnstable_32 rfl ?_
        refine z_cV (As := [.ref (ad 883), .int (zI (xy86)), .int (zI (1))]) (rest := []) (ci := 10) C (c_X8_hour l D A cs tt N ad _ (890) (by omega) lry44 (883) (by omega) _ _ _ _ _ _ _ _ _ ⟨hpoy77.1, hpoy77.2.1, hpoy77.2.2.1, hpoy77.2.2.2.1, hpoy77.2.2.2.2.1, hpoy77.2.2.2.2.2.1, hpoy77.2.2.2.2.2.2⟩ (by omega) (by omega) (by omega) (xy86) (by omega) (1) (by omega)) (lt_K hN (rfl : Nat.blt (890) 952 = true)) hay52 hwhcy63.1 rfl rfl mv_yX8_hour q_435 hd_yX8_hour (by decide) (Nat.le_of_ble_eq_true rfl) (by decide) dX9_isOnceUnstable_33 rfl (kV0 fun gvy89 hvy89 => ?_)
        obtain ⟨hkvy89, hfvy89⟩ := hvy89
        have hoky90 : okWorld cs ad gvy89 (890) := hkvy89
        obtain ⟨thcy91, zhcy91, ohcy91, rhcy91, hzhcy91, hthcy91, hwhcy91⟩ := id hoky90
        refine z_aload_n C 1 dX9_isOnceUnstable_36 rfl ?_
        refine z_aload_n C 1 dX9_isOnceUnstable_37 rfl ?_
        have hgy92 := (hfvy89 (0) (by omega)).trans ary44
        refine z_get (v := .ref (ad 890)) C (lt_K hN (rfl : Nat.blt (0) 952 = true)) hay45 hgy92 rfl inA_X9 9 (by decide) q_358 rfl rfl dX9_isOnceUnstable_38 ?_
        refine z_iload_n C 2 dX9_isOnceUnstable_41 rfl ?_
        have hgy94 := (hfvy89 (1) (by omega)).trans dry44
        have hpy95 := okState.mv (ad' := ad) (g' := gvy89) (fun j h1 h2 => by rfl) (fun j h1 h2 => by rw [hfvy89 _ (by omega)]) iry44
        have hpy96 := okRdr.mv (ad' := ad) (g' := gvy89) (fun j h1 h2 => by rfl) (fun j h1 h2 => by rw [hfvy89 _ (by omega)]) ery44
        have hpy97 := isPlan.mv (ad' := ad) (g' := gvy89) (fun j h1 h2 => by rfl) (fun j h1 h2 => by rw [hfvy89 _ (by omega)]) fry44
        have hpy98 := okState.mv (ad' := ad) (g' := gvy89) (fun j h1 h2 => by rfl) (fun j h1 h2 => by rw [hfvy89 _ (by omega)]) jry44
        have hpy99 := okPlan.mv (ad' := ad) (g' := gvy89) (fun j h1 h2 => by rfl) (fun j h1 h2 => by rw [hfvy89 _ (by omega)]) kry44
        have hpy100 := okGss.mv (ad' := ad) (g' := gvy89) (fun j h1 h2 => by rfl) (fun j h1 h2 => by rw [hfvy89 _ (by omega)]) nry44
        have hpy101 := okLike.mv (ad' := ad) (g' := gvy89) (fun j h1 h2 => by rfl) (fun j h1 h2 => by rw [hfvy89 _ (by omega)]) ory44
        have hpy102 := okBld.mv (ad' := ad) (g' := gvy89) (fun j h1 h2 => by rfl) (fun j h1 h2 => by rw [hfvy89 _ (by omega)]) pry44
        have hoky103 : okWorld cs ad gvy89 (900) := okWorld.mv (fun j j1 j2 => by rw [hfvy89 _ (by omega)]) mry44
        have hrecy104 : okRec cs ad gvy89 N (t) (fp) (im) (nz) (kz) (sl) (ho) (ua) (st) (op) (ai) (fa) (mu) (tb) (tp) := ⟨hgy92, bry44, cry44, hgy94, hpy96, hpy97, gry441, hry44, ⟨_, hpy95⟩, ⟨_, hpy98⟩, hpy99, hoky90, hoky103, hpy100, hpy101, hpy102⟩
        refine z_cV (As := [.ref (ad 890), .int (zI (z))]) (rest := []) (ci := 11) C (c_X9_isUnstable l D A cs tt N ad _ hN _ _ _ _ _ _ _ _ _ _ _ _ _ _ _ hrecy104 (890) (by omega) hoky90 (z) (by omega)) (lt_K hN (rfl : Nat.blt (0) 952 = true)) hay45 hgy92 rfl rfl mv_yX9_isUnstable q_560 hd_yX9_isUnstable (by decide) (Nat.le_of_ble_eq_true rfl) (by decide) dX9_isOnceUnstable_42 rfl (kI0 fun vy93 gvy93 hvy93 => ?_)
        obtain ⟨hvy93, rfl⟩ := hvy93
        refine z_if_eq (tgt := 50) C dX9_isOnceUnstable_45 (by decide) (by omega) (fun hby105 => ?_) (fun hby105 => ?_)
        · refine z_iinc (z := i + 1) (lv' := [(3, .int (zI (i + 1))), (0, .ref (ad 0)), (1, .int (zI (z))), (2, .int (zI (z1)))]) (j := 0) C dX9_isOnceUnstable_50 rfl rfl (by decide) rfl ?_
          refine z_goto (tgt := 16) C dX9_isOnceUnstable_53 (by decide) ?_
          have hrecy106 : okRec cs ad gvy89 N (t) (fp) (im) (nz) (kz) (sl) (ho) (ua) (st) (op) (ai) (fa) (mu) (tb) (tp) := ⟨hgy92, bry44, cry44, hgy94, hpy96, hpy97, gry441, hry44, ⟨_, hpy95⟩, ⟨_, hpy98⟩, hpy99, hoky90, hoky103, hpy100, hpy101, hpy102⟩
          refine z_lv (lv' := [(3, .int (zI (i + 1))), (0, .ref (ad 0)), (1, .int (zI (z))), (2, .int (zI (z1)))]) [0, 1, 2, 3] rfl ?_
          exact ih_lp16 _ (by omega) (i + 1) gvy89 rfl hrecy106 (fun j j1 j2 => by rw [hfvy89 _ (by omega)]; exact f2 j j1 j2) (by omega)
        · refine z_iconst (z := 1) C dX9_isOnceUnstable_48 rfl ?_
          have hrecy107 : okRec cs ad gvy89 N (t) (fp) (im) (nz) (kz) (sl) (ho) (ua) (st) (op) (ai) (fa) (mu) (tb) (tp) := ⟨hgy92, bry44, cry44, hgy94, hpy96, hpy97, gry441, hry44, ⟨_, hpy95⟩, ⟨_, hpy98⟩, hpy99, hoky90, hoky103, hpy100, hpy101, hpy102⟩
          exact z_zret C hr hlk dX9_isOnceUnstable_49 (by decide) (by decide) (by decide) ⟨1, rfl, rfl, rfl, by omega, hrecy107, fun j j1 j2 => by rw [hfvy89 _ (by omega)]; exact f2 j j1 j2⟩
  have hgy108 := (hfvy41 (0) (by omega)).trans ary1
  have hgy109 := (hfvy41 (1) (by omega)).trans dry1
  have hpy110 := okState.mv (ad' := ad) (g' := gvy41) (fun j h1 h2 => by rfl) (fun j h1 h2 => by rw [hfvy41 _ (by omega)]) iry1
  have hpy111 := okRdr.mv (ad' := ad) (g' := gvy41) (fun j h1 h2 => by rfl) (fun j h1 h2 => by rw [hfvy41 _ (by omega)]) ery1
  have hpy112 := isPlan.mv (ad' := ad) (g' := gvy41) (fun j h1 h2 => by rfl) (fun j h1 h2 => by rw [hfvy41 _ (by omega)]) fry1
  have hpy113 := okState.mv (ad' := ad) (g' := gvy41) (fun j h1 h2 => by rfl) (fun j h1 h2 => by rw [hfvy41 _ (by omega)]) jry1
  have hpy114 := okPlan.mv (ad' := ad) (g' := gvy41) (fun j h1 h2 => by rfl) (fun j h1 h2 => by rw [hfvy41 _ (by omega)]) kry1
  have hpy115 := okGss.mv (ad' := ad) (g' := gvy41) (fun j h1 h2 => by rfl) (fun j h1 h2 => by rw [hfvy41 _ (by omega)]) nry1
  have hpy116 := okLike.mv (ad' := ad) (g' := gvy41) (fun j h1 h2 => by rfl) (fun j h1 h2 => by rw [hfvy41 _ (by omega)]) ory1
  have hpy117 := okBld.mv (ad' := ad) (g' := gvy41) (fun j h1 h2 => by rfl) (fun j h1 h2 => by rw [hfvy41 _ (by omega)]) pry1
  have hoky118 : okWorld cs ad gvy41 (900) := okWorld.mv (fun j j1 j2 => by rw [hfvy41 _ (by omega)]) mry1
  have hrecy119 : okRec cs ad gvy41 N (t) (fp) (im) (nz) (kz) (sl) (ho) (ua) (st) (op) (ai) (fa) (mu) (tb) (tp) := ⟨hgy108, bry1, cry1, hgy109, hpy111, hpy112, gry11, hry1, ⟨_, hpy110⟩, ⟨_, hpy113⟩, hpy114, hoky42, hoky118, hpy115, hpy116, hpy117⟩
  refine z_lv (lv' := [(3, .int (zI (0))), (0, .ref (ad 0)), (1, .int (zI (z))), (2, .int (zI (z1)))]) [0, 1, 2, 3] rfl ?_
  exact lp16 _ (0) gvy41 rfl hrecy119 (fun j j1 j2 => by rw [hfvy41 _ (by omega)]) (by omega)

set_option maxRecDepth 100000 in
set_option maxHeartbeats 4000000 in
theorem c_X9_otherRatio (l : Launch) (D : va_G) (A : Nat → Prop) (cs : Nat → ClassId) (tt : Nat) (N : Nat) (ad : Nat → Nat) (g : Nat → va_E) (hN : 952 ≤ N) (t fp im nz kz sl ho ua : Int) (st op ai fa mu tb tp : Nat → Int) (hR : okRec cs ad g N t fp im nz kz sl ho ua st op ai fa mu tb tp) (z : Int) (hz : 0 ≤ z ∧ z ≤ 3) (z1 : Int) (hz1 : 0 ≤ z1 ∧ z1 ≤ 100) : zM l yX9_otherRatio cX9_otherRatio 4 (some .int) ({ frames := 6, cells := 0, slots := 0, locals := 360 } : Room) D A cs tt N ad g [.ref (ad 0), .int (zI (z)), .int (zI (z1))] (rI0 N ad fun r g' => (-2147483648 ≤ r ∧ r ≤ 2147483647) ∧ okRec cs ad g' N t fp im nz kz sl ho ua st op ai fa mu tb tp ∧ oX g g') := by
  obtain ⟨ary1, bry1, cry1, dry1, ery1, fry1, gry11, hry1, ⟨acry1, iry1⟩, ⟨kcry1, jry1⟩, kry1, lry1, mry1, nry1, ory1, pry1⟩ := id hR
  have hay2 : zAt ad (0) (ad 0) := rfl
  have hay3 : zAt ad (1) (ad 1) := rfl
  have hay4 : zAt ad (2) (ad 2) := rfl
  have hay5 : zAt ad (4) (ad 4) := rfl
  have hay6 : zAt ad (11) (ad 11) := rfl
  have hay7 : zAt ad (447) (ad 447) := rfl
  have hay8 : zAt ad (883) (ad 883) := rfl
  have hay9 : zAt ad (890) (ad 890) := rfl
  have hay10 : zAt ad (900) (ad 900) := rfl
  have hay11 : zAt ad (910) (ad 910) := rfl
  have hay12 : zAt ad (917) (ad 917) := rfl
  have hay13 : zAt ad (919) (ad 919) := rfl
  have hay14 : zAt ad (4 + 1) (ad (4 + 1)) := rfl
  have hay15 : zAt ad (4 + 2) (ad (4 + 2)) := rfl
  have hay16 : zAt ad (4 + 3) (ad (4 + 3)) := rfl
  have hay17 : zAt ad (4 + 4) (ad (4 + 4)) := rfl
  have hay18 : zAt ad (4 + 5) (ad (4 + 5)) := rfl
  have hay19 : zAt ad (4 + 6) (ad (4 + 6)) := rfl
  obtain ⟨thcy20, zhcy20, ohcy20, rhcy20, hzhcy20, hthcy20, hwhcy20⟩ := id lry1
  obtain ⟨thcy21, zhcy21, ohcy21, rhcy21, hzhcy21, hthcy21, hwhcy21⟩ := id mry1
  obtain ⟨asy22, bsy22, csy22, dsy22, esy22, ⟨ptsy22, fsy22, gsy221⟩, hsy22, ⟨nusy22, nvsy22, nwsy22, isy22, jsy22, ksy22, lsy22, msy22, nsy22⟩, rfsy22, osy22⟩ := id iry1
  have hay23 : zAt ad (11 + 1) (ad (11 + 1)) := rfl
  have hay24 : zAt ad (11 + 11) (ad (11 + 11)) := rfl
  have hay25 : zAt ad (11 + 12) (ad (11 + 12)) := rfl
  have hay26 : zAt ad (11 + 13) (ad (11 + 13)) := rfl
  have hay27 : zAt ad (11 + 13 + 1) (ad (11 + 13 + 1)) := rfl
  have hay28 : zAt ad (11 + 13 + 2) (ad (11 + 13 + 2)) := rfl
  have hay29 : zAt ad (11 + 13 + 3) (ad (11 + 13 + 3)) := rfl
  have hay30 : zAt ad (11 + 17) (ad (11 + 17)) := rfl
  obtain ⟨uy31t, uy31z, uy31o, uy31r, uy31z4, uy31t5, uy311, ⟨uy31u, uy312, uy313⟩, uy314⟩ := id csy22
  have hay32 : zAt ad (11 + 1) (ad (11 + 1)) := rfl
  have hay33 : zAt ad (11 + 1 + 1) (ad (11 + 1 + 1)) := rfl
  obtain ⟨sloy34, hooy34, uaoy34, stoy34, opoy34, aioy34, faoy34, muoy34, tboy34, hsloy34, hhooy34, hpoy34⟩ := id kry1
  have hay35 : zAt ad (883 + 1) (ad (883 + 1)) := rfl
  have hay36 : zAt ad (883 + 2) (ad (883 + 2)) := rfl
  have hay37 : zAt ad (883 + 3) (ad (883 + 3)) := rfl
  have hay38 : zAt ad (883 + 4) (ad (883 + 4)) := rfl
  have hay39 : zAt ad (883 + 5) (ad (883 + 5)) := rfl
  have hay40 : zAt ad (883 + 6) (ad (883 + 6)) := rfl
  refine z_of (by decide) (Nat.le_of_ble_eq_true rfl) ?_
  intro p e s m below meth c C hr hlk hnm
  refine z_lv (lv' := [(0, .ref (ad 0)), (1, .int (zI (z))), (2, .int (zI (z1)))]) [0, 1, 2] rfl ?_
  refine z_aload_n C 0 dX9_otherRatio_0 rfl ?_
  refine z_get (v := .ref (ad 890)) C (lt_K hN (rfl : Nat.blt (0) 952 = true)) hay2 ary1 rfl inA_X9 9 (by decide) q_358 rfl rfl dX9_otherRatio_1 ?_
  refine z_aload_n C 0 dX9_otherRatio_4 rfl ?_
  refine z_get (v := .ref (ad 11)) C (lt_K hN (rfl : Nat.blt (0) 952 = true)) hay2 ary1 rfl inA_X9 5 (by decide) q_354 rfl rfl dX9_otherRatio_5 ?_
  refine z_get (v := .ref (ad (11 + 1))) C (lt_K hN (rfl : Nat.blt (11) 952 = true)) hay6 iry1.1 rfl inA_X6 0 (by decide) q_258 rfl rfl dX9_otherRatio_8 ?_
  refine z_cV (As := [.ref (ad (11 + 1))]) (rest := []) (ci := 10) C (c_X8_copyFrom l D A cs tt N ad _ (890) (by omega) lry1 (11 + 1) (by omega) csy22 (by omega)) (lt_K hN (rfl : Nat.blt (890) 952 = true)) hay9 hwhcy20.1 rfl rfl mv_yX8_copyFrom q_1228 hd_yX8_copyFrom (by decide) (Nat.le_of_ble_eq_true rfl) (by decide) dX9_otherRatio_11 rfl (kV0 fun gvy41 hvy41 => ?_)
  obtain ⟨⟨tvy41, zvy41, ovy41, rvy41, hzvy41, htvy41, -, hwvy41⟩, hfvy41⟩ := hvy41
  have hoky42 : okWorld cs ad gvy41 (890) := ⟨_, _, _, _, hzvy41, htvy41, hwvy41⟩
  obtain ⟨thcy43, zhcy43, ohcy43, rhcy43, hzhcy43, hthcy43, hwhcy43⟩ := id hoky42
  refine z_iconst (z := 0) C dX9_otherRatio_14 rfl ?_
  refine z_istore_n (lv' := [(3, .int (zI (0))), (0, .ref (ad 0)), (1, .int (zI (z))), (2, .int (zI (z1)))]) C dX9_otherRatio_15 rfl (by decide) rfl ?_
  have lp16 : ∀ (n9 : Nat) (i : Int) (g1 : Nat → va_E), (z1 - i).toNat = n9 → (okRec cs ad g1 N t fp im nz kz sl ho ua st op ai fa mu tb tp) → (oX g g1) → (0 ≤ i ∧ i ≤ z1) → zV p l e ({ frames := 6, cells := 0, slots := 0, locals := 360 } : Room) s m ([.ref (ad 0), .int (zI (z)), .int (zI (z1))] : List Value).toArray below meth c (MQ below (zPost D A (rI0 N ad fun r g' => (-2147483648 ≤ r ∧ r ≤ 2147483647) ∧ okRec cs ad g' N t fp im nz kz sl ho ua st op ai fa mu tb tp ∧ oX g g')) ([.ref (ad 0), .int (zI (z)), .int (zI (z1))] : List Value).toArray s ({ frames := 6, cells := 0, slots := 0, locals := 360 } : Room).cells ({ frames := 6, cells := 0, slots := 0, locals := 360 } : Room).slots A) D A 4 (N) ad g1 (0) (0) 16 [(3, .int (zI (i))), (0, .ref (ad 0)), (1, .int (zI (z))), (2, .int (zI (z1)))] [] := by
    intro n9
    induction n9 using Nat.strongRecOn with
    | ind n9 ih_lp16 =>
      intro i g1 hm9 f1 f2 hv16_0
      obtain ⟨ary44, bry44, cry44, dry44, ery44, fry44, gry441, hry44, ⟨acry44, iry44⟩, ⟨kcry44, jry44⟩, kry44, lry44, mry44, nry44, ory44, pry44⟩ := id f1
      have hay45 : zAt ad (0) (ad 0) := rfl
      have hay46 : zAt ad (1) (ad 1) := rfl
      have hay47 : zAt ad (2) (ad 2) := rfl
      have hay48 : zAt ad (4) (ad 4) := rfl
      have hay49 : zAt ad (11) (ad 11) := rfl
      have hay50 : zAt ad (447) (ad 447) := rfl
      have hay51 : zAt ad (883) (ad 883) := rfl
      have hay52 : zAt ad (890) (ad 890) := rfl
      have hay53 : zAt ad (900) (ad 900) := rfl
      have hay54 : zAt ad (910) (ad 910) := rfl
      have hay55 : zAt ad (917) (ad 917) := rfl
      have hay56 : zAt ad (919) (ad 919) := rfl
      have hay57 : zAt ad (4 + 1) (ad (4 + 1)) := rfl
      have hay58 : zAt ad (4 + 2) (ad (4 + 2)) := rfl
      have hay59 : zAt ad (4 + 3) (ad (4 + 3)) := rfl
      have hay60 : zAt ad (4 + 4) (ad (4 + 4)) := rfl
      have hay61 : zAt ad (4 + 5) (ad (4 + 5)) := rfl
      have hay62 : zAt ad (4 + 6) (ad (4 + 6)) := rfl
      obtain ⟨thcy63, zhcy63, ohcy63, rhcy63, hzhcy63, hthcy63, hwhcy63⟩ := id lry44
      obtain ⟨thcy64, zhcy64, ohcy64, rhcy64, hzhcy64, hthcy64, hwhcy64⟩ := id mry44
      obtain ⟨asy65, bsy65, csy65, dsy65, esy65, ⟨ptsy65, fsy65, gsy651⟩, hsy65, ⟨nusy65, nvsy65, nwsy65, isy65, jsy65, ksy65, lsy65, msy65, nsy65⟩, rfsy65, osy65⟩ := id iry44
      have hay66 : zAt ad (11 + 1) (ad (11 + 1)) := rfl
      have hay67 : zAt ad (11 + 11) (ad (11 + 11)) := rfl
      have hay68 : zAt ad (11 + 12) (ad (11 + 12)) := rfl
      have hay69 : zAt ad (11 + 13) (ad (11 + 13)) := rfl
      have hay70 : zAt ad (11 + 13 + 1) (ad (11 + 13 + 1)) := rfl
      have hay71 : zAt ad (11 + 13 + 2) (ad (11 + 13 + 2)) := rfl
      have hay72 : zAt ad (11 + 13 + 3) (ad (11 + 13 + 3)) := rfl
      have hay73 : zAt ad (11 + 17) (ad (11 + 17)) := rfl
      obtain ⟨uy74t, uy74z, uy74o, uy74r, uy74z4, uy74t5, uy741, ⟨uy74u, uy742, uy743⟩, uy744⟩ := id csy65
      have hay75 : zAt ad (11 + 1) (ad (11 + 1)) := rfl
      have hay76 : zAt ad (11 + 1 + 1) (ad (11 + 1 + 1)) := rfl
      obtain ⟨sloy77, hooy77, uaoy77, stoy77, opoy77, aioy77, faoy77, muoy77, tboy77, hsloy77, hhooy77, hpoy77⟩ := id kry44
      have hay78 : zAt ad (883 + 1) (ad (883 + 1)) := rfl
      have hay79 : zAt ad (883 + 2) (ad (883 + 2)) := rfl
      have hay80 : zAt ad (883 + 3) (ad (883 + 3)) := rfl
      have hay81 : zAt ad (883 + 4) (ad (883 + 4)) := rfl
      have hay82 : zAt ad (883 + 5) (ad (883 + 5)) := rfl
      have hay83 : zAt ad (883 + 6) (ad (883 + 6)) := rfl
      refine z_iload_n C 0 dX9_otherRatio_16 rfl ?_
      refine z_iload_n C 3 dX9_otherRatio_17 rfl ?_
      refine z_icmp_ge (tgt := 42) C dX9_otherRatio_18 (by decide) (by omega) (by omega) (fun hby84 => ?_) (fun hby84 => ?_)
      · refine z_aload_n C 1 dX9_otherRatio_42 rfl ?_
        refine z_get (v := .ref (ad 890)) C (lt_K hN (rfl : Nat.blt (0) 952 = true)) hay45 ary44 rfl inA_X9 9 (by decide) q_358 rfl rfl dX9_otherRatio_43 ?_
        refine z_get (v := .ref (ad (890 + 1))) C (lt_K hN (rfl : Nat.blt (890) 952 = true)) hay52 hwhcy63.1 rfl inA_X8 6 (by decide) q_191 rfl rfl dX9_otherRatio_46 ?_
        refine z_iload_n C 2 dX9_otherRatio_49 rfl ?_
        obtain ⟨uy85t, uy85z, uy85o, uy85r, uy85z4, uy85t5, uy851, ⟨uy85u, uy852, uy853⟩, uy854⟩ := id lry44
        have hay86 : zAt ad (890) (ad 890) := rfl
        have hay87 : zAt ad (890 + 1) (ad (890 + 1)) := rfl
        refine z_aald C (lt_K hN (rfl : Nat.blt (890 + 1) 952 = true)) hay87 uy852 3 rfl ((z).toNat) (by omega) (by omega) (by decide) (uy853 (z).toNat (by omega)) dX9_otherRatio_50 ?_
        have hay88 : zAt ad (890 + 2 + 2 * (z).toNat) (ad (890 + 2 + 2 * (z).toNat)) := rfl
        have hay89 : zAt ad (890 + 2 + 2 * (z).toNat + 1) (ad (890 + 2 + 2 * (z).toNat + 1)) := rfl
        have hpy90 := uy854 (z).toNat (by omega)
        have hqy91 := uy85z4 (z).toNat (by omega)
        refine z_aload_n C 1 dX9_otherRatio_51 rfl ?_
        refine z_get (v := .ref (ad 4)) C (lt_K hN (rfl : Nat.blt (0) 952 = true)) hay45 ary44 rfl inA_X9 4 (by decide) q_353 rfl rfl dX9_otherRatio_52 ?_
        refine z_get (v := .ref (ad (4 + 1))) C (lt_K hN (rfl : Nat.blt (4) 952 = true)) hay48 fry44.1 rfl inA_X5 3 (by decide) q_98 rfl rfl dX9_otherRatio_55 ?_
        refine z_iload_n C 2 dX9_otherRatio_58 rfl ?_
        refine z_iald C (lt_K hN (rfl : Nat.blt (4 + 1) 952 = true)) hay57 fry44.2.1 ((z).toNat) (by omega) (by omega) (by decide) dX9_otherRatio_59 ?_
        refine z_aload_n C 1 dX9_otherRatio_60 rfl ?_
        refine z_get (v := .ref (ad 4)) C (lt_K hN (rfl : Nat.blt (0) 952 = true)) hay45 ary44 rfl inA_X9 4 (by decide) q_353 rfl rfl dX9_otherRatio_61 ?_
        obtain ⟨xy92, exy93, hxy94⟩ := zI_of (zI (st ((z).toNat)))
        rw [exy93]
        refine z_cV (As := [.int (zI (xy92)), .ref (ad 4)]) (rest := []) (ci := 5) C (c_X3_leastRatio l D A cs tt N ad _ (890 + 2 + 2 * (z).toNat) (by omega) _ _ _ (by omega) ⟨hpy90.1, hpy90.2⟩ (4) (by omega) _ _ _ _ _ _ _ _ _ ⟨fry44.1, fry44.2.1, fry44.2.2.1, fry44.2.2.2.1, fry44.2.2.2.2.1, fry44.2.2.2.2.2.1, fry44.2.2.2.2.2.2⟩ (xy92) (by omega)) (by omega) hay88 hpy90.1 rfl rfl mv_yX3_leastRatio q_898 hd_yX3_leastRatio (by decide) (Nat.le_of_ble_eq_true rfl) (by decide) dX9_otherRatio_64 rfl (kI0 fun vy95 gvy95 hvy95 => ?_)
        obtain ⟨hvy95, rfl⟩ := hvy95
        have hrecy96 : okRec cs ad g1 N (t) (fp) (im) (nz) (kz) (sl) (ho) (ua) (st) (op) (ai) (fa) (mu) (tb) (tp) := ⟨ary44, bry44, cry44, dry44, ery44, fry44, gry441, hry44, ⟨_, iry44⟩, ⟨_, jry44⟩, kry44, lry44, mry44, nry44, ory44, pry44⟩
        exact z_iret C hr hlk dX9_otherRatio_67 (by decide) (by decide) ⟨vy95, rfl, rfl, rfl, by omega, hrecy96, fun j j1 j2 => by exact f2 j j1 j2⟩
      · refine z_aload_n C 1 dX9_otherRatio_21 rfl ?_
        refine z_get (v := .ref (ad 890)) C (lt_K hN (rfl : Nat.blt (0) 952 = true)) hay45 ary44 rfl inA_X9 9 (by decide) q_358 rfl rfl dX9_otherRatio_22 ?_
        refine z_aload_n C 1 dX9_otherRatio_25 rfl ?_
        refine z_get (v := .ref (ad 883)) C (lt_K hN (rfl : Nat.blt (0) 952 = true)) hay45 ary44 rfl inA_X9 8 (by decide) q_357 rfl rfl dX9_otherRatio_26 ?_
        refine z_iconst (z := 1) C dX9_otherRatio_29 rfl ?_
        refine z_iload_n C 2 dX9_otherRatio_30 rfl ?_
        obtain ⟨xy97, exy98, hxy99⟩ := zI_of (zI (1) <<< (zI (z) &&& 31))
        refine z_ishl (z := xy97) C dX9_otherRatio_31 exy98 ?_
        refine z_iconst (z := 1) C dX9_otherRatio_32 rfl ?_
        refine z_cV (As := [.ref (ad 883), .int (zI (xy97)), .int (zI (1))]) (rest := []) (ci := 10) C (c_X8_hour l D A cs tt N ad _ (890) (by omega) lry44 (883) (by omega) _ _ _ _ _ _ _ _ _ ⟨hpoy77.1, hpoy77.2.1, hpoy77.2.2.1, hpoy77.2.2.2.1, hpoy77.2.2.2.2.1, hpoy77.2.2.2.2.2.1, hpoy77.2.2.2.2.2.2⟩ (by omega) (by omega) (by omega) (xy97) (by omega) (1) (by omega)) (lt_K hN (rfl : Nat.blt (890) 952 = true)) hay52 hwhcy63.1 rfl rfl mv_yX8_hour q_435 hd_yX8_hour (by decide) (Nat.le_of_ble_eq_true rfl) (by decide) dX9_otherRatio_33 rfl (kV0 fun gvy100 hvy100 => ?_)
        obtain ⟨hkvy100, hfvy100⟩ := hvy100
        have hoky101 : okWorld cs ad gvy100 (890) := hkvy100
        obtain ⟨thcy102, zhcy102, ohcy102, rhcy102, hzhcy102, hthcy102, hwhcy102⟩ := id hoky101
        refine z_iinc (z := i + 1) (lv' := [(3, .int (zI (i + 1))), (0, .ref (ad 0)), (1, .int (zI (z))), (2, .int (zI (z1)))]) (j := 0) C dX9_otherRatio_36 rfl rfl (by decide) rfl ?_
        refine z_goto (tgt := 16) C dX9_otherRatio_39 (by decide) ?_
        have hgy103 := (hfvy100 (0) (by omega)).trans ary44
        have hgy104 := (hfvy100 (1) (by omega)).trans dry44
        have hpy105 := okState.mv (ad' := ad) (g' := gvy100) (fun j h1 h2 => by rfl) (fun j h1 h2 => by rw [hfvy100 _ (by omega)]) iry44
        have hpy106 := okRdr.mv (ad' := ad) (g' := gvy100) (fun j h1 h2 => by rfl) (fun j h1 h2 => by rw [hfvy100 _ (by omega)]) ery44
        have hpy107 := isPlan.mv (ad' := ad) (g' := gvy100) (fun j h1 h2 => by rfl) (fun j h1 h2 => by rw [hfvy100 _ (by omega)]) fry44
        have hpy108 := okState.mv (ad' := ad) (g' := gvy100) (fun j h1 h2 => by rfl) (fun j h1 h2 => by rw [hfvy100 _ (by omega)]) jry44
        have hpy109 := okPlan.mv (ad' := ad) (g' := gvy100) (fun j h1 h2 => by rfl) (fun j h1 h2 => by rw [hfvy100 _ (by omega)]) kry44
        have hpy110 := okGss.mv (ad' := ad) (g' := gvy100) (fun j h1 h2 => by rfl) (fun j h1 h2 => by rw [hfvy100 _ (by omega)]) nry44
        have hpy111 := okLike.mv (ad' := ad) (g' := gvy100) (fun j h1 h2 => by rfl) (fun j h1 h2 => by rw [hfvy100 _ (by omega)]) ory44
        have hpy112 := okBld.mv (ad' := ad) (g' := gvy100) (fun j h1 h2 => by rfl) (fun j h1 h2 => by rw [hfvy100 _ (by omega)]) pry44
        have hoky113 : okWorld cs ad gvy100 (900) := okWorld.mv (fun j j1 j2 => by rw [hfvy100 _ (by omega)]) mry44
        have hrecy114 : okRec cs ad gvy100 N (t) (fp) (im) (nz) (kz) (sl) (ho) (ua) (st) (op) (ai) (fa) (mu) (tb) (tp) := ⟨hgy103, bry44, cry44, hgy104, hpy106, hpy107, gry441, hry44, ⟨_, hpy105⟩, ⟨_, hpy108⟩, hpy109, hoky101, hoky113, hpy110, hpy111, hpy112⟩
        refine z_lv (lv' := [(3, .int (zI (i + 1))), (0, .ref (ad 0)), (1, .int (zI (z))), (2, .int (zI (z1)))]) [0, 1, 2, 3] rfl ?_
        exact ih_lp16 _ (by omega) (i + 1) gvy100 rfl hrecy114 (fun j j1 j2 => by rw [hfvy100 _ (by omega)]; exact f2 j j1 j2) (by omega)
  have hgy115 := (hfvy41 (0) (by omega)).trans ary1
  have hgy116 := (hfvy41 (1) (by omega)).trans dry1
  have hpy117 := okState.mv (ad' := ad) (g' := gvy41) (fun j h1 h2 => by rfl) (fun j h1 h2 => by rw [hfvy41 _ (by omega)]) iry1
  have hpy118 := okRdr.mv (ad' := ad) (g' := gvy41) (fun j h1 h2 => by rfl) (fun j h1 h2 => by rw [hfvy41 _ (by omega)]) ery1
  have hpy119 := isPlan.mv (ad' := ad) (g' := gvy41) (fun j h1 h2 => by rfl) (fun j h1 h2 => by rw [hfvy41 _ (by omega)]) fry1
  have hpy120 := okState.mv (ad' := ad) (g' := gvy41) (fun j h1 h2 => by rfl) (fun j h1 h2 => by rw [hfvy41 _ (by omega)]) jry1
  have hpy121 := okPlan.mv (ad' := ad) (g' := gvy41) (fun j h1 h2 => by rfl) (fun j h1 h2 => by rw [hfvy41 _ (by omega)]) kry1
  have hpy122 := okGss.mv (ad' := ad) (g' := gvy41) (fun j h1 h2 => by rfl) (fun j h1 h2 => by rw [hfvy41 _ (by omega)]) nry1
  have hpy123 := okLike.mv (ad' := ad) (g' := gvy41) (fun j h1 h2 => by rfl) (fun j h1 h2 => by rw [hfvy41 _ (by omega)]) ory1
  have hpy124 := okBld.mv (ad' := ad) (g' := gvy41) (fun j h1 h2 => by rfl) (fun j h1 h2 => by rw [hfvy41 _ (by omega)]) pry1
  have hoky125 : okWorld cs ad gvy41 (900) := okWorld.mv (fun j j1 j2 => by rw [hfvy41 _ (by omega)]) mry1
  have hrecy126 : okRec cs ad gvy41 N (t) (fp) (im) (nz) (kz) (sl) (ho) (ua) (st) (op) (ai) (fa) (mu) (tb) (tp) := ⟨hgy115, bry1, cry1, hgy116, hpy118, hpy119, gry11, hry1, ⟨_, hpy117⟩, ⟨_, hpy120⟩, hpy121, hoky42, hoky125, hpy122, hpy123, hpy124⟩
  refine z_lv (lv' := [(3, .int (zI (0))), (0, .ref (ad 0)), (1, .int (zI (z))), (2, .int (zI (z1)))]) [0, 1, 2, 3] rfl ?_
  exact lp16 _ (0) gvy41 rfl hrecy126 (fun j j1 j2 => by rw [hfvy41 _ (by omega)]) (by omega)

set_option maxRecDepth 100000 in
set_option maxHeartbeats 4000000 in
theorem c_X9_once (l : Launch) (D : va_G) (A : Nat → Prop) (cs : Nat → ClassId) (tt : Nat) (N : Nat) (ad : Nat → Nat) (g : Nat → va_E) (hN : 952 ≤ N) (t fp im nz kz sl ho ua : Int) (st op ai fa mu tb tp : Nat → Int) (hR : okRec cs ad g N t fp im nz kz sl ho ua st op ai fa mu tb tp) (hl0 : l.stackTraces = false) (z : Int) (hz : -2147483648 ≤ z ∧ z ≤ 2147483647) (z1 : Int) (hz1 : -2147483648 ≤ z1 ∧ z1 ≤ 2147483647) : zMX l yX9_once cX9_once 5 (some .int) ({ frames := 12, cells := 6, slots := 60, locals := 720 } : Room) D A cs tt N ad g [.ref (ad 0), .int (zI (z)), .int (zI (z1))] (rI0 N ad fun r g' => (-2147483648 ≤ r ∧ r ≤ 2147483647) ∧ okRec cs ad g' N t fp im nz kz sl ho ua st op ai fa mu tb tp ∧ oX g g') (fun E N' ad' g' => E = eNS ∧ N' = N ∧ ad' = ad ∧ g' = g) := by
  obtain ⟨ary1, bry1, cry1, dry1, ery1, fry1, gry11, hry1, ⟨acry1, iry1⟩, ⟨kcry1, jry1⟩, kry1, lry1, mry1, nry1, ory1, pry1⟩ := id hR
  have hay2 : zAt ad (0) (ad 0) := rfl
  have hay3 : zAt ad (1) (ad 1) := rfl
  have hay4 : zAt ad (2) (ad 2) := rfl
  have hay5 : zAt ad (4) (ad 4) := rfl
  have hay6 : zAt ad (11) (ad 11) := rfl
  have hay7 : zAt ad (447) (ad 447) := rfl
  have hay8 : zAt ad (883) (ad 883) := rfl
  have hay9 : zAt ad (890) (ad 890) := rfl
  have hay10 : zAt ad (900) (ad 900) := rfl
  have hay11 : zAt ad (910) (ad 910) := rfl
  have hay12 : zAt ad (917) (ad 917) := rfl
  have hay13 : zAt ad (919) (ad 919) := rfl
  have hay14 : zAt ad (4 + 1) (ad (4 + 1)) := rfl
  have hay15 : zAt ad (4 + 2) (ad (4 + 2)) := rfl
  have hay16 : zAt ad (4 + 3) (ad (4 + 3)) := rfl
  have hay17 : zAt ad (4 + 4) (ad (4 + 4)) := rfl
  have hay18 : zAt ad (4 + 5) (ad (4 + 5)) := rfl
  have hay19 : zAt ad (4 + 6) (ad (4 + 6)) := rfl
  obtain ⟨thcy20, zhcy20, ohcy20, rhcy20, hzhcy20, hthcy20, hwhcy20⟩ := id lry1
  obtain ⟨thcy21, zhcy21, ohcy21, rhcy21, hzhcy21, hthcy21, hwhcy21⟩ := id mry1
  obtain ⟨asy22, bsy22, csy22, dsy22, esy22, ⟨ptsy22, fsy22, gsy221⟩, hsy22, ⟨nusy22, nvsy22, nwsy22, isy22, jsy22, ksy22, lsy22, msy22, nsy22⟩, rfsy22, osy22⟩ := id iry1
  have hay23 : zAt ad (11 + 1) (ad (11 + 1)) := rfl
  have hay24 : zAt ad (11 + 11) (ad (11 + 11)) := rfl
  have hay25 : zAt ad (11 + 12) (ad (11 + 12)) := rfl
  have hay26 : zAt ad (11 + 13) (ad (11 + 13)) := rfl
  have hay27 : zAt ad (11 + 13 + 1) (ad (11 + 13 + 1)) := rfl
  have hay28 : zAt ad (11 + 13 + 2) (ad (11 + 13 + 2)) := rfl
  have hay29 : zAt ad (11 + 13 + 3) (ad (11 + 13 + 3)) := rfl
  have hay30 : zAt ad (11 + 17) (ad (11 + 17)) := rfl
  obtain ⟨uy31t, uy31z, uy31o, uy31r, uy31z4, uy31t5, uy311, ⟨uy31u, uy312, uy313⟩, uy314⟩ := id csy22
  have hay32 : zAt ad (11 + 1) (ad (11 + 1)) := rfl
  have hay33 : zAt ad (11 + 1 + 1) (ad (11 + 1 + 1)) := rfl
  obtain ⟨sloy34, hooy34, uaoy34, stoy34, opoy34, aioy34, faoy34, muoy34, tboy34, hsloy34, hhooy34, hpoy34⟩ := id kry1
  have hay35 : zAt ad (883 + 1) (ad (883 + 1)) := rfl
  have hay36 : zAt ad (883 + 2) (ad (883 + 2)) := rfl
  have hay37 : zAt ad (883 + 3) (ad (883 + 3)) := rfl
  have hay38 : zAt ad (883 + 4) (ad (883 + 4)) := rfl
  have hay39 : zAt ad (883 + 5) (ad (883 + 5)) := rfl
  have hay40 : zAt ad (883 + 6) (ad (883 + 6)) := rfl
  refine z_ofX (by decide) (Nat.le_of_ble_eq_true rfl) ?_
  intro p e s m below meth c C hr hlk hxt
  refine z_lv (lv' := [(0, .ref (ad 0)), (1, .int (zI (z))), (2, .int (zI (z1)))]) [0, 1, 2] rfl ?_
  refine z_aload_n C 0 dX9_once_0 rfl ?_
  refine z_iload_n C 1 dX9_once_1 rfl ?_
  have hrecy42 : okRec cs ad g N (t) (fp) (im) (nz) (kz) (sl) (ho) (ua) (st) (op) (ai) (fa) (mu) (tb) (tp) := ⟨ary1, bry1, cry1, dry1, ery1, fry1, gry11, hry1, ⟨_, iry1⟩, ⟨_, jry1⟩, kry1, lry1, mry1, nry1, ory1, pry1⟩
  refine z_cVX (As := [.int (zI (z))]) (rest := []) (ci := 11) C (c_X9_needSlope l D A cs tt N ad _ hN _ _ _ _ _ _ _ _ _ _ _ _ _ _ _ hrecy42 hl0 (z) (by omega)) (lt_K hN (rfl : Nat.blt (0) 952 = true)) hay2 ary1 rfl rfl mv_yX9_needSlope q_940 hd_yX9_needSlope (by decide) (Nat.le_of_ble_eq_true rfl) (by decide) dX9_once_2 rfl (fun E N' ad' g' h => by obtain ⟨rfl, rfl, rfl, rfl⟩ := h; exact z_uout C hxt hlk (by decide) (by decide) ⟨rfl, rfl, rfl, rfl⟩) (kV0 fun gvy41 hvy41 => ?_)
  obtain ⟨hvy41, rfl⟩ := hvy41
  refine z_iload_n C 2 dX9_once_5 rfl ?_
  refine z_iconst (z := 1) C dX9_once_6 rfl ?_
  refine z_cSX (As := [.int (zI (z1)), .int (zI (1))]) (rest := []) C (c_X9_needWhat l D A cs tt N ad _ hl0 (z1) (by omega) (1) (by omega)) ms_yX9_needWhat q_1220 hd_yX9_needWhat (by decide) (Nat.le_of_ble_eq_true rfl) (by decide) dX9_once_7 rfl (fun E N' ad' g' h => by obtain ⟨⟨rfl, h9⟩, rfl, rfl, rfl⟩ := h; exact z_uout C hxt hlk (by decide) (by decide) ⟨rfl, rfl, rfl, rfl⟩) (kV0 fun gvy43 hvy43 => ?_)
  obtain ⟨hvy43, rfl⟩ := hvy43
  refine z_aload_n C 0 dX9_once_10 rfl ?_
  refine z_get (v := .ref (ad 890)) C (lt_K hN (rfl : Nat.blt (0) 952 = true)) hay2 ary1 rfl inA_X9 9 (by decide) q_358 rfl rfl dX9_once_11 ?_
  refine z_aload_n C 0 dX9_once_14 rfl ?_
  refine z_get (v := .ref (ad 11)) C (lt_K hN (rfl : Nat.blt (0) 952 = true)) hay2 ary1 rfl inA_X9 5 (by decide) q_354 rfl rfl dX9_once_15 ?_
  refine z_get (v := .ref (ad (11 + 1))) C (lt_K hN (rfl : Nat.blt (11) 952 = true)) hay6 iry1.1 rfl inA_X6 0 (by decide) q_258 rfl rfl dX9_once_18 ?_
  refine z_cV (As := [.ref (ad (11 + 1))]) (rest := []) (ci := 10) C (c_X8_copyFrom l D A cs tt N ad _ (890) (by omega) lry1 (11 + 1) (by omega) csy22 (by omega)) (lt_K hN (rfl : Nat.blt (890) 952 = true)) hay9 hwhcy20.1 rfl rfl mv_yX8_copyFrom q_1228 hd_yX8_copyFrom (by decide) (Nat.le_of_ble_eq_true rfl) (by decide) dX9_once_21 rfl (kV0 fun gvy44 hvy44 => ?_)
  obtain ⟨⟨tvy44, zvy44, ovy44, rvy44, hzvy44, htvy44, -, hwvy44⟩, hfvy44⟩ := hvy44
  have hoky45 : okWorld cs ad gvy44 (890) := ⟨_, _, _, _, hzvy44, htvy44, hwvy44⟩
  obtain ⟨thcy46, zhcy46, ohcy46, rhcy46, hzhcy46, hthcy46, hwhcy46⟩ := id hoky45
  refine z_iconst (z := 0) C dX9_once_24 rfl ?_
  refine z_istore_n (lv' := [(3, .int (zI (0))), (0, .ref (ad 0)), (1, .int (zI (z))), (2, .int (zI (z1)))]) C dX9_once_25 rfl (by decide) rfl ?_
  have lp26 : ∀ (n9 : Nat) (i : Int) (g1 : Nat → va_E), (73 - i).toNat = n9 → (okRec cs ad g1 N t fp im nz kz sl ho ua st op ai fa mu tb tp) → (oX g g1) → (0 ≤ i ∧ i ≤ 73) → (0 ≤ z ∧ z < sl) → (0 ≤ z1 ∧ z1 ≤ 1) → zV p l e ({ frames := 12, cells := 6, slots := 60, locals := 720 } : Room) s m ([.ref (ad 0), .int (zI (z)), .int (zI (z1))] : List Value).toArray below meth c (vx_MQ below (zPost D A (rI0 N ad fun r g' => (-2147483648 ≤ r ∧ r ≤ 2147483647) ∧ okRec cs ad g' N t fp im nz kz sl ho ua st op ai fa mu tb tp ∧ oX g g')) (zX D A (fun E N' ad' g' => E = eNS ∧ N' = N ∧ ad' = ad ∧ g' = g)) ([.ref (ad 0), .int (zI (z)), .int (zI (z1))] : List Value).toArray s ({ frames := 12, cells := 6, slots := 60, locals := 720 } : Room).cells ({ frames := 12, cells := 6, slots := 60, locals := 720 } : Room).slots A) D A 5 (N) ad g1 (2) (12) 26 [(3, .int (zI (i))), (0, .ref (ad 0)), (1, .int (zI (z))), (2, .int (zI (z1)))] [] := by
    intro n9
    induction n9 using Nat.strongRecOn with
    | ind n9 ih_lp26 =>
      intro i g1 hm9 f1 f2 hv26_0 hv26_1 hv26_2
      obtain ⟨ary47, bry47, cry47, dry47, ery47, fry47, gry471, hry47, ⟨acry47, iry47⟩, ⟨kcry47, jry47⟩, kry47, lry47, mry47, nry47, ory47, pry47⟩ := id f1
      have hay48 : zAt ad (0) (ad 0) := rfl
      have hay49 : zAt ad (1) (ad 1) := rfl
      have hay50 : zAt ad (2) (ad 2) := rfl
      have hay51 : zAt ad (4) (ad 4) := rfl
      have hay52 : zAt ad (11) (ad 11) := rfl
      have hay53 : zAt ad (447) (ad 447) := rfl
      have hay54 : zAt ad (883) (ad 883) := rfl
      have hay55 : zAt ad (890) (ad 890) := rfl
      have hay56 : zAt ad (900) (ad 900) := rfl
      have hay57 : zAt ad (910) (ad 910) := rfl
      have hay58 : zAt ad (917) (ad 917) := rfl
      have hay59 : zAt ad (919) (ad 919) := rfl
      have hay60 : zAt ad (4 + 1) (ad (4 + 1)) := rfl
      have hay61 : zAt ad (4 + 2) (ad (4 + 2)) := rfl
      have hay62 : zAt ad (4 + 3) (ad (4 + 3)) := rfl
      have hay63 : zAt ad (4 + 4) (ad (4 + 4)) := rfl
      have hay64 : zAt ad (4 + 5) (ad (4 + 5)) := rfl
      have hay65 : zAt ad (4 + 6) (ad (4 + 6)) := rfl
      obtain ⟨thcy66, zhcy66, ohcy66, rhcy66, hzhcy66, hthcy66, hwhcy66⟩ := id lry47
      obtain ⟨thcy67, zhcy67, ohcy67, rhcy67, hzhcy67, hthcy67, hwhcy67⟩ := id mry47
      obtain ⟨asy68, bsy68, csy68, dsy68, esy68, ⟨ptsy68, fsy68, gsy681⟩, hsy68, ⟨nusy68, nvsy68, nwsy68, isy68, jsy68, ksy68, lsy68, msy68, nsy68⟩, rfsy68, osy68⟩ := id iry47
      have hay69 : zAt ad (11 + 1) (ad (11 + 1)) := rfl
      have hay70 : zAt ad (11 + 11) (ad (11 + 11)) := rfl
      have hay71 : zAt ad (11 + 12) (ad (11 + 12)) := rfl
      have hay72 : zAt ad (11 + 13) (ad (11 + 13)) := rfl
      have hay73 : zAt ad (11 + 13 + 1) (ad (11 + 13 + 1)) := rfl
      have hay74 : zAt ad (11 + 13 + 2) (ad (11 + 13 + 2)) := rfl
      have hay75 : zAt ad (11 + 13 + 3) (ad (11 + 13 + 3)) := rfl
      have hay76 : zAt ad (11 + 17) (ad (11 + 17)) := rfl
      obtain ⟨uy77t, uy77z, uy77o, uy77r, uy77z4, uy77t5, uy771, ⟨uy77u, uy772, uy773⟩, uy774⟩ := id csy68
      have hay78 : zAt ad (11 + 1) (ad (11 + 1)) := rfl
      have hay79 : zAt ad (11 + 1 + 1) (ad (11 + 1 + 1)) := rfl
      obtain ⟨sloy80, hooy80, uaoy80, stoy80, opoy80, aioy80, faoy80, muoy80, tboy80, hsloy80, hhooy80, hpoy80⟩ := id kry47
      have hay81 : zAt ad (883 + 1) (ad (883 + 1)) := rfl
      have hay82 : zAt ad (883 + 2) (ad (883 + 2)) := rfl
      have hay83 : zAt ad (883 + 3) (ad (883 + 3)) := rfl
      have hay84 : zAt ad (883 + 4) (ad (883 + 4)) := rfl
      have hay85 : zAt ad (883 + 5) (ad (883 + 5)) := rfl
      have hay86 : zAt ad (883 + 6) (ad (883 + 6)) := rfl
      refine z_iload_n C 0 dX9_once_26 rfl ?_
      refine z_bipush (z := 72) C dX9_once_27 (by decide) ?_
      refine z_icmp_gt (tgt := 98) C dX9_once_29 (by decide) (by omega) (by omega) (fun hby87 => ?_) (fun hby87 => ?_)
      · refine z_iconst (z := -1) C dX9_once_98 rfl ?_
        have hrecy88 : okRec cs ad g1 N (t) (fp) (im) (nz) (kz) (sl) (ho) (ua) (st) (op) (ai) (fa) (mu) (tb) (tp) := ⟨ary47, bry47, cry47, dry47, ery47, fry47, gry471, hry47, ⟨_, iry47⟩, ⟨_, jry47⟩, kry47, lry47, mry47, nry47, ory47, pry47⟩
        exact z_rX (z_iret C hr hlk dX9_once_99 (by decide) (by decide) ⟨-1, rfl, rfl, rfl, by omega, hrecy88, fun j j1 j2 => by exact f2 j j1 j2⟩)
      · refine z_iload_n C 3 dX9_once_32 rfl ?_
        refine z_if_ne (tgt := 48) C dX9_once_33 (by decide) (by omega) (fun hby89 => ?_) (fun hby89 => ?_)
        · refine z_aload_n C 1 dX9_once_48 rfl ?_
          refine z_get (v := .ref (ad 890)) C (lt_K hN (rfl : Nat.blt (0) 952 = true)) hay48 ary47 rfl inA_X9 9 (by decide) q_358 rfl rfl dX9_once_49 ?_
          refine z_get (v := .ref (ad (890 + 1))) C (lt_K hN (rfl : Nat.blt (890) 952 = true)) hay55 hwhcy66.1 rfl inA_X8 6 (by decide) q_191 rfl rfl dX9_once_52 ?_
          refine z_iload_n C 2 dX9_once_55 rfl ?_
          obtain ⟨uy90t, uy90z, uy90o, uy90r, uy90z4, uy90t5, uy901, ⟨uy90u, uy902, uy903⟩, uy904⟩ := id lry47
          have hay91 : zAt ad (890) (ad 890) := rfl
          have hay92 : zAt ad (890 + 1) (ad (890 + 1)) := rfl
          refine z_aald C (lt_K hN (rfl : Nat.blt (890 + 1) 952 = true)) hay92 uy902 3 rfl ((z).toNat) (by omega) (by omega) (by decide) (uy903 (z).toNat (by omega)) dX9_once_56 ?_
          have hay93 : zAt ad (890 + 2 + 2 * (z).toNat) (ad (890 + 2 + 2 * (z).toNat)) := rfl
          have hay94 : zAt ad (890 + 2 + 2 * (z).toNat + 1) (ad (890 + 2 + 2 * (z).toNat + 1)) := rfl
          have hpy95 := uy904 (z).toNat (by omega)
          have hqy96 := uy90z4 (z).toNat (by omega)
          refine z_get (v := .int (zI (uy90z (z).toNat))) C (by omega) hay93 hpy95.1 rfl inA_X3 0 (by decide) q_158 rfl rfl dX9_once_57 ?_
          refine z_if_ne (tgt := 67) C dX9_once_60 (by decide) (by omega) (fun hby97 => ?_) (fun hby97 => ?_)
          · refine z_iconst (z := 0) C dX9_once_67 rfl ?_
            refine z_istore (lv' := [(4, .int (zI (0))), (3, .int (zI (i))), (0, .ref (ad 0)), (1, .int (zI (z))), (2, .int (zI (z1)))]) C dX9_once_68 (by decide) rfl ?_
            refine z_iload C 0 dX9_once_70 rfl ?_
            refine z_if_eq (tgt := 77) C dX9_once_72 (by decide) (by omega) (fun _ => ?_) (fun h => absurd h (by omega))
            refine z_aload_n C 2 dX9_once_77 rfl ?_
            refine z_get (v := .ref (ad 890)) C (lt_K hN (rfl : Nat.blt (0) 952 = true)) hay48 ary47 rfl inA_X9 9 (by decide) q_358 rfl rfl dX9_once_78 ?_
            refine z_aload_n C 2 dX9_once_81 rfl ?_
            refine z_get (v := .ref (ad 4)) C (lt_K hN (rfl : Nat.blt (0) 952 = true)) hay48 ary47 rfl inA_X9 4 (by decide) q_353 rfl rfl dX9_once_82 ?_
            refine z_iconst (z := 1) C dX9_once_85 rfl ?_
            refine z_iload_n C 3 dX9_once_86 rfl ?_
            obtain ⟨xy98, exy99, hxy100⟩ := zI_of (zI (1) <<< (zI (z) &&& 31))
            refine z_ishl (z := xy98) C dX9_once_87 exy99 ?_
            refine z_iconst (z := 1) C dX9_once_88 rfl ?_
            refine z_cV (As := [.ref (ad 4), .int (zI (xy98)), .int (zI (1))]) (rest := []) (ci := 10) C (c_X8_hour l D A cs tt N ad _ (890) (by omega) lry47 (4) (by omega) _ _ _ _ _ _ _ _ _ ⟨fry47.1, fry47.2.1, fry47.2.2.1, fry47.2.2.2.1, fry47.2.2.2.2.1, fry47.2.2.2.2.2.1, fry47.2.2.2.2.2.2⟩ (by omega) (by omega) (by omega) (xy98) (by omega) (1) (by omega)) (lt_K hN (rfl : Nat.blt (890) 952 = true)) hay91 uy901 rfl rfl mv_yX8_hour q_435 hd_yX8_hour (by decide) (Nat.le_of_ble_eq_true rfl) (by decide) dX9_once_89 rfl (kV0 fun gvy101 hvy101 => ?_)
            obtain ⟨hkvy101, hfvy101⟩ := hvy101
            have hoky102 : okWorld cs ad gvy101 (890) := hkvy101
            obtain ⟨thcy103, zhcy103, ohcy103, rhcy103, hzhcy103, hthcy103, hwhcy103⟩ := id hoky102
            refine z_iinc (z := i + 1) (lv' := [(3, .int (zI (i + 1))), (4, .int (zI (0))), (0, .ref (ad 0)), (1, .int (zI (z))), (2, .int (zI (z1)))]) (j := 1) C dX9_once_92 rfl rfl (by decide) rfl ?_
            refine z_goto (tgt := 26) C dX9_once_95 (by decide) ?_
            have hgy104 := (hfvy101 (0) (by omega)).trans ary47
            have hgy105 := (hfvy101 (1) (by omega)).trans dry47
            have hpy106 := okState.mv (ad' := ad) (g' := gvy101) (fun j h1 h2 => by rfl) (fun j h1 h2 => by rw [hfvy101 _ (by omega)]) iry47
            have hpy107 := okRdr.mv (ad' := ad) (g' := gvy101) (fun j h1 h2 => by rfl) (fun j h1 h2 => by rw [hfvy101 _ (by omega)]) ery47
            have hpy108 := isPlan.mv (ad' := ad) (g' := gvy101) (fun j h1 h2 => by rfl) (fun j h1 h2 => by rw [hfvy101 _ (by omega)]) fry47
            have hpy109 := okState.mv (ad' := ad) (g' := gvy101) (fun j h1 h2 => by rfl) (fun j h1 h2 => by rw [hfvy101 _ (by omega)]) jry47
            have hpy110 := okPlan.mv (ad' := ad) (g' := gvy101) (fun j h1 h2 => by rfl) (fun j h1 h2 => by rw [hfvy101 _ (by omega)]) kry47
            have hpy111 := okGss.mv (ad' := ad) (g' := gvy101) (fun j h1 h2 => by rfl) (fun j h1 h2 => by rw [hfvy101 _ (by omega)]) nry47
            have hpy112 := okLike.mv (ad' := ad) (g' := gvy101) (fun j h1 h2 => by rfl) (fun j h1 h2 => by rw [hfvy101 _ (by omega)]) ory47
            have hpy113 := okBld.mv (ad' := ad) (g' := gvy101) (fun j h1 h2 => by rfl) (fun j h1 h2 => by rw [hfvy101 _ (by omega)]) pry47
            have hoky114 : okWorld cs ad gvy101 (900) := okWorld.mv (fun j j1 j2 => by rw [hfvy101 _ (by omega)]) mry47
            have hrecy115 : okRec cs ad gvy101 N (t) (fp) (im) (nz) (kz) (sl) (ho) (ua) (st) (op) (ai) (fa) (mu) (tb) (tp) := ⟨hgy104, bry47, cry47, hgy105, hpy107, hpy108, gry471, hry47, ⟨_, hpy106⟩, ⟨_, hpy109⟩, hpy110, hoky102, hoky114, hpy111, hpy112, hpy113⟩
            refine z_lv (lv' := [(3, .int (zI (i + 1))), (0, .ref (ad 0)), (1, .int (zI (z))), (2, .int (zI (z1)))]) [0, 2, 3, 4] rfl ?_
            exact ih_lp26 _ (by omega) (i + 1) gvy101 rfl hrecy115 (fun j j1 j2 => by rw [hfvy101 _ (by omega)]; exact f2 j j1 j2) (by omega) (by omega) (by omega)
          · refine z_iconst (z := 1) C dX9_once_63 rfl ?_
            refine z_goto (tgt := 68) C dX9_once_64 (by decide) ?_
            refine z_istore (lv' := [(4, .int (zI (1))), (3, .int (zI (i))), (0, .ref (ad 0)), (1, .int (zI (z))), (2, .int (zI (z1)))]) C dX9_once_68 (by decide) rfl ?_
            refine z_iload C 0 dX9_once_70 rfl ?_
            refine z_if_eq (tgt := 77) C dX9_once_72 (by decide) (by omega) (fun h => absurd h (by omega)) (fun _ => ?_)
            refine z_iload_n C 1 dX9_once_75 rfl ?_
            have hrecy116 : okRec cs ad g1 N (t) (fp) (im) (nz) (kz) (sl) (ho) (ua) (st) (op) (ai) (fa) (mu) (tb) (tp) := ⟨ary47, bry47, cry47, dry47, ery47, fry47, gry471, hry47, ⟨_, iry47⟩, ⟨_, jry47⟩, kry47, lry47, mry47, nry47, ory47, pry47⟩
            exact z_rX (z_iret C hr hlk dX9_once_76 (by decide) (by decide) ⟨i, rfl, rfl, rfl, by omega, hrecy116, fun j j1 j2 => by exact f2 j j1 j2⟩)
        · refine z_aload_n C 1 dX9_once_36 rfl ?_
          refine z_aload_n C 1 dX9_once_37 rfl ?_
          refine z_get (v := .ref (ad 890)) C (lt_K hN (rfl : Nat.blt (0) 952 = true)) hay48 ary47 rfl inA_X9 9 (by decide) q_358 rfl rfl dX9_once_38 ?_
          refine z_iload_n C 2 dX9_once_41 rfl ?_
          have hrecy118 : okRec cs ad g1 N (t) (fp) (im) (nz) (kz) (sl) (ho) (ua) (st) (op) (ai) (fa) (mu) (tb) (tp) := ⟨ary47, bry47, cry47, dry47, ery47, fry47, gry471, hry47, ⟨_, iry47⟩, ⟨_, jry47⟩, kry47, lry47, mry47, nry47, ory47, pry47⟩
          refine z_cV (As := [.ref (ad 890), .int (zI (z))]) (rest := []) (ci := 11) C (c_X9_isUnstable l D A cs tt N ad _ hN _ _ _ _ _ _ _ _ _ _ _ _ _ _ _ hrecy118 (890) (by omega) lry47 (z) (by omega)) (lt_K hN (rfl : Nat.blt (0) 952 = true)) hay48 ary47 rfl rfl mv_yX9_isUnstable q_560 hd_yX9_isUnstable (by decide) (Nat.le_of_ble_eq_true rfl) (by decide) dX9_once_42 rfl (kI0 fun vy117 gvy117 hvy117 => ?_)
          obtain ⟨hvy117, rfl⟩ := hvy117
          refine z_goto (tgt := 68) C dX9_once_45 (by decide) ?_
          refine z_istore (lv' := [(4, .int (zI (vy117))), (3, .int (zI (i))), (0, .ref (ad 0)), (1, .int (zI (z))), (2, .int (zI (z1)))]) C dX9_once_68 (by decide) rfl ?_
          refine z_iload C 0 dX9_once_70 rfl ?_
          refine z_if_eq (tgt := 77) C dX9_once_72 (by decide) (by omega) (fun hby119 => ?_) (fun hby119 => ?_)
          · refine z_aload_n C 2 dX9_once_77 rfl ?_
            refine z_get (v := .ref (ad 890)) C (lt_K hN (rfl : Nat.blt (0) 952 = true)) hay48 ary47 rfl inA_X9 9 (by decide) q_358 rfl rfl dX9_once_78 ?_
            refine z_aload_n C 2 dX9_once_81 rfl ?_
            refine z_get (v := .ref (ad 4)) C (lt_K hN (rfl : Nat.blt (0) 952 = true)) hay48 ary47 rfl inA_X9 4 (by decide) q_353 rfl rfl dX9_once_82 ?_
            refine z_iconst (z := 1) C dX9_once_85 rfl ?_
            refine z_iload_n C 3 dX9_once_86 rfl ?_
            obtain ⟨xy120, exy121, hxy122⟩ := zI_of (zI (1) <<< (zI (z) &&& 31))
            refine z_ishl (z := xy120) C dX9_once_87 exy121 ?_
            refine z_iconst (z := 1) C dX9_once_88 rfl ?_
            refine z_cV (As := [.ref (ad 4), .int (zI (xy120)), .int (zI (1))]) (rest := []) (ci := 10) C (c_X8_hour l D A cs tt N ad _ (890) (by omega) lry47 (4) (by omega) _ _ _ _ _ _ _ _ _ ⟨fry47.1, fry47.2.1, fry47.2.2.1, fry47.2.2.2.1, fry47.2.2.2.2.1, fry47.2.2.2.2.2.1, fry47.2.2.2.2.2.2⟩ (by omega) (by omega) (by omega) (xy120) (by omega) (1) (by omega)) (lt_K hN (rfl : Nat.blt (890) 952 = true)) hay55 hwhcy66.1 rfl rfl mv_yX8_hour q_435 hd_yX8_hour (by decide) (Nat.le_of_ble_eq_true rfl) (by decide) dX9_once_89 rfl (kV0 fun gvy123 hvy123 => ?_)
            obtain ⟨hkvy123, hfvy123⟩ := hvy123
            have hoky124 : okWorld cs ad gvy123 (890) := hkvy123
            obtain ⟨thcy125, zhcy125, ohcy125, rhcy125, hzhcy125, hthcy125, hwhcy125⟩ := id hoky124
            refine z_iinc (z := i + 1) (lv' := [(3, .int (zI (i + 1))), (4, .int (zI (vy117))), (0, .ref (ad 0)), (1, .int (zI (z))), (2, .int (zI (z1)))]) (j := 1) C dX9_once_92 rfl rfl (by decide) rfl ?_
            refine z_goto (tgt := 26) C dX9_once_95 (by decide) ?_
            have hgy126 := (hfvy123 (0) (by omega)).trans ary47
            have hgy127 := (hfvy123 (1) (by omega)).trans dry47
            have hpy128 := okState.mv (ad' := ad) (g' := gvy123) (fun j h1 h2 => by rfl) (fun j h1 h2 => by rw [hfvy123 _ (by omega)]) iry47
            have hpy129 := okRdr.mv (ad' := ad) (g' := gvy123) (fun j h1 h2 => by rfl) (fun j h1 h2 => by rw [hfvy123 _ (by omega)]) ery47
            have hpy130 := isPlan.mv (ad' := ad) (g' := gvy123) (fun j h1 h2 => by rfl) (fun j h1 h2 => by rw [hfvy123 _ (by omega)]) fry47
            have hpy131 := okState.mv (ad' := ad) (g' := gvy123) (fun j h1 h2 => by rfl) (fun j h1 h2 => by rw [hfvy123 _ (by omega)]) jry47
            have hpy132 := okPlan.mv (ad' := ad) (g' := gvy123) (fun j h1 h2 => by rfl) (fun j h1 h2 => by rw [hfvy123 _ (by omega)]) kry47
            have hpy133 := okGss.mv (ad' := ad) (g' := gvy123) (fun j h1 h2 => by rfl) (fun j h1 h2 => by rw [hfvy123 _ (by omega)]) nry47
            have hpy134 := okLike.mv (ad' := ad) (g' := gvy123) (fun j h1 h2 => by rfl) (fun j h1 h2 => by rw [hfvy123 _ (by omega)]) ory47
            have hpy135 := okBld.mv (ad' := ad) (g' := gvy123) (fun j h1 h2 => by rfl) (fun j h1 h2 => by rw [hfvy123 _ (by omega)]) pry47
            have hoky136 : okWorld cs ad gvy123 (900) := okWorld.mv (fun j j1 j2 => by rw [hfvy123 _ (by omega)]) mry47
            have hrecy137 : okRec cs ad gvy123 N (t) (fp) (im) (nz) (kz) (sl) (ho) (ua) (st) (op) (ai) (fa) (mu) (tb) (tp) := ⟨hgy126, bry47, cry47, hgy127, hpy129, hpy130, gry471, hry47, ⟨_, hpy128⟩, ⟨_, hpy131⟩, hpy132, hoky124, hoky136, hpy133, hpy134, hpy135⟩
            refine z_lv (lv' := [(3, .int (zI (i + 1))), (0, .ref (ad 0)), (1, .int (zI (z))), (2, .int (zI (z1)))]) [0, 2, 3, 4] rfl ?_
            exact ih_lp26 _ (by omega) (i + 1) gvy123 rfl hrecy137 (fun j j1 j2 => by rw [hfvy123 _ (by omega)]; exact f2 j j1 j2) (by omega) (by omega) (by omega)
          · refine z_iload_n C 1 dX9_once_75 rfl ?_
            have hrecy138 : okRec cs ad g1 N (t) (fp) (im) (nz) (kz) (sl) (ho) (ua) (st) (op) (ai) (fa) (mu) (tb) (tp) := ⟨ary47, bry47, cry47, dry47, ery47, fry47, gry471, hry47, ⟨_, iry47⟩, ⟨_, jry47⟩, kry47, lry47, mry47, nry47, ory47, pry47⟩
            exact z_rX (z_iret C hr hlk dX9_once_76 (by decide) (by decide) ⟨i, rfl, rfl, rfl, by omega, hrecy138, fun j j1 j2 => by exact f2 j j1 j2⟩)
  have hgy139 := (hfvy44 (0) (by omega)).trans ary1
  have hgy140 := (hfvy44 (1) (by omega)).trans dry1
  have hpy141 := okState.mv (ad' := ad) (g' := gvy44) (fun j h1 h2 => by rfl) (fun j h1 h2 => by rw [hfvy44 _ (by omega)]) iry1
  have hpy142 := okRdr.mv (ad' := ad) (g' := gvy44) (fun j h1 h2 => by rfl) (fun j h1 h2 => by rw [hfvy44 _ (by omega)]) ery1
  have hpy143 := isPlan.mv (ad' := ad) (g' := gvy44) (fun j h1 h2 => by rfl) (fun j h1 h2 => by rw [hfvy44 _ (by omega)]) fry1
  have hpy144 := okState.mv (ad' := ad) (g' := gvy44) (fun j h1 h2 => by rfl) (fun j h1 h2 => by rw [hfvy44 _ (by omega)]) jry1
  have hpy145 := okPlan.mv (ad' := ad) (g' := gvy44) (fun j h1 h2 => by rfl) (fun j h1 h2 => by rw [hfvy44 _ (by omega)]) kry1
  have hpy146 := okGss.mv (ad' := ad) (g' := gvy44) (fun j h1 h2 => by rfl) (fun j h1 h2 => by rw [hfvy44 _ (by omega)]) nry1
  have hpy147 := okLike.mv (ad' := ad) (g' := gvy44) (fun j h1 h2 => by rfl) (fun j h1 h2 => by rw [hfvy44 _ (by omega)]) ory1
  have hpy148 := okBld.mv (ad' := ad) (g' := gvy44) (fun j h1 h2 => by rfl) (fun j h1 h2 => by rw [hfvy44 _ (by omega)]) pry1
  have hoky149 : okWorld cs ad gvy44 (900) := okWorld.mv (fun j j1 j2 => by rw [hfvy44 _ (by omega)]) mry1
  have hrecy150 : okRec cs ad gvy44 N (t) (fp) (im) (nz) (kz) (sl) (ho) (ua) (st) (op) (ai) (fa) (mu) (tb) (tp) := ⟨hgy139, bry1, cry1, hgy140, hpy142, hpy143, gry11, hry1, ⟨_, hpy141⟩, ⟨_, hpy144⟩, hpy145, hoky45, hoky149, hpy146, hpy147, hpy148⟩
  refine z_lv (lv' := [(3, .int (zI (0))), (0, .ref (ad 0)), (1, .int (zI (z))), (2, .int (zI (z1)))]) [0, 1, 2, 3] rfl ?_
  exact lp26 _ (0) gvy44 rfl hrecy150 (fun j j1 j2 => by rw [hfvy44 _ (by omega)]) (by omega) (by omega) (by omega)

set_option maxRecDepth 100000 in
set_option maxHeartbeats 4000000 in
theorem c_X9_gone (l : Launch) (D : va_G) (A : Nat → Prop) (cs : Nat → ClassId) (tt : Nat) (N : Nat) (ad : Nat → Nat) (g : Nat → va_E) (hN : 952 ≤ N) (t fp im nz kz sl ho ua : Int) (st op ai fa mu tb tp : Nat → Int) (hR : okRec cs ad g N t fp im nz kz sl ho ua st op ai fa mu tb tp) (hl0 : l.stackTraces = false) (z : Int) (hz : -2147483648 ≤ z ∧ z ≤ 2147483647) : zMX l yX9_gone cX9_gone 3 (some .int) ({ frames := 12, cells := 6, slots := 60, locals := 720 } : Room) D A cs tt N ad g [.ref (ad 0), .int (zI (z))] (rI0 N ad fun r g' => (-2147483648 ≤ r ∧ r ≤ 2147483647) ∧ okRec cs ad g' N t fp im nz kz sl ho ua st op ai fa mu tb tp ∧ oX g g') (fun E N' ad' g' => E = eNS ∧ N' = N ∧ ad' = ad ∧ g' = g) := by
  obtain ⟨ary1, bry1, cry1, dry1, ery1, fry1, gry11, hry1, ⟨acry1, iry1⟩, ⟨kcry1, jry1⟩, kry1, lry1, mry1, nry1, ory1, pry1⟩ := id hR
  have hay2 : zAt ad (0) (ad 0) := rfl
  have hay3 : zAt ad (1) (ad 1) := rfl
  have hay4 : zAt ad (2) (ad 2) := rfl
  have hay5 : zAt ad (4) (ad 4) := rfl
  have hay6 : zAt ad (11) (ad 11) := rfl
  have hay7 : zAt ad (447) (ad 447) := rfl
  have hay8 : zAt ad (883) (ad 883) := rfl
  have hay9 : zAt ad (890) (ad 890) := rfl
  have hay10 : zAt ad (900) (ad 900) := rfl
  have hay11 : zAt ad (910) (ad 910) := rfl
  have hay12 : zAt ad (917) (ad 917) := rfl
  have hay13 : zAt ad (919) (ad 919) := rfl
  have hay14 : zAt ad (4 + 1) (ad (4 + 1)) := rfl
  have hay15 : zAt ad (4 + 2) (ad (4 + 2)) := rfl
  have hay16 : zAt ad (4 + 3) (ad (4 + 3)) := rfl
  have hay17 : zAt ad (4 + 4) (ad (4 + 4)) := rfl
  have hay18 : zAt ad (4 + 5) (ad (4 + 5)) := rfl
  have hay19 : zAt ad (4 + 6) (ad (4 + 6)) := rfl
  obtain ⟨thcy20, zhcy20, ohcy20, rhcy20, hzhcy20, hthcy20, hwhcy20⟩ := id lry1
  obtain ⟨thcy21, zhcy21, ohcy21, rhcy21, hzhcy21, hthcy21, hwhcy21⟩ := id mry1
  obtain ⟨asy22, bsy22, csy22, dsy22, esy22, ⟨ptsy22, fsy22, gsy221⟩, hsy22, ⟨nusy22, nvsy22, nwsy22, isy22, jsy22, ksy22, lsy22, msy22, nsy22⟩, rfsy22, osy22⟩ := id iry1
  have hay23 : zAt ad (11 + 1) (ad (11 + 1)) := rfl
  have hay24 : zAt ad (11 + 11) (ad (11 + 11)) := rfl
  have hay25 : zAt ad (11 + 12) (ad (11 + 12)) := rfl
  have hay26 : zAt ad (11 + 13) (ad (11 + 13)) := rfl
  have hay27 : zAt ad (11 + 13 + 1) (ad (11 + 13 + 1)) := rfl
  have hay28 : zAt ad (11 + 13 + 2) (ad (11 + 13 + 2)) := rfl
  have hay29 : zAt ad (11 + 13 + 3) (ad (11 + 13 + 3)) := rfl
  have hay30 : zAt ad (11 + 17) (ad (11 + 17)) := rfl
  obtain ⟨uy31t, uy31z, uy31o, uy31r, uy31z4, uy31t5, uy311, ⟨uy31u, uy312, uy313⟩, uy314⟩ := id csy22
  have hay32 : zAt ad (11 + 1) (ad (11 + 1)) := rfl
  have hay33 : zAt ad (11 + 1 + 1) (ad (11 + 1 + 1)) := rfl
  obtain ⟨sloy34, hooy34, uaoy34, stoy34, opoy34, aioy34, faoy34, muoy34, tboy34, hsloy34, hhooy34, hpoy34⟩ := id kry1
  have hay35 : zAt ad (883 + 1) (ad (883 + 1)) := rfl
  have hay36 : zAt ad (883 + 2) (ad (883 + 2)) := rfl
  have hay37 : zAt ad (883 + 3) (ad (883 + 3)) := rfl
  have hay38 : zAt ad (883 + 4) (ad (883 + 4)) := rfl
  have hay39 : zAt ad (883 + 5) (ad (883 + 5)) := rfl
  have hay40 : zAt ad (883 + 6) (ad (883 + 6)) := rfl
  refine z_ofX (by decide) (Nat.le_of_ble_eq_true rfl) ?_
  intro p e s m below meth c C hr hlk hxt
  refine z_lv (lv' := [(0, .ref (ad 0)), (1, .int (zI (z)))]) [0, 1] rfl ?_
  refine z_iload_n C 1 dX9_gone_0 rfl ?_
  refine z_if_lt (tgt := 18) C dX9_gone_1 (by decide) (by omega) (fun hby41 => ?_) (fun hby41 => ?_)
  · exact z_thrNW (cls := eNS) (text := "that name isn't given") C hl0 (ix := 13) (rx := nsB) ns0 ns1 ns2 ns5 (by decide +kernel) q_904 q_24 (by decide +kernel) at_NS gd_NS dX9_gone_18 dX9_gone_21 dX9_gone_22 dX9_gone_25 dX9_gone_28 hxt (by decide) (Nat.le_of_ble_eq_true rfl) (by decide) (by decide) hlk (by decide) (by decide) ⟨rfl, rfl, rfl, rfl⟩
  · refine z_iload_n C 1 dX9_gone_4 rfl ?_
    refine z_aload_n C 0 dX9_gone_5 rfl ?_
    refine z_get (v := .ref (ad 11)) C (lt_K hN (rfl : Nat.blt (0) 952 = true)) hay2 ary1 rfl inA_X9 5 (by decide) q_354 rfl rfl dX9_gone_6 ?_
    refine z_get (v := .ref (ad (11 + 1))) C (lt_K hN (rfl : Nat.blt (11) 952 = true)) hay6 iry1.1 rfl inA_X6 0 (by decide) q_258 rfl rfl dX9_gone_9 ?_
    refine z_get (v := .int (zI (uy31t 1))) C (lt_K hN (rfl : Nat.blt (11 + 1) 952 = true)) hay32 uy311 rfl inA_X8 1 (by decide) q_177 rfl rfl dX9_gone_12 ?_
    obtain ⟨xy42, exy43, hxy44⟩ := zI_of (zI (uy31t 1))
    rw [exy43]
    refine z_icmp_lt (tgt := 29) C dX9_gone_15 (by decide) (by omega) (by omega) (fun hby45 => ?_) (fun hby45 => ?_)
    · refine z_aload_n C 0 dX9_gone_29 rfl ?_
      refine z_get (v := .ref (ad 890)) C (lt_K hN (rfl : Nat.blt (0) 952 = true)) hay2 ary1 rfl inA_X9 9 (by decide) q_358 rfl rfl dX9_gone_30 ?_
      refine z_aload_n C 0 dX9_gone_33 rfl ?_
      refine z_get (v := .ref (ad 11)) C (lt_K hN (rfl : Nat.blt (0) 952 = true)) hay2 ary1 rfl inA_X9 5 (by decide) q_354 rfl rfl dX9_gone_34 ?_
      refine z_get (v := .ref (ad (11 + 1))) C (lt_K hN (rfl : Nat.blt (11) 952 = true)) hay6 iry1.1 rfl inA_X6 0 (by decide) q_258 rfl rfl dX9_gone_37 ?_
      refine z_cV (As := [.ref (ad (11 + 1))]) (rest := []) (ci := 10) C (c_X8_copyFrom l D A cs tt N ad _ (890) (by omega) lry1 (11 + 1) (by omega) csy22 (by omega)) (lt_K hN (rfl : Nat.blt (890) 952 = true)) hay9 hwhcy20.1 rfl rfl mv_yX8_copyFrom q_1228 hd_yX8_copyFrom (by decide) (Nat.le_of_ble_eq_true rfl) (by decide) dX9_gone_40 rfl (kV0 fun gvy46 hvy46 => ?_)
      obtain ⟨⟨tvy46, zvy46, ovy46, rvy46, hzvy46, htvy46, -, hwvy46⟩, hfvy46⟩ := hvy46
      have hoky47 : okWorld cs ad gvy46 (890) := ⟨_, _, _, _, hzvy46, htvy46, hwvy46⟩
      obtain ⟨thcy48, zhcy48, ohcy48, rhcy48, hzhcy48, hthcy48, hwhcy48⟩ := id hoky47
      refine z_iconst (z := 0) C dX9_gone_43 rfl ?_
      refine z_istore_n (lv' := [(2, .int (zI (0))), (0, .ref (ad 0)), (1, .int (zI (z)))]) C dX9_gone_44 rfl (by decide) rfl ?_
      have lp45 : ∀ (n9 : Nat) (i : Int) (g1 : Nat → va_E), (73 - i).toNat = n9 → (okRec cs ad g1 N t fp im nz kz sl ho ua st op ai fa mu tb tp) → (oX g g1) → (0 ≤ i ∧ i ≤ 73) → zV p l e ({ frames := 12, cells := 6, slots := 60, locals := 720 } : Room) s m ([.ref (ad 0), .int (zI (z))] : List Value).toArray below meth c (vx_MQ below (zPost D A (rI0 N ad fun r g' => (-2147483648 ≤ r ∧ r ≤ 2147483647) ∧ okRec cs ad g' N t fp im nz kz sl ho ua st op ai fa mu tb tp ∧ oX g g')) (zX D A (fun E N' ad' g' => E = eNS ∧ N' = N ∧ ad' = ad ∧ g' = g)) ([.ref (ad 0), .int (zI (z))] : List Value).toArray s ({ frames := 12, cells := 6, slots := 60, locals := 720 } : Room).cells ({ frames := 12, cells := 6, slots := 60, locals := 720 } : Room).slots A) D A 3 (N) ad g1 (0) (0) 45 [(2, .int (zI (i))), (0, .ref (ad 0)), (1, .int (zI (z)))] [] := by
        intro n9
        induction n9 using Nat.strongRecOn with
        | ind n9 ih_lp45 =>
          intro i g1 hm9 f1 f2 hv45_0
          obtain ⟨ary49, bry49, cry49, dry49, ery49, fry49, gry491, hry49, ⟨acry49, iry49⟩, ⟨kcry49, jry49⟩, kry49, lry49, mry49, nry49, ory49, pry49⟩ := id f1
          have hay50 : zAt ad (0) (ad 0) := rfl
          have hay51 : zAt ad (1) (ad 1) := rfl
          have hay52 : zAt ad (2) (ad 2) := rfl
          have hay53 : zAt ad (4) (ad 4) := rfl
          have hay54 : zAt ad (11) (ad 11) := rfl
          have hay55 : zAt ad (447) (ad 447) := rfl
          have hay56 : zAt ad (883) (ad 883) := rfl
          have hay57 : zAt ad (890) (ad 890) := rfl
          have hay58 : zAt ad (900) (ad 900) := rfl
          have hay59 : zAt ad (910) (ad 910) := rfl
          have hay60 : zAt ad (917) (ad 917) := rfl
          have hay61 : zAt ad (919) (ad 919) := rfl
          have hay62 : zAt ad (4 + 1) (ad (4 + 1)) := rfl
          have hay63 : zAt ad (4 + 2) (ad (4 + 2)) := rfl
          have hay64 : zAt ad (4 + 3) (ad (4 + 3)) := rfl
          have hay65 : zAt ad (4 + 4) (ad (4 + 4)) := rfl
          have hay66 : zAt ad (4 + 5) (ad (4 + 5)) := rfl
          have hay67 : zAt ad (4 + 6) (ad (4 + 6)) := rfl
          obtain ⟨thcy68, zhcy68, ohcy68, rhcy68, hzhcy68, hthcy68, hwhcy68⟩ := id lry49
          obtain ⟨thcy69, zhcy69, ohcy69, rhcy69, hzhcy69, hthcy69, hwhcy69⟩ := id mry49
          obtain ⟨asy70, bsy70, csy70, dsy70, esy70, ⟨ptsy70, fsy70, gsy701⟩, hsy70, ⟨nusy70, nvsy70, nwsy70, isy70, jsy70, ksy70, lsy70, msy70, nsy70⟩, rfsy70, osy70⟩ := id iry49
          have hay71 : zAt ad (11 + 1) (ad (11 + 1)) := rfl
          have hay72 : zAt ad (11 + 11) (ad (11 + 11)) := rfl
          have hay73 : zAt ad (11 + 12) (ad (11 + 12)) := rfl
          have hay74 : zAt ad (11 + 13) (ad (11 + 13)) := rfl
          have hay75 : zAt ad (11 + 13 + 1) (ad (11 + 13 + 1)) := rfl
          have hay76 : zAt ad (11 + 13 + 2) (ad (11 + 13 + 2)) := rfl
          have hay77 : zAt ad (11 + 13 + 3) (ad (11 + 13 + 3)) := rfl
          have hay78 : zAt ad (11 + 17) (ad (11 + 17)) := rfl
          obtain ⟨uy79t, uy79z, uy79o, uy79r, uy79z4, uy79t5, uy791, ⟨uy79u, uy792, uy793⟩, uy794⟩ := id csy70
          have hay80 : zAt ad (11 + 1) (ad (11 + 1)) := rfl
          have hay81 : zAt ad (11 + 1 + 1) (ad (11 + 1 + 1)) := rfl
          obtain ⟨sloy82, hooy82, uaoy82, stoy82, opoy82, aioy82, faoy82, muoy82, tboy82, hsloy82, hhooy82, hpoy82⟩ := id kry49
          have hay83 : zAt ad (883 + 1) (ad (883 + 1)) := rfl
          have hay84 : zAt ad (883 + 2) (ad (883 + 2)) := rfl
          have hay85 : zAt ad (883 + 3) (ad (883 + 3)) := rfl
          have hay86 : zAt ad (883 + 4) (ad (883 + 4)) := rfl
          have hay87 : zAt ad (883 + 5) (ad (883 + 5)) := rfl
          have hay88 : zAt ad (883 + 6) (ad (883 + 6)) := rfl
          refine z_iload_n C 0 dX9_gone_45 rfl ?_
          refine z_bipush (z := 72) C dX9_gone_46 (by decide) ?_
          refine z_icmp_gt (tgt := 89) C dX9_gone_48 (by decide) (by omega) (by omega) (fun hby89 => ?_) (fun hby89 => ?_)
          · refine z_iconst (z := -1) C dX9_gone_89 rfl ?_
            have hrecy90 : okRec cs ad g1 N (t) (fp) (im) (nz) (kz) (sl) (ho) (ua) (st) (op) (ai) (fa) (mu) (tb) (tp) := ⟨ary49, bry49, cry49, dry49, ery49, fry49, gry491, hry49, ⟨_, iry49⟩, ⟨_, jry49⟩, kry49, lry49, mry49, nry49, ory49, pry49⟩
            exact z_rX (z_iret C hr hlk dX9_gone_90 (by decide) (by decide) ⟨-1, rfl, rfl, rfl, by omega, hrecy90, fun j j1 j2 => by exact f2 j j1 j2⟩)
          · refine z_aload_n C 1 dX9_gone_51 rfl ?_
            refine z_get (v := .ref (ad 890)) C (lt_K hN (rfl : Nat.blt (0) 952 = true)) hay50 ary49 rfl inA_X9 9 (by decide) q_358 rfl rfl dX9_gone_52 ?_
            refine z_iload_n C 2 dX9_gone_55 rfl ?_
            refine z_cV (As := [.int (zI (z))]) (rest := []) (ci := 10) C (c_X8_has l D A cs tt N ad _ (890) (by omega) lry49 (z) (by omega)) (lt_K hN (rfl : Nat.blt (890) 952 = true)) hay57 hwhcy68.1 rfl rfl mv_yX8_has q_1248 hd_yX8_has (by decide) (Nat.le_of_ble_eq_true rfl) (by decide) dX9_gone_56 rfl (kI0 fun vy91 gvy91 hvy91 => ?_)
            obtain ⟨hvy91, rfl⟩ := hvy91
            refine z_if_ne (tgt := 64) C dX9_gone_59 (by decide) (by omega) (fun hby92 => ?_) (fun hby92 => ?_)
            · refine z_aload_n C 1 dX9_gone_64 rfl ?_
              refine z_get (v := .ref (ad 890)) C (lt_K hN (rfl : Nat.blt (0) 952 = true)) hay50 ary49 rfl inA_X9 9 (by decide) q_358 rfl rfl dX9_gone_65 ?_
              refine z_aload_n C 1 dX9_gone_68 rfl ?_
              refine z_get (v := .ref (ad 4)) C (lt_K hN (rfl : Nat.blt (0) 952 = true)) hay50 ary49 rfl inA_X9 4 (by decide) q_353 rfl rfl dX9_gone_69 ?_
              refine z_aload_n C 1 dX9_gone_72 rfl ?_
              refine z_get (v := .ref (ad 4)) C (lt_K hN (rfl : Nat.blt (0) 952 = true)) hay50 ary49 rfl inA_X9 4 (by decide) q_353 rfl rfl dX9_gone_73 ?_
              refine z_cV (As := []) (rest := [.ref (ad 4), .ref (ad 890)]) (ci := 7) C (c_X5_allSlopes l D A cs tt N ad _ (4) (by omega) _ _ _ _ _ _ _ _ _ ⟨fry49.1, fry49.2.1, fry49.2.2.1, fry49.2.2.2.1, fry49.2.2.2.2.1, fry49.2.2.2.2.2.1, fry49.2.2.2.2.2.2⟩) (lt_K hN (rfl : Nat.blt (4) 952 = true)) hay53 fry49.1 rfl rfl mv_yX5_allSlopes q_431 hd_yX5_allSlopes (by decide) (Nat.le_of_ble_eq_true rfl) (by decide) dX9_gone_76 rfl (kI0 fun vy93 gvy93 hvy93 => ?_)
              obtain ⟨hvy93, rfl⟩ := hvy93
              refine z_iconst (z := 1) C dX9_gone_79 rfl ?_
              refine z_cV (As := [.ref (ad 4), .int (zI (vy93)), .int (zI (1))]) (rest := []) (ci := 10) C (c_X8_hour l D A cs tt N ad _ (890) (by omega) lry49 (4) (by omega) _ _ _ _ _ _ _ _ _ ⟨fry49.1, fry49.2.1, fry49.2.2.1, fry49.2.2.2.1, fry49.2.2.2.2.1, fry49.2.2.2.2.2.1, fry49.2.2.2.2.2.2⟩ (by omega) (by omega) (by omega) (vy93) (by omega) (1) (by omega)) (lt_K hN (rfl : Nat.blt (890) 952 = true)) hay57 hwhcy68.1 rfl rfl mv_yX8_hour q_435 hd_yX8_hour (by decide) (Nat.le_of_ble_eq_true rfl) (by decide) dX9_gone_80 rfl (kV0 fun gvy94 hvy94 => ?_)
              obtain ⟨hkvy94, hfvy94⟩ := hvy94
              have hoky95 : okWorld cs ad gvy94 (890) := hkvy94
              obtain ⟨thcy96, zhcy96, ohcy96, rhcy96, hzhcy96, hthcy96, hwhcy96⟩ := id hoky95
              refine z_iinc (z := i + 1) (lv' := [(2, .int (zI (i + 1))), (0, .ref (ad 0)), (1, .int (zI (z)))]) (j := 0) C dX9_gone_83 rfl rfl (by decide) rfl ?_
              refine z_goto (tgt := 45) C dX9_gone_86 (by decide) ?_
              have hgy97 := (hfvy94 (0) (by omega)).trans ary49
              have hgy98 := (hfvy94 (1) (by omega)).trans dry49
              have hpy99 := okState.mv (ad' := ad) (g' := gvy94) (fun j h1 h2 => by rfl) (fun j h1 h2 => by rw [hfvy94 _ (by omega)]) iry49
              have hpy100 := okRdr.mv (ad' := ad) (g' := gvy94) (fun j h1 h2 => by rfl) (fun j h1 h2 => by rw [hfvy94 _ (by omega)]) ery49
              have hpy101 := isPlan.mv (ad' := ad) (g' := gvy94) (fun j h1 h2 => by rfl) (fun j h1 h2 => by rw [hfvy94 _ (by omega)]) fry49
              have hpy102 := okState.mv (ad' := ad) (g' := gvy94) (fun j h1 h2 => by rfl) (fun j h1 h2 => by rw [hfvy94 _ (by omega)]) jry49
              have hpy103 := okPlan.mv (ad' := ad) (g' := gvy94) (fun j h1 h2 => by rfl) (fun j h1 h2 => by rw [hfvy94 _ (by omega)]) kry49
              have hpy104 := okGss.mv (ad' := ad) (g' := gvy94) (fun j h1 h2 => by rfl) (fun j h1 h2 => by rw [hfvy94 _ (by omega)]) nry49
              have hpy105 := okLike.mv (ad' := ad) (g' := gvy94) (fun j h1 h2 => by rfl) (fun j h1 h2 => by rw [hfvy94 _ (by omega)]) ory49
              have hpy106 := okBld.mv (ad' := ad) (g' := gvy94) (fun j h1 h2 => by rfl) (fun j h1 h2 => by rw [hfvy94 _ (by omega)]) pry49
              have hoky107 : okWorld cs ad gvy94 (900) := okWorld.mv (fun j j1 j2 => by rw [hfvy94 _ (by omega)]) mry49
              have hrecy108 : okRec cs ad gvy94 N (t) (fp) (im) (nz) (kz) (sl) (ho) (ua) (st) (op) (ai) (fa) (mu) (tb) (tp) := ⟨hgy97, bry49, cry49, hgy98, hpy100, hpy101, gry491, hry49, ⟨_, hpy99⟩, ⟨_, hpy102⟩, hpy103, hoky95, hoky107, hpy104, hpy105, hpy106⟩
              refine z_lv (lv' := [(2, .int (zI (i + 1))), (0, .ref (ad 0)), (1, .int (zI (z)))]) [0, 1, 2] rfl ?_
              exact ih_lp45 _ (by omega) (i + 1) gvy94 rfl hrecy108 (fun j j1 j2 => by rw [hfvy94 _ (by omega)]; exact f2 j j1 j2) (by omega)
            · refine z_iload_n C 0 dX9_gone_62 rfl ?_
              have hrecy109 : okRec cs ad g1 N (t) (fp) (im) (nz) (kz) (sl) (ho) (ua) (st) (op) (ai) (fa) (mu) (tb) (tp) := ⟨ary49, bry49, cry49, dry49, ery49, fry49, gry491, hry49, ⟨_, iry49⟩, ⟨_, jry49⟩, kry49, lry49, mry49, nry49, ory49, pry49⟩
              exact z_rX (z_iret C hr hlk dX9_gone_63 (by decide) (by decide) ⟨i, rfl, rfl, rfl, by omega, hrecy109, fun j j1 j2 => by exact f2 j j1 j2⟩)
      have hgy110 := (hfvy46 (0) (by omega)).trans ary1
      have hgy111 := (hfvy46 (1) (by omega)).trans dry1
      have hpy112 := okState.mv (ad' := ad) (g' := gvy46) (fun j h1 h2 => by rfl) (fun j h1 h2 => by rw [hfvy46 _ (by omega)]) iry1
      have hpy113 := okRdr.mv (ad' := ad) (g' := gvy46) (fun j h1 h2 => by rfl) (fun j h1 h2 => by rw [hfvy46 _ (by omega)]) ery1
      have hpy114 := isPlan.mv (ad' := ad) (g' := gvy46) (fun j h1 h2 => by rfl) (fun j h1 h2 => by rw [hfvy46 _ (by omega)]) fry1
      have hpy115 := okState.mv (ad' := ad) (g' := gvy46) (fun j h1 h2 => by rfl) (fun j h1 h2 => by rw [hfvy46 _ (by omega)]) jry1
      have hpy116 := okPlan.mv (ad' := ad) (g' := gvy46) (fun j h1 h2 => by rfl) (fun j h1 h2 => by rw [hfvy46 _ (by omega)]) kry1
      have hpy117 := okGss.mv (ad' := ad) (g' := gvy46) (fun j h1 h2 => by rfl) (fun j h1 h2 => by rw [hfvy46 _ (by omega)]) nry1
      have hpy118 := okLike.mv (ad' := ad) (g' := gvy46) (fun j h1 h2 => by rfl) (fun j h1 h2 => by rw [hfvy46 _ (by omega)]) ory1
      have hpy119 := okBld.mv (ad' := ad) (g' := gvy46) (fun j h1 h2 => by rfl) (fun j h1 h2 => by rw [hfvy46 _ (by omega)]) pry1
      have hoky120 : okWorld cs ad gvy46 (900) := okWorld.mv (fun j j1 j2 => by rw [hfvy46 _ (by omega)]) mry1
      have hrecy121 : okRec cs ad gvy46 N (t) (fp) (im) (nz) (kz) (sl) (ho) (ua) (st) (op) (ai) (fa) (mu) (tb) (tp) := ⟨hgy110, bry1, cry1, hgy111, hpy113, hpy114, gry11, hry1, ⟨_, hpy112⟩, ⟨_, hpy115⟩, hpy116, hoky47, hoky120, hpy117, hpy118, hpy119⟩
      refine z_lv (lv' := [(2, .int (zI (0))), (0, .ref (ad 0)), (1, .int (zI (z)))]) [0, 1, 2] rfl ?_
      exact lp45 _ (0) gvy46 rfl hrecy121 (fun j j1 j2 => by rw [hfvy46 _ (by omega)]) (by omega)
    · exact z_thrNW (cls := eNS) (text := "that name isn't given") C hl0 (ix := 13) (rx := nsB) ns0 ns1 ns2 ns5 (by decide +kernel) q_904 q_24 (by decide +kernel) at_NS gd_NS dX9_gone_18 dX9_gone_21 dX9_gone_22 dX9_gone_25 dX9_gone_28 hxt (by decide) (Nat.le_of_ble_eq_true rfl) (by decide) (by decide) hlk (by decide) (by decide) ⟨rfl, rfl, rfl, rfl⟩

set_option maxRecDepth 100000 in
set_option maxHeartbeats 4000000 in
theorem c_X9_then (l : Launch) (D : va_G) (A : Nat → Prop) (cs : Nat → ClassId) (tt : Nat) (N : Nat) (ad : Nat → Nat) (g : Nat → va_E) (hN : 952 ≤ N) (t fp im nz kz sl ho ua : Int) (st op ai fa mu tb tp : Nat → Int) (hR : okRec cs ad g N t fp im nz kz sl ho ua st op ai fa mu tb tp) (hl0 : l.stackTraces = false) (z : Int) (hz : -2147483648 ≤ z ∧ z ≤ 2147483647) (z1 : Int) (hz1 : -2147483648 ≤ z1 ∧ z1 ≤ 2147483647) (z2 : Int) (hz2 : -2147483648 ≤ z2 ∧ z2 ≤ 2147483647) : zMX l yX9_then cX9_then 6 (some .int) ({ frames := 12, cells := 6, slots := 60, locals := 720 } : Room) D A cs tt N ad g [.ref (ad 0), .int (zI (z)), .int (zI (z1)), .int (zI (z2))] (rI0 N ad fun r g' => (-2147483648 ≤ r ∧ r ≤ 2147483647) ∧ okRec cs ad g' N t fp im nz kz sl ho ua st op ai fa mu tb tp ∧ oX g g') (fun E N' ad' g' => (E = eNS ∨ E = eIA) ∧ N' = N ∧ ad' = ad ∧ g' = g) := by
  obtain ⟨ary1, bry1, cry1, dry1, ery1, fry1, gry11, hry1, ⟨acry1, iry1⟩, ⟨kcry1, jry1⟩, kry1, lry1, mry1, nry1, ory1, pry1⟩ := id hR
  have hay2 : zAt ad (0) (ad 0) := rfl
  have hay3 : zAt ad (1) (ad 1) := rfl
  have hay4 : zAt ad (2) (ad 2) := rfl
  have hay5 : zAt ad (4) (ad 4) := rfl
  have hay6 : zAt ad (11) (ad 11) := rfl
  have hay7 : zAt ad (447) (ad 447) := rfl
  have hay8 : zAt ad (883) (ad 883) := rfl
  have hay9 : zAt ad (890) (ad 890) := rfl
  have hay10 : zAt ad (900) (ad 900) := rfl
  have hay11 : zAt ad (910) (ad 910) := rfl
  have hay12 : zAt ad (917) (ad 917) := rfl
  have hay13 : zAt ad (919) (ad 919) := rfl
  have hay14 : zAt ad (4 + 1) (ad (4 + 1)) := rfl
  have hay15 : zAt ad (4 + 2) (ad (4 + 2)) := rfl
  have hay16 : zAt ad (4 + 3) (ad (4 + 3)) := rfl
  have hay17 : zAt ad (4 + 4) (ad (4 + 4)) := rfl
  have hay18 : zAt ad (4 + 5) (ad (4 + 5)) := rfl
  have hay19 : zAt ad (4 + 6) (ad (4 + 6)) := rfl
  obtain ⟨thcy20, zhcy20, ohcy20, rhcy20, hzhcy20, hthcy20, hwhcy20⟩ := id lry1
  obtain ⟨thcy21, zhcy21, ohcy21, rhcy21, hzhcy21, hthcy21, hwhcy21⟩ := id mry1
  obtain ⟨asy22, bsy22, csy22, dsy22, esy22, ⟨ptsy22, fsy22, gsy221⟩, hsy22, ⟨nusy22, nvsy22, nwsy22, isy22, jsy22, ksy22, lsy22, msy22, nsy22⟩, rfsy22, osy22⟩ := id iry1
  have hay23 : zAt ad (11 + 1) (ad (11 + 1)) := rfl
  have hay24 : zAt ad (11 + 11) (ad (11 + 11)) := rfl
  have hay25 : zAt ad (11 + 12) (ad (11 + 12)) := rfl
  have hay26 : zAt ad (11 + 13) (ad (11 + 13)) := rfl
  have hay27 : zAt ad (11 + 13 + 1) (ad (11 + 13 + 1)) := rfl
  have hay28 : zAt ad (11 + 13 + 2) (ad (11 + 13 + 2)) := rfl
  have hay29 : zAt ad (11 + 13 + 3) (ad (11 + 13 + 3)) := rfl
  have hay30 : zAt ad (11 + 17) (ad (11 + 17)) := rfl
  obtain ⟨uy31t, uy31z, uy31o, uy31r, uy31z4, uy31t5, uy311, ⟨uy31u, uy312, uy313⟩, uy314⟩ := id csy22
  have hay32 : zAt ad (11 + 1) (ad (11 + 1)) := rfl
  have hay33 : zAt ad (11 + 1 + 1) (ad (11 + 1 + 1)) := rfl
  obtain ⟨sloy34, hooy34, uaoy34, stoy34, opoy34, aioy34, faoy34, muoy34, tboy34, hsloy34, hhooy34, hpoy34⟩ := id kry1
  have hay35 : zAt ad (883 + 1) (ad (883 + 1)) := rfl
  have hay36 : zAt ad (883 + 2) (ad (883 + 2)) := rfl
  have hay37 : zAt ad (883 + 3) (ad (883 + 3)) := rfl
  have hay38 : zAt ad (883 + 4) (ad (883 + 4)) := rfl
  have hay39 : zAt ad (883 + 5) (ad (883 + 5)) := rfl
  have hay40 : zAt ad (883 + 6) (ad (883 + 6)) := rfl
  refine z_ofX (by decide) (Nat.le_of_ble_eq_true rfl) ?_
  intro p e s m below meth c C hr hlk hxt
  refine z_lv (lv' := [(0, .ref (ad 0)), (1, .int (zI (z))), (2, .int (zI (z1))), (3, .int (zI (z2)))]) [0, 1, 2, 3] rfl ?_
  refine z_aload_n C 0 dX9_then_0 rfl ?_
  refine z_iload_n C 1 dX9_then_1 rfl ?_
  have hrecy42 : okRec cs ad g N (t) (fp) (im) (nz) (kz) (sl) (ho) (ua) (st) (op) (ai) (fa) (mu) (tb) (tp) := ⟨ary1, bry1, cry1, dry1, ery1, fry1, gry11, hry1, ⟨_, iry1⟩, ⟨_, jry1⟩, kry1, lry1, mry1, nry1, ory1, pry1⟩
  refine z_cVX (As := [.int (zI (z))]) (rest := []) (ci := 11) C (c_X9_needSlope l D A cs tt N ad _ hN _ _ _ _ _ _ _ _ _ _ _ _ _ _ _ hrecy42 hl0 (z) (by omega)) (lt_K hN (rfl : Nat.blt (0) 952 = true)) hay2 ary1 rfl rfl mv_yX9_needSlope q_940 hd_yX9_needSlope (by decide) (Nat.le_of_ble_eq_true rfl) (by decide) dX9_then_2 rfl (fun E N' ad' g' h => by obtain ⟨rfl, rfl, rfl, rfl⟩ := h; exact z_uout C hxt hlk (by decide) (by decide) ⟨Or.inl rfl, rfl, rfl, rfl⟩) (kV0 fun gvy41 hvy41 => ?_)
  obtain ⟨hvy41, rfl⟩ := hvy41
  refine z_iload_n C 3 dX9_then_5 rfl ?_
  refine z_bipush (z := 6) C dX9_then_6 (by decide) ?_
  refine z_cSX (As := [.int (zI (z2)), .int (zI (6))]) (rest := []) C (c_X9_needWhat l D A cs tt N ad _ hl0 (z2) (by omega) (6) (by omega)) ms_yX9_needWhat q_1220 hd_yX9_needWhat (by decide) (Nat.le_of_ble_eq_true rfl) (by decide) dX9_then_8 rfl (fun E N' ad' g' h => by obtain ⟨⟨rfl, h9⟩, rfl, rfl, rfl⟩ := h; exact z_uout C hxt hlk (by decide) (by decide) ⟨Or.inl rfl, rfl, rfl, rfl⟩) (kV0 fun gvy43 hvy43 => ?_)
  obtain ⟨hvy43, rfl⟩ := hvy43
  refine z_iload_n C 2 dX9_then_11 rfl ?_
  refine z_iconst (z := 0) C dX9_then_12 rfl ?_
  refine z_bipush (z := 72) C dX9_then_13 (by decide) ?_
  refine z_cSX (As := [.int (zI (z1)), .int (zI (0)), .int (zI (72))]) (rest := []) C (c_X9_needHours l D A cs tt N ad _ hl0 (z1) (by omega) (0) (by omega) (72) (by omega)) ms_yX9_needHours q_1224 hd_yX9_needHours (by decide) (Nat.le_of_ble_eq_true rfl) (by decide) dX9_then_15 rfl (fun E N' ad' g' h => by obtain ⟨⟨rfl, h9⟩, rfl, rfl, rfl⟩ := h; exact z_uout C hxt hlk (by decide) (by decide) ⟨Or.inr rfl, rfl, rfl, rfl⟩) (kV0 fun gvy44 hvy44 => ?_)
  obtain ⟨hvy44, rfl⟩ := hvy44
  refine z_aload_n C 0 dX9_then_18 rfl ?_
  refine z_get (v := .ref (ad 890)) C (lt_K hN (rfl : Nat.blt (0) 952 = true)) hay2 ary1 rfl inA_X9 9 (by decide) q_358 rfl rfl dX9_then_19 ?_
  refine z_aload_n C 0 dX9_then_22 rfl ?_
  refine z_get (v := .ref (ad 11)) C (lt_K hN (rfl : Nat.blt (0) 952 = true)) hay2 ary1 rfl inA_X9 5 (by decide) q_354 rfl rfl dX9_then_23 ?_
  refine z_get (v := .ref (ad (11 + 1))) C (lt_K hN (rfl : Nat.blt (11) 952 = true)) hay6 iry1.1 rfl inA_X6 0 (by decide) q_258 rfl rfl dX9_then_26 ?_
  refine z_cV (As := [.ref (ad (11 + 1))]) (rest := []) (ci := 10) C (c_X8_copyFrom l D A cs tt N ad _ (890) (by omega) lry1 (11 + 1) (by omega) csy22 (by omega)) (lt_K hN (rfl : Nat.blt (890) 952 = true)) hay9 hwhcy20.1 rfl rfl mv_yX8_copyFrom q_1228 hd_yX8_copyFrom (by decide) (Nat.le_of_ble_eq_true rfl) (by decide) dX9_then_29 rfl (kV0 fun gvy45 hvy45 => ?_)
  obtain ⟨⟨tvy45, zvy45, ovy45, rvy45, hzvy45, htvy45, -, hwvy45⟩, hfvy45⟩ := hvy45
  have hoky46 : okWorld cs ad gvy45 (890) := ⟨_, _, _, _, hzvy45, htvy45, hwvy45⟩
  obtain ⟨thcy47, zhcy47, ohcy47, rhcy47, hzhcy47, hthcy47, hwhcy47⟩ := id hoky46
  refine z_iconst (z := 0) C dX9_then_32 rfl ?_
  refine z_istore (lv' := [(4, .int (zI (0))), (0, .ref (ad 0)), (1, .int (zI (z))), (2, .int (zI (z1))), (3, .int (zI (z2)))]) C dX9_then_33 (by decide) rfl ?_
  have lp35 : ∀ (n9 : Nat) (i : Int) (g1 : Nat → va_E), (72 - i).toNat = n9 → (okRec cs ad g1 N t fp im nz kz sl ho ua st op ai fa mu tb tp) → (oX g g1) → (0 ≤ i ∧ i ≤ 72) → (0 ≤ z ∧ z < sl) → (0 ≤ z2 ∧ z2 ≤ 6) → (0 ≤ z1 ∧ z1 ≤ 72) → zV p l e ({ frames := 12, cells := 6, slots := 60, locals := 720 } : Room) s m ([.ref (ad 0), .int (zI (z)), .int (zI (z1)), .int (zI (z2))] : List Value).toArray below meth c (vx_MQ below (zPost D A (rI0 N ad fun r g' => (-2147483648 ≤ r ∧ r ≤ 2147483647) ∧ okRec cs ad g' N t fp im nz kz sl ho ua st op ai fa mu tb tp ∧ oX g g')) (zX D A (fun E N' ad' g' => (E = eNS ∨ E = eIA) ∧ N' = N ∧ ad' = ad ∧ g' = g)) ([.ref (ad 0), .int (zI (z)), .int (zI (z1)), .int (zI (z2))] : List Value).toArray s ({ frames := 12, cells := 6, slots := 60, locals := 720 } : Room).cells ({ frames := 12, cells := 6, slots := 60, locals := 720 } : Room).slots A) D A 6 (N) ad g1 (3) (18) 35 [(4, .int (zI (i))), (0, .ref (ad 0)), (1, .int (zI (z))), (2, .int (zI (z1))), (3, .int (zI (z2)))] [] := by
    intro n9
    induction n9 using Nat.strongRecOn with
    | ind n9 ih_lp35 =>
      intro i g1 hm9 f1 f2 hv35_0 hv35_1 hv35_2 hv35_3
      obtain ⟨ary48, bry48, cry48, dry48, ery48, fry48, gry481, hry48, ⟨acry48, iry48⟩, ⟨kcry48, jry48⟩, kry48, lry48, mry48, nry48, ory48, pry48⟩ := id f1
      have hay49 : zAt ad (0) (ad 0) := rfl
      have hay50 : zAt ad (1) (ad 1) := rfl
      have hay51 : zAt ad (2) (ad 2) := rfl
      have hay52 : zAt ad (4) (ad 4) := rfl
      have hay53 : zAt ad (11) (ad 11) := rfl
      have hay54 : zAt ad (447) (ad 447) := rfl
      have hay55 : zAt ad (883) (ad 883) := rfl
      have hay56 : zAt ad (890) (ad 890) := rfl
      have hay57 : zAt ad (900) (ad 900) := rfl
      have hay58 : zAt ad (910) (ad 910) := rfl
      have hay59 : zAt ad (917) (ad 917) := rfl
      have hay60 : zAt ad (919) (ad 919) := rfl
      have hay61 : zAt ad (4 + 1) (ad (4 + 1)) := rfl
      have hay62 : zAt ad (4 + 2) (ad (4 + 2)) := rfl
      have hay63 : zAt ad (4 + 3) (ad (4 + 3)) := rfl
      have hay64 : zAt ad (4 + 4) (ad (4 + 4)) := rfl
      have hay65 : zAt ad (4 + 5) (ad (4 + 5)) := rfl
      have hay66 : zAt ad (4 + 6) (ad (4 + 6)) := rfl
      obtain ⟨thcy67, zhcy67, ohcy67, rhcy67, hzhcy67, hthcy67, hwhcy67⟩ := id lry48
      obtain ⟨thcy68, zhcy68, ohcy68, rhcy68, hzhcy68, hthcy68, hwhcy68⟩ := id mry48
      obtain ⟨asy69, bsy69, csy69, dsy69, esy69, ⟨ptsy69, fsy69, gsy691⟩, hsy69, ⟨nusy69, nvsy69, nwsy69, isy69, jsy69, ksy69, lsy69, msy69, nsy69⟩, rfsy69, osy69⟩ := id iry48
      have hay70 : zAt ad (11 + 1) (ad (11 + 1)) := rfl
      have hay71 : zAt ad (11 + 11) (ad (11 + 11)) := rfl
      have hay72 : zAt ad (11 + 12) (ad (11 + 12)) := rfl
      have hay73 : zAt ad (11 + 13) (ad (11 + 13)) := rfl
      have hay74 : zAt ad (11 + 13 + 1) (ad (11 + 13 + 1)) := rfl
      have hay75 : zAt ad (11 + 13 + 2) (ad (11 + 13 + 2)) := rfl
      have hay76 : zAt ad (11 + 13 + 3) (ad (11 + 13 + 3)) := rfl
      have hay77 : zAt ad (11 + 17) (ad (11 + 17)) := rfl
      obtain ⟨uy78t, uy78z, uy78o, uy78r, uy78z4, uy78t5, uy781, ⟨uy78u, uy782, uy783⟩, uy784⟩ := id csy69
      have hay79 : zAt ad (11 + 1) (ad (11 + 1)) := rfl
      have hay80 : zAt ad (11 + 1 + 1) (ad (11 + 1 + 1)) := rfl
      obtain ⟨sloy81, hooy81, uaoy81, stoy81, opoy81, aioy81, faoy81, muoy81, tboy81, hsloy81, hhooy81, hpoy81⟩ := id kry48
      have hay82 : zAt ad (883 + 1) (ad (883 + 1)) := rfl
      have hay83 : zAt ad (883 + 2) (ad (883 + 2)) := rfl
      have hay84 : zAt ad (883 + 3) (ad (883 + 3)) := rfl
      have hay85 : zAt ad (883 + 4) (ad (883 + 4)) := rfl
      have hay86 : zAt ad (883 + 5) (ad (883 + 5)) := rfl
      have hay87 : zAt ad (883 + 6) (ad (883 + 6)) := rfl
      refine z_iload C 0 dX9_then_35 rfl ?_
      refine z_iload_n C 3 dX9_then_37 rfl ?_
      refine z_icmp_ge (tgt := 66) C dX9_then_38 (by decide) (by omega) (by omega) (fun hby88 => ?_) (fun hby88 => ?_)
      · refine z_aload_n C 1 dX9_then_66 rfl ?_
        refine z_get (v := .ref (ad 890)) C (lt_K hN (rfl : Nat.blt (0) 952 = true)) hay49 ary48 rfl inA_X9 9 (by decide) q_358 rfl rfl dX9_then_67 ?_
        refine z_get (v := .ref (ad (890 + 1))) C (lt_K hN (rfl : Nat.blt (890) 952 = true)) hay56 hwhcy67.1 rfl inA_X8 6 (by decide) q_191 rfl rfl dX9_then_70 ?_
        refine z_iload_n C 2 dX9_then_73 rfl ?_
        obtain ⟨uy89t, uy89z, uy89o, uy89r, uy89z4, uy89t5, uy891, ⟨uy89u, uy892, uy893⟩, uy894⟩ := id lry48
        have hay90 : zAt ad (890) (ad 890) := rfl
        have hay91 : zAt ad (890 + 1) (ad (890 + 1)) := rfl
        refine z_aald C (lt_K hN (rfl : Nat.blt (890 + 1) 952 = true)) hay91 uy892 3 rfl ((z).toNat) (by omega) (by omega) (by decide) (uy893 (z).toNat (by omega)) dX9_then_74 ?_
        have hay92 : zAt ad (890 + 2 + 2 * (z).toNat) (ad (890 + 2 + 2 * (z).toNat)) := rfl
        have hay93 : zAt ad (890 + 2 + 2 * (z).toNat + 1) (ad (890 + 2 + 2 * (z).toNat + 1)) := rfl
        have hpy94 := uy894 (z).toNat (by omega)
        have hqy95 := uy89z4 (z).toNat (by omega)
        refine z_astore (lv' := [(4, .ref (ad (890 + 2 + 2 * (z).toNat))), (0, .ref (ad 0)), (1, .int (zI (z))), (2, .int (zI (z1))), (3, .int (zI (z2)))]) C dX9_then_75 (by decide) rfl ?_
        refine z_aload_n C 1 dX9_then_77 rfl ?_
        refine z_get (v := .ref (ad 4)) C (lt_K hN (rfl : Nat.blt (0) 952 = true)) hay49 ary48 rfl inA_X9 4 (by decide) q_353 rfl rfl dX9_then_78 ?_
        refine z_get (v := .ref (ad (4 + 1))) C (lt_K hN (rfl : Nat.blt (4) 952 = true)) hay52 fry48.1 rfl inA_X5 3 (by decide) q_98 rfl rfl dX9_then_81 ?_
        refine z_iload_n C 2 dX9_then_84 rfl ?_
        refine z_iald C (lt_K hN (rfl : Nat.blt (4 + 1) 952 = true)) hay61 fry48.2.1 ((z).toNat) (by omega) (by omega) (by decide) dX9_then_85 ?_
        refine z_istore (lv' := [(5, .int (zI (st ((z).toNat)))), (4, .ref (ad (890 + 2 + 2 * (z).toNat))), (0, .ref (ad 0)), (1, .int (zI (z))), (2, .int (zI (z1))), (3, .int (zI (z2)))]) C dX9_then_86 (by decide) rfl ?_
        refine z_iload_n C 5 dX9_then_88 rfl ?_
        by_cases hsy96 : z2 ≠ 0 ∧ z2 ≠ 1 ∧ z2 ≠ 2 ∧ z2 ≠ 3 ∧ z2 ≠ 4 ∧ z2 ≠ 5
        · refine z_tout (tgt := 187) C dX9_then_89 (by omega) (by omega) (by decide) ?_
          refine z_aload C 1 dX9_then_187 rfl ?_
          refine z_get (v := .int (zI (uy89o (z).toNat))) C (by omega) hay92 hpy94.1 rfl inA_X3 1 (by decide) q_161 rfl rfl dX9_then_189 ?_
          obtain ⟨xy97, exy98, hxy99⟩ := zI_of (zI (uy89o (z).toNat))
          rw [exy98]
          have hrecy100 : okRec cs ad g1 N (t) (fp) (im) (nz) (kz) (sl) (ho) (ua) (st) (op) (ai) (fa) (mu) (tb) (tp) := ⟨ary48, bry48, cry48, dry48, ery48, fry48, gry481, hry48, ⟨_, iry48⟩, ⟨_, jry48⟩, kry48, lry48, mry48, nry48, ory48, pry48⟩
          exact z_rX (z_iret C hr hlk dX9_then_192 (by decide) (by decide) ⟨xy97, rfl, rfl, rfl, by omega, hrecy100, fun j j1 j2 => by exact f2 j j1 j2⟩)
        · rcases (show z2 = 0 ∨ z2 = 1 ∨ z2 = 2 ∨ z2 = 3 ∨ z2 = 4 ∨ z2 = 5 by omega) with rfl | rfl | rfl | rfl | rfl | rfl
          · refine z_tin (off := 39) (tgt := 128) C dX9_then_89 (by omega) (by omega) (by omega) rfl (by decide) ?_
            refine z_aload C 1 dX9_then_128 rfl ?_
            refine z_bipush (z := 36) C dX9_then_130 (by decide) ?_
            refine z_cV (As := [.int (zI (36))]) (rest := []) (ci := 5) C (c_X3_sum l D A cs tt N ad _ (890 + 2 + 2 * (z).toNat) (by omega) _ _ _ (by omega) ⟨hpy94.1, hpy94.2⟩  (36) (by omega)) (by omega) hay92 hpy94.1 rfl rfl mv_yX3_sum q_945 hd_yX3_sum (by decide) (Nat.le_of_ble_eq_true rfl) (by decide) dX9_then_132 rfl (kI0 fun vy101 gvy101 hvy101 => ?_)
            obtain ⟨hvy101, rfl⟩ := hvy101
            have hrecy102 : okRec cs ad g1 N (t) (fp) (im) (nz) (kz) (sl) (ho) (ua) (st) (op) (ai) (fa) (mu) (tb) (tp) := ⟨ary48, bry48, cry48, dry48, ery48, fry48, gry481, hry48, ⟨_, iry48⟩, ⟨_, jry48⟩, kry48, lry48, mry48, nry48, ory48, pry48⟩
            exact z_rX (z_iret C hr hlk dX9_then_135 (by decide) (by decide) ⟨vy101, rfl, rfl, rfl, by omega, hrecy102, fun j j1 j2 => by exact f2 j j1 j2⟩)
          · refine z_tin (off := 47) (tgt := 136) C dX9_then_89 (by omega) (by omega) (by omega) rfl (by decide) ?_
            refine z_aload C 1 dX9_then_136 rfl ?_
            refine z_bipush (z := 12) C dX9_then_138 (by decide) ?_
            refine z_cV (As := [.int (zI (12))]) (rest := []) (ci := 5) C (c_X3_sum l D A cs tt N ad _ (890 + 2 + 2 * (z).toNat) (by omega) _ _ _ (by omega) ⟨hpy94.1, hpy94.2⟩  (12) (by omega)) (by omega) hay92 hpy94.1 rfl rfl mv_yX3_sum q_945 hd_yX3_sum (by decide) (Nat.le_of_ble_eq_true rfl) (by decide) dX9_then_140 rfl (kI0 fun vy103 gvy103 hvy103 => ?_)
            obtain ⟨hvy103, rfl⟩ := hvy103
            have hrecy104 : okRec cs ad g1 N (t) (fp) (im) (nz) (kz) (sl) (ho) (ua) (st) (op) (ai) (fa) (mu) (tb) (tp) := ⟨ary48, bry48, cry48, dry48, ery48, fry48, gry481, hry48, ⟨_, iry48⟩, ⟨_, jry48⟩, kry48, lry48, mry48, nry48, ory48, pry48⟩
            exact z_rX (z_iret C hr hlk dX9_then_143 (by decide) (by decide) ⟨vy103, rfl, rfl, rfl, by omega, hrecy104, fun j j1 j2 => by exact f2 j j1 j2⟩)
          · refine z_tin (off := 55) (tgt := 144) C dX9_then_89 (by omega) (by omega) (by omega) rfl (by decide) ?_
            refine z_aload C 1 dX9_then_144 rfl ?_
            refine z_bipush (z := 24) C dX9_then_146 (by decide) ?_
            refine z_cV (As := [.int (zI (24))]) (rest := []) (ci := 5) C (c_X3_sum l D A cs tt N ad _ (890 + 2 + 2 * (z).toNat) (by omega) _ _ _ (by omega) ⟨hpy94.1, hpy94.2⟩  (24) (by omega)) (by omega) hay92 hpy94.1 rfl rfl mv_yX3_sum q_945 hd_yX3_sum (by decide) (Nat.le_of_ble_eq_true rfl) (by decide) dX9_then_148 rfl (kI0 fun vy105 gvy105 hvy105 => ?_)
            obtain ⟨hvy105, rfl⟩ := hvy105
            have hrecy106 : okRec cs ad g1 N (t) (fp) (im) (nz) (kz) (sl) (ho) (ua) (st) (op) (ai) (fa) (mu) (tb) (tp) := ⟨ary48, bry48, cry48, dry48, ery48, fry48, gry481, hry48, ⟨_, iry48⟩, ⟨_, jry48⟩, kry48, lry48, mry48, nry48, ory48, pry48⟩
            exact z_rX (z_iret C hr hlk dX9_then_151 (by decide) (by decide) ⟨vy105, rfl, rfl, rfl, by omega, hrecy106, fun j j1 j2 => by exact f2 j j1 j2⟩)
          · refine z_tin (off := 63) (tgt := 152) C dX9_then_89 (by omega) (by omega) (by omega) rfl (by decide) ?_
            refine z_aload C 1 dX9_then_152 rfl ?_
            refine z_get (v := .int (zI (uy89z (z).toNat))) C (by omega) hay92 hpy94.1 rfl inA_X3 0 (by decide) q_158 rfl rfl dX9_then_154 ?_
            have hrecy107 : okRec cs ad g1 N (t) (fp) (im) (nz) (kz) (sl) (ho) (ua) (st) (op) (ai) (fa) (mu) (tb) (tp) := ⟨ary48, bry48, cry48, dry48, ery48, fry48, gry481, hry48, ⟨_, iry48⟩, ⟨_, jry48⟩, kry48, lry48, mry48, nry48, ory48, pry48⟩
            exact z_rX (z_iret C hr hlk dX9_then_157 (by decide) (by decide) ⟨uy89z (z).toNat, rfl, rfl, rfl, by omega, hrecy107, fun j j1 j2 => by exact f2 j j1 j2⟩)
          · refine z_tin (off := 69) (tgt := 158) C dX9_then_89 (by omega) (by omega) (by omega) rfl (by decide) ?_
            refine z_aload C 1 dX9_then_158 rfl ?_
            refine z_iload C 0 dX9_then_160 rfl ?_
            refine z_aload_n C 2 dX9_then_162 rfl ?_
            refine z_get (v := .ref (ad 4)) C (lt_K hN (rfl : Nat.blt (0) 952 = true)) hay49 ary48 rfl inA_X9 4 (by decide) q_353 rfl rfl dX9_then_163 ?_
            obtain ⟨xy108, exy109, hxy110⟩ := zI_of (zI (st ((z).toNat)))
            rw [exy109]
            refine z_cV (As := [.int (zI (xy108)), .ref (ad 4)]) (rest := []) (ci := 5) C (c_X3_leastRatio l D A cs tt N ad _ (890 + 2 + 2 * (z).toNat) (by omega) _ _ _ (by omega) ⟨hpy94.1, hpy94.2⟩ (4) (by omega) _ _ _ _ _ _ _ _ _ ⟨fry48.1, fry48.2.1, fry48.2.2.1, fry48.2.2.2.1, fry48.2.2.2.2.1, fry48.2.2.2.2.2.1, fry48.2.2.2.2.2.2⟩ (xy108) (by omega)) (by omega) hay92 hpy94.1 rfl rfl mv_yX3_leastRatio q_898 hd_yX3_leastRatio (by decide) (Nat.le_of_ble_eq_true rfl) (by decide) dX9_then_166 rfl (kI0 fun vy111 gvy111 hvy111 => ?_)
            obtain ⟨hvy111, rfl⟩ := hvy111
            have hrecy112 : okRec cs ad g1 N (t) (fp) (im) (nz) (kz) (sl) (ho) (ua) (st) (op) (ai) (fa) (mu) (tb) (tp) := ⟨ary48, bry48, cry48, dry48, ery48, fry48, gry481, hry48, ⟨_, iry48⟩, ⟨_, jry48⟩, kry48, lry48, mry48, nry48, ory48, pry48⟩
            exact z_rX (z_iret C hr hlk dX9_then_169 (by decide) (by decide) ⟨vy111, rfl, rfl, rfl, by omega, hrecy112, fun j j1 j2 => by exact f2 j j1 j2⟩)
          · refine z_tin (off := 81) (tgt := 170) C dX9_then_89 (by omega) (by omega) (by omega) rfl (by decide) ?_
            refine z_aload C 1 dX9_then_170 rfl ?_
            refine z_aload C 1 dX9_then_172 rfl ?_
            refine z_iload C 0 dX9_then_174 rfl ?_
            refine z_aload_n C 2 dX9_then_176 rfl ?_
            refine z_get (v := .ref (ad 4)) C (lt_K hN (rfl : Nat.blt (0) 952 = true)) hay49 ary48 rfl inA_X9 4 (by decide) q_353 rfl rfl dX9_then_177 ?_
            obtain ⟨xy113, exy114, hxy115⟩ := zI_of (zI (st ((z).toNat)))
            rw [exy114]
            refine z_cV (As := [.int (zI (xy113)), .ref (ad 4)]) (rest := [.ref (ad (890 + 2 + 2 * (z).toNat))]) (ci := 5) C (c_X3_weakest l D A cs tt N ad _ (890 + 2 + 2 * (z).toNat) (by omega) _ _ _ (by omega) ⟨hpy94.1, hpy94.2⟩ (4) (by omega) _ _ _ _ _ _ _ _ _ ⟨fry48.1, fry48.2.1, fry48.2.2.1, fry48.2.2.2.1, fry48.2.2.2.2.1, fry48.2.2.2.2.2.1, fry48.2.2.2.2.2.2⟩ (xy113) (by omega)) (by omega) hay92 hpy94.1 rfl rfl mv_yX3_weakest q_946 hd_yX3_weakest (by decide) (Nat.le_of_ble_eq_true rfl) (by decide) dX9_then_180 rfl (kI0 fun vy116 gvy116 hvy116 => ?_)
            obtain ⟨hvy116, rfl⟩ := hvy116
            refine z_cV (As := [.int (zI (vy116))]) (rest := []) (ci := 5) C (c_X3_nameOf l D A cs tt N ad _ (890 + 2 + 2 * (z).toNat) (by omega) _ _ _ (by omega) ⟨hpy94.1, hpy94.2⟩  (vy116) (by omega)) (by omega) hay92 hpy94.1 rfl rfl mv_yX3_nameOf q_1229 hd_yX3_nameOf (by decide) (Nat.le_of_ble_eq_true rfl) (by decide) dX9_then_183 rfl (kI0 fun vy117 gvy117 hvy117 => ?_)
            obtain ⟨hvy117, rfl⟩ := hvy117
            have hrecy118 : okRec cs ad g1 N (t) (fp) (im) (nz) (kz) (sl) (ho) (ua) (st) (op) (ai) (fa) (mu) (tb) (tp) := ⟨ary48, bry48, cry48, dry48, ery48, fry48, gry481, hry48, ⟨_, iry48⟩, ⟨_, jry48⟩, kry48, lry48, mry48, nry48, ory48, pry48⟩
            exact z_rX (z_iret C hr hlk dX9_then_186 (by decide) (by decide) ⟨vy117, rfl, rfl, rfl, by omega, hrecy118, fun j j1 j2 => by exact f2 j j1 j2⟩)
      · refine z_aload_n C 1 dX9_then_41 rfl ?_
        refine z_get (v := .ref (ad 890)) C (lt_K hN (rfl : Nat.blt (0) 952 = true)) hay49 ary48 rfl inA_X9 9 (by decide) q_358 rfl rfl dX9_then_42 ?_
        refine z_aload_n C 1 dX9_then_45 rfl ?_
        refine z_get (v := .ref (ad 4)) C (lt_K hN (rfl : Nat.blt (0) 952 = true)) hay49 ary48 rfl inA_X9 4 (by decide) q_353 rfl rfl dX9_then_46 ?_
        refine z_aload_n C 1 dX9_then_49 rfl ?_
        refine z_get (v := .ref (ad 4)) C (lt_K hN (rfl : Nat.blt (0) 952 = true)) hay49 ary48 rfl inA_X9 4 (by decide) q_353 rfl rfl dX9_then_50 ?_
        refine z_cV (As := []) (rest := [.ref (ad 4), .ref (ad 890)]) (ci := 7) C (c_X5_allSlopes l D A cs tt N ad _ (4) (by omega) _ _ _ _ _ _ _ _ _ ⟨fry48.1, fry48.2.1, fry48.2.2.1, fry48.2.2.2.1, fry48.2.2.2.2.1, fry48.2.2.2.2.2.1, fry48.2.2.2.2.2.2⟩) (lt_K hN (rfl : Nat.blt (4) 952 = true)) hay52 fry48.1 rfl rfl mv_yX5_allSlopes q_431 hd_yX5_allSlopes (by decide) (Nat.le_of_ble_eq_true rfl) (by decide) dX9_then_53 rfl (kI0 fun vy119 gvy119 hvy119 => ?_)
        obtain ⟨hvy119, rfl⟩ := hvy119
        refine z_iconst (z := 1) C dX9_then_56 rfl ?_
        refine z_cV (As := [.ref (ad 4), .int (zI (vy119)), .int (zI (1))]) (rest := []) (ci := 10) C (c_X8_hour l D A cs tt N ad _ (890) (by omega) lry48 (4) (by omega) _ _ _ _ _ _ _ _ _ ⟨fry48.1, fry48.2.1, fry48.2.2.1, fry48.2.2.2.1, fry48.2.2.2.2.1, fry48.2.2.2.2.2.1, fry48.2.2.2.2.2.2⟩ (by omega) (by omega) (by omega) (vy119) (by omega) (1) (by omega)) (lt_K hN (rfl : Nat.blt (890) 952 = true)) hay56 hwhcy67.1 rfl rfl mv_yX8_hour q_435 hd_yX8_hour (by decide) (Nat.le_of_ble_eq_true rfl) (by decide) dX9_then_57 rfl (kV0 fun gvy120 hvy120 => ?_)
        obtain ⟨hkvy120, hfvy120⟩ := hvy120
        have hoky121 : okWorld cs ad gvy120 (890) := hkvy120
        obtain ⟨thcy122, zhcy122, ohcy122, rhcy122, hzhcy122, hthcy122, hwhcy122⟩ := id hoky121
        refine z_iinc (z := i + 1) (lv' := [(4, .int (zI (i + 1))), (0, .ref (ad 0)), (1, .int (zI (z))), (2, .int (zI (z1))), (3, .int (zI (z2)))]) (j := 0) C dX9_then_60 rfl rfl (by decide) rfl ?_
        refine z_goto (tgt := 35) C dX9_then_63 (by decide) ?_
        have hgy123 := (hfvy120 (0) (by omega)).trans ary48
        have hgy124 := (hfvy120 (1) (by omega)).trans dry48
        have hpy125 := okState.mv (ad' := ad) (g' := gvy120) (fun j h1 h2 => by rfl) (fun j h1 h2 => by rw [hfvy120 _ (by omega)]) iry48
        have hpy126 := okRdr.mv (ad' := ad) (g' := gvy120) (fun j h1 h2 => by rfl) (fun j h1 h2 => by rw [hfvy120 _ (by omega)]) ery48
        have hpy127 := isPlan.mv (ad' := ad) (g' := gvy120) (fun j h1 h2 => by rfl) (fun j h1 h2 => by rw [hfvy120 _ (by omega)]) fry48
        have hpy128 := okState.mv (ad' := ad) (g' := gvy120) (fun j h1 h2 => by rfl) (fun j h1 h2 => by rw [hfvy120 _ (by omega)]) jry48
        have hpy129 := okPlan.mv (ad' := ad) (g' := gvy120) (fun j h1 h2 => by rfl) (fun j h1 h2 => by rw [hfvy120 _ (by omega)]) kry48
        have hpy130 := okGss.mv (ad' := ad) (g' := gvy120) (fun j h1 h2 => by rfl) (fun j h1 h2 => by rw [hfvy120 _ (by omega)]) nry48
        have hpy131 := okLike.mv (ad' := ad) (g' := gvy120) (fun j h1 h2 => by rfl) (fun j h1 h2 => by rw [hfvy120 _ (by omega)]) ory48
        have hpy132 := okBld.mv (ad' := ad) (g' := gvy120) (fun j h1 h2 => by rfl) (fun j h1 h2 => by rw [hfvy120 _ (by omega)]) pry48
        have hoky133 : okWorld cs ad gvy120 (900) := okWorld.mv (fun j j1 j2 => by rw [hfvy120 _ (by omega)]) mry48
        have hrecy134 : okRec cs ad gvy120 N (t) (fp) (im) (nz) (kz) (sl) (ho) (ua) (st) (op) (ai) (fa) (mu) (tb) (tp) := ⟨hgy123, bry48, cry48, hgy124, hpy126, hpy127, gry481, hry48, ⟨_, hpy125⟩, ⟨_, hpy128⟩, hpy129, hoky121, hoky133, hpy130, hpy131, hpy132⟩
        refine z_lv (lv' := [(4, .int (zI (i + 1))), (0, .ref (ad 0)), (1, .int (zI (z))), (2, .int (zI (z1))), (3, .int (zI (z2)))]) [0, 1, 2, 3, 4] rfl ?_
        exact ih_lp35 _ (by omega) (i + 1) gvy120 rfl hrecy134 (fun j j1 j2 => by rw [hfvy120 _ (by omega)]; exact f2 j j1 j2) (by omega) (by omega) (by omega) (by omega)
  have hgy135 := (hfvy45 (0) (by omega)).trans ary1
  have hgy136 := (hfvy45 (1) (by omega)).trans dry1
  have hpy137 := okState.mv (ad' := ad) (g' := gvy45) (fun j h1 h2 => by rfl) (fun j h1 h2 => by rw [hfvy45 _ (by omega)]) iry1
  have hpy138 := okRdr.mv (ad' := ad) (g' := gvy45) (fun j h1 h2 => by rfl) (fun j h1 h2 => by rw [hfvy45 _ (by omega)]) ery1
  have hpy139 := isPlan.mv (ad' := ad) (g' := gvy45) (fun j h1 h2 => by rfl) (fun j h1 h2 => by rw [hfvy45 _ (by omega)]) fry1
  have hpy140 := okState.mv (ad' := ad) (g' := gvy45) (fun j h1 h2 => by rfl) (fun j h1 h2 => by rw [hfvy45 _ (by omega)]) jry1
  have hpy141 := okPlan.mv (ad' := ad) (g' := gvy45) (fun j h1 h2 => by rfl) (fun j h1 h2 => by rw [hfvy45 _ (by omega)]) kry1
  have hpy142 := okGss.mv (ad' := ad) (g' := gvy45) (fun j h1 h2 => by rfl) (fun j h1 h2 => by rw [hfvy45 _ (by omega)]) nry1
  have hpy143 := okLike.mv (ad' := ad) (g' := gvy45) (fun j h1 h2 => by rfl) (fun j h1 h2 => by rw [hfvy45 _ (by omega)]) ory1
  have hpy144 := okBld.mv (ad' := ad) (g' := gvy45) (fun j h1 h2 => by rfl) (fun j h1 h2 => by rw [hfvy45 _ (by omega)]) pry1
  have hoky145 : okWorld cs ad gvy45 (900) := okWorld.mv (fun j j1 j2 => by rw [hfvy45 _ (by omega)]) mry1
  have hrecy146 : okRec cs ad gvy45 N (t) (fp) (im) (nz) (kz) (sl) (ho) (ua) (st) (op) (ai) (fa) (mu) (tb) (tp) := ⟨hgy135, bry1, cry1, hgy136, hpy138, hpy139, gry11, hry1, ⟨_, hpy137⟩, ⟨_, hpy140⟩, hpy141, hoky46, hoky145, hpy142, hpy143, hpy144⟩
  refine z_lv (lv' := [(4, .int (zI (0))), (0, .ref (ad 0)), (1, .int (zI (z))), (2, .int (zI (z1))), (3, .int (zI (z2)))]) [0, 1, 2, 3, 4] rfl ?_
  exact lp35 _ (0) gvy45 rfl hrecy146 (fun j j1 j2 => by rw [hfvy45 _ (by omega)]) (by omega) (by omega) (by omega) (by omega)

set_option maxRecDepth 100000 in
set_option maxHeartbeats 4000000 in
theorem c_X9_toWarm (l : Launch) (D : va_G) (A : Nat → Prop) (cs : Nat → ClassId) (tt : Nat) (N : Nat) (ad : Nat → Nat) (g : Nat → va_E) (hN : 952 ≤ N) (t fp im nz kz sl ho ua : Int) (st op ai fa mu tb tp : Nat → Int) (hR : okRec cs ad g N t fp im nz kz sl ho ua st op ai fa mu tb tp) (hl0 : l.stackTraces = false) (z : Int) (hz : -2147483648 ≤ z ∧ z ≤ 2147483647) (z1 : Int) (hz1 : -2147483648 ≤ z1 ∧ z1 ≤ 2147483647) : zMX l yX9_toWarm cX9_toWarm 4 (some .int) ({ frames := 12, cells := 6, slots := 60, locals := 720 } : Room) D A cs tt N ad g [.ref (ad 0), .int (zI (z)), .int (zI (z1))] (rI0 N ad fun r g' => (-2147483648 ≤ r ∧ r ≤ 2147483647) ∧ okRec cs ad g' N t fp im nz kz sl ho ua st op ai fa mu tb tp ∧ oX g g') (fun E N' ad' g' => (E = eNS ∨ E = eIA) ∧ N' = N ∧ ad' = ad ∧ g' = g) := by
  obtain ⟨ary1, bry1, cry1, dry1, ery1, fry1, gry11, hry1, ⟨acry1, iry1⟩, ⟨kcry1, jry1⟩, kry1, lry1, mry1, nry1, ory1, pry1⟩ := id hR
  have hay2 : zAt ad (0) (ad 0) := rfl
  have hay3 : zAt ad (1) (ad 1) := rfl
  have hay4 : zAt ad (2) (ad 2) := rfl
  have hay5 : zAt ad (4) (ad 4) := rfl
  have hay6 : zAt ad (11) (ad 11) := rfl
  have hay7 : zAt ad (447) (ad 447) := rfl
  have hay8 : zAt ad (883) (ad 883) := rfl
  have hay9 : zAt ad (890) (ad 890) := rfl
  have hay10 : zAt ad (900) (ad 900) := rfl
  have hay11 : zAt ad (910) (ad 910) := rfl
  have hay12 : zAt ad (917) (ad 917) := rfl
  have hay13 : zAt ad (919) (ad 919) := rfl
  have hay14 : zAt ad (4 + 1) (ad (4 + 1)) := rfl
  have hay15 : zAt ad (4 + 2) (ad (4 + 2)) := rfl
  have hay16 : zAt ad (4 + 3) (ad (4 + 3)) := rfl
  have hay17 : zAt ad (4 + 4) (ad (4 + 4)) := rfl
  have hay18 : zAt ad (4 + 5) (ad (4 + 5)) := rfl
  have hay19 : zAt ad (4 + 6) (ad (4 + 6)) := rfl
  obtain ⟨thcy20, zhcy20, ohcy20, rhcy20, hzhcy20, hthcy20, hwhcy20⟩ := id lry1
  obtain ⟨thcy21, zhcy21, ohcy21, rhcy21, hzhcy21, hthcy21, hwhcy21⟩ := id mry1
  obtain ⟨asy22, bsy22, csy22, dsy22, esy22, ⟨ptsy22, fsy22, gsy221⟩, hsy22, ⟨nusy22, nvsy22, nwsy22, isy22, jsy22, ksy22, lsy22, msy22, nsy22⟩, rfsy22, osy22⟩ := id iry1
  have hay23 : zAt ad (11 + 1) (ad (11 + 1)) := rfl
  have hay24 : zAt ad (11 + 11) (ad (11 + 11)) := rfl
  have hay25 : zAt ad (11 + 12) (ad (11 + 12)) := rfl
  have hay26 : zAt ad (11 + 13) (ad (11 + 13)) := rfl
  have hay27 : zAt ad (11 + 13 + 1) (ad (11 + 13 + 1)) := rfl
  have hay28 : zAt ad (11 + 13 + 2) (ad (11 + 13 + 2)) := rfl
  have hay29 : zAt ad (11 + 13 + 3) (ad (11 + 13 + 3)) := rfl
  have hay30 : zAt ad (11 + 17) (ad (11 + 17)) := rfl
  obtain ⟨uy31t, uy31z, uy31o, uy31r, uy31z4, uy31t5, uy311, ⟨uy31u, uy312, uy313⟩, uy314⟩ := id csy22
  have hay32 : zAt ad (11 + 1) (ad (11 + 1)) := rfl
  have hay33 : zAt ad (11 + 1 + 1) (ad (11 + 1 + 1)) := rfl
  obtain ⟨sloy34, hooy34, uaoy34, stoy34, opoy34, aioy34, faoy34, muoy34, tboy34, hsloy34, hhooy34, hpoy34⟩ := id kry1
  have hay35 : zAt ad (883 + 1) (ad (883 + 1)) := rfl
  have hay36 : zAt ad (883 + 2) (ad (883 + 2)) := rfl
  have hay37 : zAt ad (883 + 3) (ad (883 + 3)) := rfl
  have hay38 : zAt ad (883 + 4) (ad (883 + 4)) := rfl
  have hay39 : zAt ad (883 + 5) (ad (883 + 5)) := rfl
  have hay40 : zAt ad (883 + 6) (ad (883 + 6)) := rfl
  refine z_ofX (by decide) (Nat.le_of_ble_eq_true rfl) ?_
  intro p e s m below meth c C hr hlk hxt
  refine z_lv (lv' := [(0, .ref (ad 0)), (1, .int (zI (z))), (2, .int (zI (z1)))]) [0, 1, 2] rfl ?_
  refine z_aload_n C 0 dX9_toWarm_0 rfl ?_
  refine z_iload_n C 1 dX9_toWarm_1 rfl ?_
  have hrecy42 : okRec cs ad g N (t) (fp) (im) (nz) (kz) (sl) (ho) (ua) (st) (op) (ai) (fa) (mu) (tb) (tp) := ⟨ary1, bry1, cry1, dry1, ery1, fry1, gry11, hry1, ⟨_, iry1⟩, ⟨_, jry1⟩, kry1, lry1, mry1, nry1, ory1, pry1⟩
  refine z_cVX (As := [.int (zI (z))]) (rest := []) (ci := 11) C (c_X9_needSlope l D A cs tt N ad _ hN _ _ _ _ _ _ _ _ _ _ _ _ _ _ _ hrecy42 hl0 (z) (by omega)) (lt_K hN (rfl : Nat.blt (0) 952 = true)) hay2 ary1 rfl rfl mv_yX9_needSlope q_940 hd_yX9_needSlope (by decide) (Nat.le_of_ble_eq_true rfl) (by decide) dX9_toWarm_2 rfl (fun E N' ad' g' h => by obtain ⟨rfl, rfl, rfl, rfl⟩ := h; exact z_uout C hxt hlk (by decide) (by decide) ⟨Or.inl rfl, rfl, rfl, rfl⟩) (kV0 fun gvy41 hvy41 => ?_)
  obtain ⟨hvy41, rfl⟩ := hvy41
  refine z_iload_n C 2 dX9_toWarm_5 rfl ?_
  refine z_iconst (z := 1) C dX9_toWarm_6 rfl ?_
  refine z_bipush (z := 24) C dX9_toWarm_7 (by decide) ?_
  refine z_cSX (As := [.int (zI (z1)), .int (zI (1)), .int (zI (24))]) (rest := []) C (c_X9_needHours l D A cs tt N ad _ hl0 (z1) (by omega) (1) (by omega) (24) (by omega)) ms_yX9_needHours q_1224 hd_yX9_needHours (by decide) (Nat.le_of_ble_eq_true rfl) (by decide) dX9_toWarm_9 rfl (fun E N' ad' g' h => by obtain ⟨⟨rfl, h9⟩, rfl, rfl, rfl⟩ := h; exact z_uout C hxt hlk (by decide) (by decide) ⟨Or.inr rfl, rfl, rfl, rfl⟩) (kV0 fun gvy43 hvy43 => ?_)
  obtain ⟨hvy43, rfl⟩ := hvy43
  refine z_iconst (z := 1) C dX9_toWarm_12 rfl ?_
  refine z_istore_n (lv' := [(3, .int (zI (1))), (0, .ref (ad 0)), (1, .int (zI (z))), (2, .int (zI (z1)))]) C dX9_toWarm_13 rfl (by decide) rfl ?_
  have lp14 : ∀ (n9 : Nat) (i : Int) (g1 : Nat → va_E), (51 - i).toNat = n9 → (okRec cs ad g1 N t fp im nz kz sl ho ua st op ai fa mu tb tp) → (oX g g1) → (1 ≤ i ∧ i ≤ 51) → (0 ≤ z ∧ z < sl) → (1 ≤ z1 ∧ z1 ≤ 24) → zV p l e ({ frames := 12, cells := 6, slots := 60, locals := 720 } : Room) s m ([.ref (ad 0), .int (zI (z)), .int (zI (z1))] : List Value).toArray below meth c (vx_MQ below (zPost D A (rI0 N ad fun r g' => (-2147483648 ≤ r ∧ r ≤ 2147483647) ∧ okRec cs ad g' N t fp im nz kz sl ho ua st op ai fa mu tb tp ∧ oX g g')) (zX D A (fun E N' ad' g' => (E = eNS ∨ E = eIA) ∧ N' = N ∧ ad' = ad ∧ g' = g)) ([.ref (ad 0), .int (zI (z)), .int (zI (z1))] : List Value).toArray s ({ frames := 12, cells := 6, slots := 60, locals := 720 } : Room).cells ({ frames := 12, cells := 6, slots := 60, locals := 720 } : Room).slots A) D A 4 (N) ad g1 (2) (12) 14 [(3, .int (zI (i))), (0, .ref (ad 0)), (1, .int (zI (z))), (2, .int (zI (z1)))] [] := by
    intro n9
    induction n9 using Nat.strongRecOn with
    | ind n9 ih_lp14 =>
      intro i g1 hm9 f1 f2 hv14_0 hv14_1 hv14_2
      obtain ⟨ary44, bry44, cry44, dry44, ery44, fry44, gry441, hry44, ⟨acry44, iry44⟩, ⟨kcry44, jry44⟩, kry44, lry44, mry44, nry44, ory44, pry44⟩ := id f1
      have hay45 : zAt ad (0) (ad 0) := rfl
      have hay46 : zAt ad (1) (ad 1) := rfl
      have hay47 : zAt ad (2) (ad 2) := rfl
      have hay48 : zAt ad (4) (ad 4) := rfl
      have hay49 : zAt ad (11) (ad 11) := rfl
      have hay50 : zAt ad (447) (ad 447) := rfl
      have hay51 : zAt ad (883) (ad 883) := rfl
      have hay52 : zAt ad (890) (ad 890) := rfl
      have hay53 : zAt ad (900) (ad 900) := rfl
      have hay54 : zAt ad (910) (ad 910) := rfl
      have hay55 : zAt ad (917) (ad 917) := rfl
      have hay56 : zAt ad (919) (ad 919) := rfl
      have hay57 : zAt ad (4 + 1) (ad (4 + 1)) := rfl
      have hay58 : zAt ad (4 + 2) (ad (4 + 2)) := rfl
      have hay59 : zAt ad (4 + 3) (ad (4 + 3)) := rfl
      have hay60 : zAt ad (4 + 4) (ad (4 + 4)) := rfl
      have hay61 : zAt ad (4 + 5) (ad (4 + 5)) := rfl
      have hay62 : zAt ad (4 + 6) (ad (4 + 6)) := rfl
      obtain ⟨thcy63, zhcy63, ohcy63, rhcy63, hzhcy63, hthcy63, hwhcy63⟩ := id lry44
      obtain ⟨thcy64, zhcy64, ohcy64, rhcy64, hzhcy64, hthcy64, hwhcy64⟩ := id mry44
      obtain ⟨asy65, bsy65, csy65, dsy65, esy65, ⟨ptsy65, fsy65, gsy651⟩, hsy65, ⟨nusy65, nvsy65, nwsy65, isy65, jsy65, ksy65, lsy65, msy65, nsy65⟩, rfsy65, osy65⟩ := id iry44
      have hay66 : zAt ad (11 + 1) (ad (11 + 1)) := rfl
      have hay67 : zAt ad (11 + 11) (ad (11 + 11)) := rfl
      have hay68 : zAt ad (11 + 12) (ad (11 + 12)) := rfl
      have hay69 : zAt ad (11 + 13) (ad (11 + 13)) := rfl
      have hay70 : zAt ad (11 + 13 + 1) (ad (11 + 13 + 1)) := rfl
      have hay71 : zAt ad (11 + 13 + 2) (ad (11 + 13 + 2)) := rfl
      have hay72 : zAt ad (11 + 13 + 3) (ad (11 + 13 + 3)) := rfl
      have hay73 : zAt ad (11 + 17) (ad (11 + 17)) := rfl
      obtain ⟨uy74t, uy74z, uy74o, uy74r, uy74z4, uy74t5, uy741, ⟨uy74u, uy742, uy743⟩, uy744⟩ := id csy65
      have hay75 : zAt ad (11 + 1) (ad (11 + 1)) := rfl
      have hay76 : zAt ad (11 + 1 + 1) (ad (11 + 1 + 1)) := rfl
      obtain ⟨sloy77, hooy77, uaoy77, stoy77, opoy77, aioy77, faoy77, muoy77, tboy77, hsloy77, hhooy77, hpoy77⟩ := id kry44
      have hay78 : zAt ad (883 + 1) (ad (883 + 1)) := rfl
      have hay79 : zAt ad (883 + 2) (ad (883 + 2)) := rfl
      have hay80 : zAt ad (883 + 3) (ad (883 + 3)) := rfl
      have hay81 : zAt ad (883 + 4) (ad (883 + 4)) := rfl
      have hay82 : zAt ad (883 + 5) (ad (883 + 5)) := rfl
      have hay83 : zAt ad (883 + 6) (ad (883 + 6)) := rfl
      refine z_iload_n C 0 dX9_toWarm_14 rfl ?_
      refine z_bipush (z := 50) C dX9_toWarm_15 (by decide) ?_
      refine z_icmp_gt (tgt := 56) C dX9_toWarm_17 (by decide) (by omega) (by omega) (fun hby84 => ?_) (fun hby84 => ?_)
      · refine z_iconst (z := -1) C dX9_toWarm_56 rfl ?_
        have hrecy85 : okRec cs ad g1 N (t) (fp) (im) (nz) (kz) (sl) (ho) (ua) (st) (op) (ai) (fa) (mu) (tb) (tp) := ⟨ary44, bry44, cry44, dry44, ery44, fry44, gry441, hry44, ⟨_, iry44⟩, ⟨_, jry44⟩, kry44, lry44, mry44, nry44, ory44, pry44⟩
        exact z_rX (z_iret C hr hlk dX9_toWarm_57 (by decide) (by decide) ⟨-1, rfl, rfl, rfl, by omega, hrecy85, fun j j1 j2 => by exact f2 j j1 j2⟩)
      · refine z_aload_n C 1 dX9_toWarm_20 rfl ?_
        refine z_get (v := .ref (ad 883)) C (lt_K hN (rfl : Nat.blt (0) 952 = true)) hay45 ary44 rfl inA_X9 8 (by decide) q_357 rfl rfl dX9_toWarm_21 ?_
        refine z_aload_n C 1 dX9_toWarm_24 rfl ?_
        refine z_get (v := .ref (ad 4)) C (lt_K hN (rfl : Nat.blt (0) 952 = true)) hay45 ary44 rfl inA_X9 4 (by decide) q_353 rfl rfl dX9_toWarm_25 ?_
        refine z_cV (As := [.ref (ad 4)]) (rest := []) (ci := 7) C (c_X5_copyFrom l D A cs tt N ad _ 883 (by omega) _ _ _ _ _ _ _ _ _ ⟨hpoy77.1, hpoy77.2.1, hpoy77.2.2.1, hpoy77.2.2.2.1, hpoy77.2.2.2.2.1, hpoy77.2.2.2.2.2.1, hpoy77.2.2.2.2.2.2⟩ (4) (by omega) _ _ _ _ _ _ _ _ _ ⟨fry44.1, fry44.2.1, fry44.2.2.1, fry44.2.2.2.1, fry44.2.2.2.2.1, fry44.2.2.2.2.2.1, fry44.2.2.2.2.2.2⟩ (by omega)) (lt_K hN (rfl : Nat.blt (883) 952 = true)) hay51 hpoy77.1 rfl rfl mv_yX5_copyFrom q_862 hd_yX5_copyFrom (by decide) (Nat.le_of_ble_eq_true rfl) (by decide) dX9_toWarm_28 rfl (kV0 fun gvy86 hvy86 => ?_)
        obtain ⟨hpvy86, hfvy86⟩ := hvy86
        have hopy87 : okPlan cs ad gvy86 883 := ⟨_, _, _, _, _, _, _, _, _, by omega, by omega, hpvy86⟩
        obtain ⟨sloy88, hooy88, uaoy88, stoy88, opoy88, aioy88, faoy88, muoy88, tboy88, hsloy88, hhooy88, hpoy88⟩ := id hopy87
        refine z_aload_n C 1 dX9_toWarm_31 rfl ?_
        have hgy89 := (hfvy86 (0) (by omega)).trans ary44
        refine z_get (v := .ref (ad 883)) C (lt_K hN (rfl : Nat.blt (0) 952 = true)) hay45 hgy89 rfl inA_X9 8 (by decide) q_357 rfl rfl dX9_toWarm_32 ?_
        refine z_iload_n C 0 dX9_toWarm_35 rfl ?_
        refine z_cV (As := [.int (zI (i))]) (rest := []) (ci := 7) C (c_X5_warm l D A cs tt N ad _ 883 (by omega) _ _ _ _ _ _ _ _ _ ⟨hpoy88.1, hpoy88.2.1, hpoy88.2.2.1, hpoy88.2.2.2.1, hpoy88.2.2.2.2.1, hpoy88.2.2.2.2.2.1, hpoy88.2.2.2.2.2.2⟩ (by omega) (by omega) (i) (by omega)) (lt_K hN (rfl : Nat.blt (883) 952 = true)) hay51 hpoy88.1 rfl rfl mv_yX5_warm q_1288 hd_yX5_warm (by decide) (Nat.le_of_ble_eq_true rfl) (by decide) dX9_toWarm_36 rfl (kV0 fun gvy90 hvy90 => ?_)
        obtain ⟨hpvy90, hfvy90⟩ := hvy90
        have hopy91 : okPlan cs ad gvy90 883 := hpvy90
        obtain ⟨sloy92, hooy92, uaoy92, stoy92, opoy92, aioy92, faoy92, muoy92, tboy92, hsloy92, hhooy92, hpoy92⟩ := id hopy91
        refine z_aload_n C 1 dX9_toWarm_39 rfl ?_
        refine z_iload_n C 2 dX9_toWarm_40 rfl ?_
        refine z_iload_n C 3 dX9_toWarm_41 rfl ?_
        have hgy94 := (hfvy90 (0) (by omega)).trans hgy89
        have hgy95 := (hfvy86 (1) (by omega)).trans dry44
        have hgy96 := (hfvy90 (1) (by omega)).trans hgy95
        have hpy97 := okState.mv (ad' := ad) (g' := gvy90) (fun j h1 h2 => by rfl) (fun j h1 h2 => by rw [hfvy90 _ (by omega)]; rw [hfvy86 _ (by omega)]) iry44
        have hpy98 := okRdr.mv (ad' := ad) (g' := gvy90) (fun j h1 h2 => by rfl) (fun j h1 h2 => by rw [hfvy90 _ (by omega)]; rw [hfvy86 _ (by omega)]) ery44
        have hpy99 := isPlan.mv (ad' := ad) (g' := gvy90) (fun j h1 h2 => by rfl) (fun j h1 h2 => by rw [hfvy90 _ (by omega)]; rw [hfvy86 _ (by omega)]) fry44
        have hpy100 := okState.mv (ad' := ad) (g' := gvy90) (fun j h1 h2 => by rfl) (fun j h1 h2 => by rw [hfvy90 _ (by omega)]; rw [hfvy86 _ (by omega)]) jry44
        have hpy101 := okGss.mv (ad' := ad) (g' := gvy90) (fun j h1 h2 => by rfl) (fun j h1 h2 => by rw [hfvy90 _ (by omega)]; rw [hfvy86 _ (by omega)]) nry44
        have hpy102 := okLike.mv (ad' := ad) (g' := gvy90) (fun j h1 h2 => by rfl) (fun j h1 h2 => by rw [hfvy90 _ (by omega)]; rw [hfvy86 _ (by omega)]) ory44
        have hpy103 := okBld.mv (ad' := ad) (g' := gvy90) (fun j h1 h2 => by rfl) (fun j h1 h2 => by rw [hfvy90 _ (by omega)]; rw [hfvy86 _ (by omega)]) pry44
        have hoky104 : okWorld cs ad gvy90 (890) := okWorld.mv (fun j j1 j2 => by rw [hfvy90 _ (by omega)]; rw [hfvy86 _ (by omega)]) lry44
        have hoky105 : okWorld cs ad gvy90 (900) := okWorld.mv (fun j j1 j2 => by rw [hfvy90 _ (by omega)]; rw [hfvy86 _ (by omega)]) mry44
        have hrecy106 : okRec cs ad gvy90 N (t) (fp) (im) (nz) (kz) (sl) (ho) (ua) (st) (op) (ai) (fa) (mu) (tb) (tp) := ⟨hgy94, bry44, cry44, hgy96, hpy98, hpy99, gry441, hry44, ⟨_, hpy97⟩, ⟨_, hpy100⟩, hopy91, hoky104, hoky105, hpy101, hpy102, hpy103⟩
        refine z_cV (As := [.int (zI (z)), .int (zI (z1))]) (rest := []) (ci := 11) C (c_X9_isOnceUnstable l D A cs tt N ad _ hN _ _ _ _ _ _ _ _ _ _ _ _ _ _ _ hrecy106 (z) (by omega) (z1) (by omega)) (lt_K hN (rfl : Nat.blt (0) 952 = true)) hay45 hgy94 rfl rfl mv_yX9_isOnceUnstable q_1293 hd_yX9_isOnceUnstable (by decide) (Nat.le_of_ble_eq_true rfl) (by decide) dX9_toWarm_42 rfl (kI0 fun vy93 gvy93 hvy93 => ?_)
        obtain ⟨hrvy93, hkvy93, hfvy93⟩ := hvy93
        obtain ⟨ary107, bry107, cry107, dry107, ery107, fry107, gry1071, hry107, ⟨acry107, iry107⟩, ⟨kcry107, jry107⟩, kry107, lry107, mry107, nry107, ory107, pry107⟩ := id hkvy93
        obtain ⟨thcy108, zhcy108, ohcy108, rhcy108, hzhcy108, hthcy108, hwhcy108⟩ := id lry107
        obtain ⟨thcy109, zhcy109, ohcy109, rhcy109, hzhcy109, hthcy109, hwhcy109⟩ := id mry107
        obtain ⟨asy110, bsy110, csy110, dsy110, esy110, ⟨ptsy110, fsy110, gsy1101⟩, hsy110, ⟨nusy110, nvsy110, nwsy110, isy110, jsy110, ksy110, lsy110, msy110, nsy110⟩, rfsy110, osy110⟩ := id iry107
        obtain ⟨uy111t, uy111z, uy111o, uy111r, uy111z4, uy111t5, uy1111, ⟨uy111u, uy1112, uy1113⟩, uy1114⟩ := id csy110
        have hay112 : zAt ad (11 + 1) (ad (11 + 1)) := rfl
        have hay113 : zAt ad (11 + 1 + 1) (ad (11 + 1 + 1)) := rfl
        obtain ⟨sloy114, hooy114, uaoy114, stoy114, opoy114, aioy114, faoy114, muoy114, tboy114, hsloy114, hhooy114, hpoy114⟩ := id kry107
        refine z_if_eq (tgt := 50) C dX9_toWarm_45 (by decide) (by omega) (fun hby115 => ?_) (fun hby115 => ?_)
        · refine z_iinc (z := i + 1) (lv' := [(3, .int (zI (i + 1))), (0, .ref (ad 0)), (1, .int (zI (z))), (2, .int (zI (z1)))]) (j := 0) C dX9_toWarm_50 rfl rfl (by decide) rfl ?_
          refine z_goto (tgt := 14) C dX9_toWarm_53 (by decide) ?_
          have hrecy116 : okRec cs ad gvy93 N (t) (fp) (im) (nz) (kz) (sl) (ho) (ua) (st) (op) (ai) (fa) (mu) (tb) (tp) := ⟨ary107, bry107, cry107, dry107, ery107, fry107, gry1071, hry107, ⟨_, iry107⟩, ⟨_, jry107⟩, kry107, lry107, mry107, nry107, ory107, pry107⟩
          refine z_lv (lv' := [(3, .int (zI (i + 1))), (0, .ref (ad 0)), (1, .int (zI (z))), (2, .int (zI (z1)))]) [0, 1, 2, 3] rfl ?_
          exact ih_lp14 _ (by omega) (i + 1) gvy93 rfl hrecy116 (fun j j1 j2 => by rw [hfvy93 _ (by omega) (by omega)]; rw [hfvy90 _ (by omega)]; rw [hfvy86 _ (by omega)]; exact f2 j j1 j2) (by omega) (by omega) (by omega)
        · refine z_iload_n C 0 dX9_toWarm_48 rfl ?_
          have hrecy117 : okRec cs ad gvy93 N (t) (fp) (im) (nz) (kz) (sl) (ho) (ua) (st) (op) (ai) (fa) (mu) (tb) (tp) := ⟨ary107, bry107, cry107, dry107, ery107, fry107, gry1071, hry107, ⟨_, iry107⟩, ⟨_, jry107⟩, kry107, lry107, mry107, nry107, ory107, pry107⟩
          exact z_rX (z_iret C hr hlk dX9_toWarm_49 (by decide) (by decide) ⟨i, rfl, rfl, rfl, by omega, hrecy117, fun j j1 j2 => by rw [hfvy93 _ (by omega) (by omega)]; rw [hfvy90 _ (by omega)]; rw [hfvy86 _ (by omega)]; exact f2 j j1 j2⟩)
  have hrecy118 : okRec cs ad g N (t) (fp) (im) (nz) (kz) (sl) (ho) (ua) (st) (op) (ai) (fa) (mu) (tb) (tp) := ⟨ary1, bry1, cry1, dry1, ery1, fry1, gry11, hry1, ⟨_, iry1⟩, ⟨_, jry1⟩, kry1, lry1, mry1, nry1, ory1, pry1⟩
  refine z_lv (lv' := [(3, .int (zI (1))), (0, .ref (ad 0)), (1, .int (zI (z))), (2, .int (zI (z1)))]) [0, 1, 2, 3] rfl ?_
  exact lp14 _ (1) g rfl hrecy118 (fun j j1 j2 => by rfl) (by omega) (by omega) (by omega)
end
section
-- 47.words.lean.txt
-- words of guess
theorem q_1304 : (Jvm.Cond.methodLink "SnowRecorder" (330 : Nat) ({ cls := "SnowRecorder", name := "otherRatio", desc := "(II)I" } : Jvm.MethodName)) ∈ AW := AW_m6 104 (by decide +kernel) (by decide +kernel)
theorem q_1306 : (Jvm.Cond.instanceMethod ({ cls := "SnowRecorder", name := "otherRatio", desc := "(II)I" } : Jvm.MethodName)) ∈ AW := AW_m6 106 (by decide +kernel) (by decide +kernel)
theorem q_1307 : (Jvm.Cond.code ({ cls := "SnowRecorder", name := "otherRatio", desc := "(II)I" } : Jvm.MethodName) prog_1_method_49_code (4 : Nat) (Option.some Jvm.ClassFile.FieldType.int)) ∈ AW := AW_m6 107 (by decide +kernel) (by decide +kernel)
theorem q_1308 : (Jvm.Cond.methodLink "SnowRecorder" (333 : Nat) ({ cls := "java/lang/Math", name := "abs", desc := "(I)I" } : Jvm.MethodName)) ∈ AW := AW_m6 108 (by decide +kernel) (by decide +kernel)
theorem q_1363 : (Jvm.Cond.methodLink "SnowRecorder" (376 : Nat) ({ cls := "SnowRecorder$Notes", name := "lastHour", desc := "()I" } : Jvm.MethodName)) ∈ AW := AW_m6 163 (by decide +kernel) (by decide +kernel)
theorem q_1364 : (Jvm.Cond.instanceMethod ({ cls := "SnowRecorder$Notes", name := "lastHour", desc := "()I" } : Jvm.MethodName)) ∈ AW := AW_m6 164 (by decide +kernel) (by decide +kernel)
theorem q_1365 : (Jvm.Cond.selects "SnowRecorder$Notes" ({ cls := "SnowRecorder$Notes", name := "lastHour", desc := "()I" } : Jvm.MethodName) ({ cls := "SnowRecorder$Notes", name := "lastHour", desc := "()I" } : Jvm.MethodName)) ∈ AW := AW_m6 165 (by decide +kernel) (by decide +kernel)
theorem q_1366 : (Jvm.Cond.code ({ cls := "SnowRecorder$Notes", name := "lastHour", desc := "()I" } : Jvm.MethodName) prog_4_method_5_code (3 : Nat) (Option.some Jvm.ClassFile.FieldType.int)) ∈ AW := AW_m6 166 (by decide +kernel) (by decide +kernel)
theorem q_1368 : (Jvm.Cond.methodLink "SnowRecorder" (379 : Nat) ({ cls := "SnowRecorder", name := "isNotedSo", desc := "(LSnowRecorder$World;LSnowRecorder$Plan;III)Z" } : Jvm.MethodName)) ∈ AW := AW_m6 168 (by decide +kernel) (by decide +kernel)
theorem q_1370 : (Jvm.Cond.instanceMethod ({ cls := "SnowRecorder", name := "isNotedSo", desc := "(LSnowRecorder$World;LSnowRecorder$Plan;III)Z" } : Jvm.MethodName)) ∈ AW := AW_m6 170 (by decide +kernel) (by decide +kernel)
theorem q_1371 : (Jvm.Cond.code ({ cls := "SnowRecorder", name := "isNotedSo", desc := "(LSnowRecorder$World;LSnowRecorder$Plan;III)Z" } : Jvm.MethodName) prog_1_method_51_code (9 : Nat) (Option.some Jvm.ClassFile.FieldType.boolean)) ∈ AW := AW_m6 171 (by decide +kernel) (by decide +kernel)
theorem q_1372 : (Jvm.Cond.methodLink "SnowRecorder" (383 : Nat) ({ cls := "SnowRecorder", name := "guessFalls", desc := "(Z)V" } : Jvm.MethodName)) ∈ AW := AW_m6 172 (by decide +kernel) (by decide +kernel)
theorem q_1374 : (Jvm.Cond.instanceMethod ({ cls := "SnowRecorder", name := "guessFalls", desc := "(Z)V" } : Jvm.MethodName)) ∈ AW := AW_m6 174 (by decide +kernel) (by decide +kernel)
theorem q_1375 : (Jvm.Cond.code ({ cls := "SnowRecorder", name := "guessFalls", desc := "(Z)V" } : Jvm.MethodName) prog_1_method_52_code (4 : Nat) (Option.none : Option Jvm.ClassFile.FieldType)) ∈ AW := AW_m6 175 (by decide +kernel) (by decide +kernel)
theorem q_1376 : (Jvm.Cond.methodLink "SnowRecorder" (434 : Nat) ({ cls := "SnowRecorder$Guesses", name := "clear", desc := "()V" } : Jvm.MethodName)) ∈ AW := AW_m6 176 (by decide +kernel) (by decide +kernel)
theorem q_1377 : (Jvm.Cond.instanceMethod ({ cls := "SnowRecorder$Guesses", name := "clear", desc := "()V" } : Jvm.MethodName)) ∈ AW := AW_m6 177 (by decide +kernel) (by decide +kernel)
theorem q_1378 : (Jvm.Cond.selects "SnowRecorder$Guesses" ({ cls := "SnowRecorder$Guesses", name := "clear", desc := "()V" } : Jvm.MethodName) ({ cls := "SnowRecorder$Guesses", name := "clear", desc := "()V" } : Jvm.MethodName)) ∈ AW := AW_m6 178 (by decide +kernel) (by decide +kernel)
theorem q_1379 : (Jvm.Cond.code ({ cls := "SnowRecorder$Guesses", name := "clear", desc := "()V" } : Jvm.MethodName) prog_2_method_2_code (2 : Nat) (Option.none : Option Jvm.ClassFile.FieldType)) ∈ AW := AW_m6 179 (by decide +kernel) (by decide +kernel)
theorem q_1380 : (Jvm.Cond.methodLink "SnowRecorder" (437 : Nat) ({ cls := "java/lang/Math", name := "floorMod", desc := "(II)I" } : Jvm.MethodName)) ∈ AW := AW_m6 180 (by decide +kernel) (by decide +kernel)
theorem q_1381 : (Jvm.Cond.methodLink "SnowRecorder" (440 : Nat) ({ cls := "SnowRecorder", name := "guessMuch", desc := "(IIZ)V" } : Jvm.MethodName)) ∈ AW := AW_m6 181 (by decide +kernel) (by decide +kernel)
theorem q_1383 : (Jvm.Cond.instanceMethod ({ cls := "SnowRecorder", name := "guessMuch", desc := "(IIZ)V" } : Jvm.MethodName)) ∈ AW := AW_m6 183 (by decide +kernel) (by decide +kernel)
theorem q_1384 : (Jvm.Cond.code ({ cls := "SnowRecorder", name := "guessMuch", desc := "(IIZ)V" } : Jvm.MethodName) prog_1_method_53_code (7 : Nat) (Option.none : Option Jvm.ClassFile.FieldType)) ∈ AW := AW_m6 184 (by decide +kernel) (by decide +kernel)
theorem q_1385 : (Jvm.Cond.methodLink "SnowRecorder" (444 : Nat) ({ cls := "SnowRecorder$Notes", name := "slopes", desc := "()I" } : Jvm.MethodName)) ∈ AW := AW_m6 185 (by decide +kernel) (by decide +kernel)
theorem q_1386 : (Jvm.Cond.instanceMethod ({ cls := "SnowRecorder$Notes", name := "slopes", desc := "()I" } : Jvm.MethodName)) ∈ AW := AW_m6 186 (by decide +kernel) (by decide +kernel)
theorem q_1387 : (Jvm.Cond.selects "SnowRecorder$Notes" ({ cls := "SnowRecorder$Notes", name := "slopes", desc := "()I" } : Jvm.MethodName) ({ cls := "SnowRecorder$Notes", name := "slopes", desc := "()I" } : Jvm.MethodName)) ∈ AW := AW_m6 187 (by decide +kernel) (by decide +kernel)
theorem q_1388 : (Jvm.Cond.code ({ cls := "SnowRecorder$Notes", name := "slopes", desc := "()I" } : Jvm.MethodName) prog_4_method_4_code (3 : Nat) (Option.some Jvm.ClassFile.FieldType.int)) ∈ AW := AW_m6 188 (by decide +kernel) (by decide +kernel)
theorem q_1389 : (Jvm.Cond.methodLink "SnowRecorder" (446 : Nat) ({ cls := "SnowRecorder$Guesses", name := "add", desc := "(I)V" } : Jvm.MethodName)) ∈ AW := AW_m6 189 (by decide +kernel) (by decide +kernel)
theorem q_1390 : (Jvm.Cond.instanceMethod ({ cls := "SnowRecorder$Guesses", name := "add", desc := "(I)V" } : Jvm.MethodName)) ∈ AW := AW_m6 190 (by decide +kernel) (by decide +kernel)
theorem q_1391 : (Jvm.Cond.selects "SnowRecorder$Guesses" ({ cls := "SnowRecorder$Guesses", name := "add", desc := "(I)V" } : Jvm.MethodName) ({ cls := "SnowRecorder$Guesses", name := "add", desc := "(I)V" } : Jvm.MethodName)) ∈ AW := AW_m6 191 (by decide +kernel) (by decide +kernel)
theorem q_1392 : (Jvm.Cond.code ({ cls := "SnowRecorder$Guesses", name := "add", desc := "(I)V" } : Jvm.MethodName) prog_2_method_3_code (2 : Nat) (Option.none : Option Jvm.ClassFile.FieldType)) ∈ AW := AW_m6 192 (by decide +kernel) (by decide +kernel)
theorem q_1393 : (Jvm.Cond.methodLink "SnowRecorder" (448 : Nat) ({ cls := "SnowRecorder", name := "lookFrom", desc := "(I)V" } : Jvm.MethodName)) ∈ AW := AW_m6 193 (by decide +kernel) (by decide +kernel)
theorem q_1395 : (Jvm.Cond.instanceMethod ({ cls := "SnowRecorder", name := "lookFrom", desc := "(I)V" } : Jvm.MethodName)) ∈ AW := AW_m6 195 (by decide +kernel) (by decide +kernel)
theorem q_1396 : (Jvm.Cond.code ({ cls := "SnowRecorder", name := "lookFrom", desc := "(I)V" } : Jvm.MethodName) prog_1_method_54_code (3 : Nat) (Option.none : Option Jvm.ClassFile.FieldType)) ∈ AW := AW_m6 196 (by decide +kernel) (by decide +kernel)
theorem q_1397 : (Jvm.Cond.methodLink "SnowRecorder" (451 : Nat) ({ cls := "SnowRecorder$Guesses", name := "see", desc := "(II)V" } : Jvm.MethodName)) ∈ AW := AW_m6 197 (by decide +kernel) (by decide +kernel)
theorem q_1398 : (Jvm.Cond.instanceMethod ({ cls := "SnowRecorder$Guesses", name := "see", desc := "(II)V" } : Jvm.MethodName)) ∈ AW := AW_m6 198 (by decide +kernel) (by decide +kernel)
theorem q_1399 : (Jvm.Cond.selects "SnowRecorder$Guesses" ({ cls := "SnowRecorder$Guesses", name := "see", desc := "(II)V" } : Jvm.MethodName) ({ cls := "SnowRecorder$Guesses", name := "see", desc := "(II)V" } : Jvm.MethodName)) ∈ AW := AW_m6 199 (by decide +kernel) (by decide +kernel)
theorem q_1400 : (Jvm.Cond.code ({ cls := "SnowRecorder$Guesses", name := "see", desc := "(II)V" } : Jvm.MethodName) prog_2_method_4_code (5 : Nat) (Option.none : Option Jvm.ClassFile.FieldType)) ∈ AW := AW_m6 200 (by decide +kernel) (by decide +kernel)
theorem q_1416 : (Jvm.Cond.methodLink "SnowRecorder" (398 : Nat) ({ cls := "SnowRecorder", name := "weightOf", desc := "(III)I" } : Jvm.MethodName)) ∈ AW := AW_m6 216 (by decide +kernel) (by decide +kernel)
theorem q_1418 : (Jvm.Cond.instanceMethod ({ cls := "SnowRecorder", name := "weightOf", desc := "(III)I" } : Jvm.MethodName)) ∈ AW := AW_m6 218 (by decide +kernel) (by decide +kernel)
theorem q_1419 : (Jvm.Cond.code ({ cls := "SnowRecorder", name := "weightOf", desc := "(III)I" } : Jvm.MethodName) prog_1_method_55_code (7 : Nat) (Option.some Jvm.ClassFile.FieldType.int)) ∈ AW := AW_m6 219 (by decide +kernel) (by decide +kernel)
theorem q_1420 : (Jvm.Cond.methodLink "SnowRecorder" (454 : Nat) ({ cls := "SnowRecorder$Plan", name := "fallAt", desc := "(I)I" } : Jvm.MethodName)) ∈ AW := AW_m6 220 (by decide +kernel) (by decide +kernel)
theorem q_1421 : (Jvm.Cond.methodLink "SnowRecorder" (402 : Nat) ({ cls := "SnowRecorder", name := "isUnstableWithout", desc := "(III)Z" } : Jvm.MethodName)) ∈ AW := AW_m6 221 (by decide +kernel) (by decide +kernel)
theorem q_1423 : (Jvm.Cond.instanceMethod ({ cls := "SnowRecorder", name := "isUnstableWithout", desc := "(III)Z" } : Jvm.MethodName)) ∈ AW := AW_m6 223 (by decide +kernel) (by decide +kernel)
theorem q_1424 : (Jvm.Cond.code ({ cls := "SnowRecorder", name := "isUnstableWithout", desc := "(III)Z" } : Jvm.MethodName) prog_1_method_56_code (5 : Nat) (Option.some Jvm.ClassFile.FieldType.boolean)) ∈ AW := AW_m6 224 (by decide +kernel) (by decide +kernel)
theorem q_1433 : (Jvm.Cond.methodLink "SnowRecorder" (408 : Nat) ({ cls := "SnowRecorder", name := "yearGoesBy", desc := "(I)I" } : Jvm.MethodName)) ∈ AW := AW_m6 233 (by decide +kernel) (by decide +kernel)
theorem q_1435 : (Jvm.Cond.instanceMethod ({ cls := "SnowRecorder", name := "yearGoesBy", desc := "(I)I" } : Jvm.MethodName)) ∈ AW := AW_m6 235 (by decide +kernel) (by decide +kernel)
theorem q_1436 : (Jvm.Cond.code ({ cls := "SnowRecorder", name := "yearGoesBy", desc := "(I)I" } : Jvm.MethodName) prog_1_method_57_code (6 : Nat) (Option.some Jvm.ClassFile.FieldType.int)) ∈ AW := AW_m6 236 (by decide +kernel) (by decide +kernel)
theorem q_1437 : (Jvm.Cond.methodLink "SnowRecorder" (457 : Nat) ({ cls := "SnowRecorder", name := "nextSeed", desc := "(I)I" } : Jvm.MethodName)) ∈ AW := AW_m6 237 (by decide +kernel) (by decide +kernel)
theorem q_1438 : (Jvm.Cond.static ({ cls := "SnowRecorder", name := "nextSeed", desc := "(I)I" } : Jvm.MethodName)) ∈ AW := AW_m6 238 (by decide +kernel) (by decide +kernel)
theorem q_1439 : (Jvm.Cond.code ({ cls := "SnowRecorder", name := "nextSeed", desc := "(I)I" } : Jvm.MethodName) prog_1_method_59_code (1 : Nat) (Option.some Jvm.ClassFile.FieldType.int)) ∈ AW := AW_m6 239 (by decide +kernel) (by decide +kernel)
theorem q_1441 : (Jvm.Cond.methodLink "SnowRecorder" (460 : Nat) ({ cls := "SnowRecorder", name := "drawOf", desc := "(II)I" } : Jvm.MethodName)) ∈ AW := AW_m7 1 (by decide +kernel) (by decide +kernel)
theorem q_1442 : (Jvm.Cond.static ({ cls := "SnowRecorder", name := "drawOf", desc := "(II)I" } : Jvm.MethodName)) ∈ AW := AW_m7 2 (by decide +kernel) (by decide +kernel)
theorem q_1443 : (Jvm.Cond.code ({ cls := "SnowRecorder", name := "drawOf", desc := "(II)I" } : Jvm.MethodName) prog_1_method_60_code (2 : Nat) (Option.some Jvm.ClassFile.FieldType.int)) ∈ AW := AW_m7 3 (by decide +kernel) (by decide +kernel)
theorem q_1444 : (Jvm.Cond.methodLink "SnowRecorder" (467 : Nat) ({ cls := "java/lang/Math", name := "max", desc := "(II)I" } : Jvm.MethodName)) ∈ AW := AW_m7 4 (by decide +kernel) (by decide +kernel)
theorem q_1445 : (Jvm.Cond.methodLink "SnowRecorder" (463 : Nat) ({ cls := "SnowRecorder", name := "slideAll", desc := "()V" } : Jvm.MethodName)) ∈ AW := AW_m7 5 (by decide +kernel) (by decide +kernel)
theorem q_1447 : (Jvm.Cond.instanceMethod ({ cls := "SnowRecorder", name := "slideAll", desc := "()V" } : Jvm.MethodName)) ∈ AW := AW_m7 7 (by decide +kernel) (by decide +kernel)
theorem q_1448 : (Jvm.Cond.code ({ cls := "SnowRecorder", name := "slideAll", desc := "()V" } : Jvm.MethodName) prog_1_method_58_code (2 : Nat) (Option.none : Option Jvm.ClassFile.FieldType)) ∈ AW := AW_m7 8 (by decide +kernel) (by decide +kernel)
theorem q_220 : (Jvm.Cond.fieldLink "SnowRecorder" (432 : Nat) "SnowRecorder$Notes" "slope" "[I") ∈ AW := AW_m1 220 (by decide +kernel) (by decide +kernel)
theorem q_222 : (Jvm.Cond.fieldLink "SnowRecorder" (427 : Nat) "SnowRecorder$Notes" "hours" "[I") ∈ AW := AW_m1 222 (by decide +kernel) (by decide +kernel)
theorem q_224 : (Jvm.Cond.fieldLink "SnowRecorder" (429 : Nat) "SnowRecorder$Notes" "depth" "[I") ∈ AW := AW_m1 224 (by decide +kernel) (by decide +kernel)
theorem q_292 : (Jvm.Cond.fieldLink "SnowRecorder" (387 : Nat) "SnowRecorder$Guesses" "many" "I") ∈ AW := AW_m2 52 (by decide +kernel) (by decide +kernel)
theorem q_294 : (Jvm.Cond.fieldLink "SnowRecorder" (390 : Nat) "SnowRecorder$Guesses" "first" "I") ∈ AW := AW_m2 54 (by decide +kernel) (by decide +kernel)
theorem q_296 : (Jvm.Cond.fieldLink "SnowRecorder" (393 : Nat) "SnowRecorder$Guesses" "unlike" "[I") ∈ AW := AW_m2 56 (by decide +kernel) (by decide +kernel)
theorem q_546 : (Jvm.Cond.methodLink "SnowRecorder" (276 : Nat) ({ cls := "SnowRecorder$World", name := "fallOn", desc := "(IIII)V" } : Jvm.MethodName)) ∈ AW := AW_m3 66 (by decide +kernel) (by decide +kernel)
theorem q_551 : (Jvm.Cond.methodLink "SnowRecorder" (284 : Nat) ({ cls := "SnowRecorder$World", name := "digOn", desc := "(I)I" } : Jvm.MethodName)) ∈ AW := AW_m3 71 (by decide +kernel) (by decide +kernel)
theorem q_552 : (Jvm.Cond.instanceMethod ({ cls := "SnowRecorder$World", name := "digOn", desc := "(I)I" } : Jvm.MethodName)) ∈ AW := AW_m3 72 (by decide +kernel) (by decide +kernel)
theorem q_553 : (Jvm.Cond.selects "SnowRecorder$World" ({ cls := "SnowRecorder$World", name := "digOn", desc := "(I)I" } : Jvm.MethodName) ({ cls := "SnowRecorder$World", name := "digOn", desc := "(I)I" } : Jvm.MethodName)) ∈ AW := AW_m3 73 (by decide +kernel) (by decide +kernel)
theorem q_554 : (Jvm.Cond.code ({ cls := "SnowRecorder$World", name := "digOn", desc := "(I)I" } : Jvm.MethodName) prog_10_method_10_code (3 : Nat) (Option.some Jvm.ClassFile.FieldType.int)) ∈ AW := AW_m3 74 (by decide +kernel) (by decide +kernel)
theorem q_586 : (Jvm.Cond.methodLink "SnowRecorder" (291 : Nat) ({ cls := "SnowRecorder$World", name := "slideOn", desc := "(ILSnowRecorder$Plan;)I" } : Jvm.MethodName)) ∈ AW := AW_m3 106 (by decide +kernel) (by decide +kernel)
theorem q_587 : (Jvm.Cond.instanceMethod ({ cls := "SnowRecorder$World", name := "slideOn", desc := "(ILSnowRecorder$Plan;)I" } : Jvm.MethodName)) ∈ AW := AW_m3 107 (by decide +kernel) (by decide +kernel)
theorem q_588 : (Jvm.Cond.selects "SnowRecorder$World" ({ cls := "SnowRecorder$World", name := "slideOn", desc := "(ILSnowRecorder$Plan;)I" } : Jvm.MethodName) ({ cls := "SnowRecorder$World", name := "slideOn", desc := "(ILSnowRecorder$Plan;)I" } : Jvm.MethodName)) ∈ AW := AW_m3 108 (by decide +kernel) (by decide +kernel)
theorem q_589 : (Jvm.Cond.code ({ cls := "SnowRecorder$World", name := "slideOn", desc := "(ILSnowRecorder$Plan;)I" } : Jvm.MethodName) prog_10_method_11_code (6 : Nat) (Option.some Jvm.ClassFile.FieldType.int)) ∈ AW := AW_m3 109 (by decide +kernel) (by decide +kernel)
theorem s_28 : Cond.selects "SnowRecorder" ({ cls := "SnowRecorder", name := "otherRatio", desc := "(II)I" } : Jvm.MethodName) ({ cls := "SnowRecorder", name := "otherRatio", desc := "(II)I" } : Jvm.MethodName) ∈ AW := AW_m 28 (by decide +kernel) (by decide +kernel)
theorem s_31 : Cond.selects "SnowRecorder" ({ cls := "SnowRecorder", name := "isNotedSo", desc := "(LSnowRecorder$World;LSnowRecorder$Plan;III)Z" } : Jvm.MethodName) ({ cls := "SnowRecorder", name := "isNotedSo", desc := "(LSnowRecorder$World;LSnowRecorder$Plan;III)Z" } : Jvm.MethodName) ∈ AW := AW_m 31 (by decide +kernel) (by decide +kernel)
theorem s_32 : Cond.selects "SnowRecorder" ({ cls := "SnowRecorder", name := "guessFalls", desc := "(Z)V" } : Jvm.MethodName) ({ cls := "SnowRecorder", name := "guessFalls", desc := "(Z)V" } : Jvm.MethodName) ∈ AW := AW_m 32 (by decide +kernel) (by decide +kernel)
theorem s_33 : Cond.selects "SnowRecorder" ({ cls := "SnowRecorder", name := "guessMuch", desc := "(IIZ)V" } : Jvm.MethodName) ({ cls := "SnowRecorder", name := "guessMuch", desc := "(IIZ)V" } : Jvm.MethodName) ∈ AW := AW_m 33 (by decide +kernel) (by decide +kernel)
theorem s_34 : Cond.selects "SnowRecorder" ({ cls := "SnowRecorder", name := "lookFrom", desc := "(I)V" } : Jvm.MethodName) ({ cls := "SnowRecorder", name := "lookFrom", desc := "(I)V" } : Jvm.MethodName) ∈ AW := AW_m 34 (by decide +kernel) (by decide +kernel)
theorem s_35 : Cond.selects "SnowRecorder" ({ cls := "SnowRecorder", name := "weightOf", desc := "(III)I" } : Jvm.MethodName) ({ cls := "SnowRecorder", name := "weightOf", desc := "(III)I" } : Jvm.MethodName) ∈ AW := AW_m 35 (by decide +kernel) (by decide +kernel)
theorem s_36 : Cond.selects "SnowRecorder" ({ cls := "SnowRecorder", name := "isUnstableWithout", desc := "(III)Z" } : Jvm.MethodName) ({ cls := "SnowRecorder", name := "isUnstableWithout", desc := "(III)Z" } : Jvm.MethodName) ∈ AW := AW_m 36 (by decide +kernel) (by decide +kernel)
theorem s_37 : Cond.selects "SnowRecorder" ({ cls := "SnowRecorder", name := "yearGoesBy", desc := "(I)I" } : Jvm.MethodName) ({ cls := "SnowRecorder", name := "yearGoesBy", desc := "(I)I" } : Jvm.MethodName) ∈ AW := AW_m 37 (by decide +kernel) (by decide +kernel)
theorem s_38 : Cond.selects "SnowRecorder" ({ cls := "SnowRecorder", name := "slideAll", desc := "()V" } : Jvm.MethodName) ({ cls := "SnowRecorder", name := "slideAll", desc := "()V" } : Jvm.MethodName) ∈ AW := AW_m 38 (by decide +kernel) (by decide +kernel)
theorem hd_yX9_otherRatio : yX9_otherRatio.cls ≠ "java/lang/invoke/MethodHandle" ∧ yX9_otherRatio.cls ≠ "java/lang/invoke/VarHandle" ∧ (parseMethodDescriptor yX9_otherRatio.desc).map (fun d => d.parameters.length) = some 2 := by decide +kernel
theorem hd_yX0_see : yX0_see.cls ≠ "java/lang/invoke/MethodHandle" ∧ yX0_see.cls ≠ "java/lang/invoke/VarHandle" ∧ (parseMethodDescriptor yX0_see.desc).map (fun d => d.parameters.length) = some 2 := by decide +kernel
theorem hd_yX2_slopes : yX2_slopes.cls ≠ "java/lang/invoke/MethodHandle" ∧ yX2_slopes.cls ≠ "java/lang/invoke/VarHandle" ∧ (parseMethodDescriptor yX2_slopes.desc).map (fun d => d.parameters.length) = some 0 := by decide +kernel
theorem hd_yX2_lastHour : yX2_lastHour.cls ≠ "java/lang/invoke/MethodHandle" ∧ yX2_lastHour.cls ≠ "java/lang/invoke/VarHandle" ∧ (parseMethodDescriptor yX2_lastHour.desc).map (fun d => d.parameters.length) = some 0 := by decide +kernel
theorem hd_yX9_isNotedSo : yX9_isNotedSo.cls ≠ "java/lang/invoke/MethodHandle" ∧ yX9_isNotedSo.cls ≠ "java/lang/invoke/VarHandle" ∧ (parseMethodDescriptor yX9_isNotedSo.desc).map (fun d => d.parameters.length) = some 5 := by decide +kernel
theorem hd_yX0_add : yX0_add.cls ≠ "java/lang/invoke/MethodHandle" ∧ yX0_add.cls ≠ "java/lang/invoke/VarHandle" ∧ (parseMethodDescriptor yX0_add.desc).map (fun d => d.parameters.length) = some 1 := by decide +kernel
theorem hd_yX9_lookFrom : yX9_lookFrom.cls ≠ "java/lang/invoke/MethodHandle" ∧ yX9_lookFrom.cls ≠ "java/lang/invoke/VarHandle" ∧ (parseMethodDescriptor yX9_lookFrom.desc).map (fun d => d.parameters.length) = some 1 := by decide +kernel
theorem hd_yX0_clear : yX0_clear.cls ≠ "java/lang/invoke/MethodHandle" ∧ yX0_clear.cls ≠ "java/lang/invoke/VarHandle" ∧ (parseMethodDescriptor yX0_clear.desc).map (fun d => d.parameters.length) = some 0 := by decide +kernel
theorem hd_yX9_guessMuch : yX9_guessMuch.cls ≠ "java/lang/invoke/MethodHandle" ∧ yX9_guessMuch.cls ≠ "java/lang/invoke/VarHandle" ∧ (parseMethodDescriptor yX9_guessMuch.desc).map (fun d => d.parameters.length) = some 3 := by decide +kernel
theorem hd_yX9_guessFalls : yX9_guessFalls.cls ≠ "java/lang/invoke/MethodHandle" ∧ yX9_guessFalls.cls ≠ "java/lang/invoke/VarHandle" ∧ (parseMethodDescriptor yX9_guessFalls.desc).map (fun d => d.parameters.length) = some 1 := by decide +kernel
theorem hd_yX9_weightOf : yX9_weightOf.cls ≠ "java/lang/invoke/MethodHandle" ∧ yX9_weightOf.cls ≠ "java/lang/invoke/VarHandle" ∧ (parseMethodDescriptor yX9_weightOf.desc).map (fun d => d.parameters.length) = some 3 := by decide +kernel
theorem hd_yX9_isUnstableWithout : yX9_isUnstableWithout.cls ≠ "java/lang/invoke/MethodHandle" ∧ yX9_isUnstableWithout.cls ≠ "java/lang/invoke/VarHandle" ∧ (parseMethodDescriptor yX9_isUnstableWithout.desc).map (fun d => d.parameters.length) = some 3 := by decide +kernel
theorem hd_yX8_slideOn : yX8_slideOn.cls ≠ "java/lang/invoke/MethodHandle" ∧ yX8_slideOn.cls ≠ "java/lang/invoke/VarHandle" ∧ (parseMethodDescriptor yX8_slideOn.desc).map (fun d => d.parameters.length) = some 2 := by decide +kernel
theorem hd_yX9_nextSeed : yX9_nextSeed.cls ≠ "java/lang/invoke/MethodHandle" ∧ yX9_nextSeed.cls ≠ "java/lang/invoke/VarHandle" ∧ (parseMethodDescriptor yX9_nextSeed.desc).map (fun d => d.parameters.length) = some 1 := by decide +kernel
theorem hd_yX9_drawOf : yX9_drawOf.cls ≠ "java/lang/invoke/MethodHandle" ∧ yX9_drawOf.cls ≠ "java/lang/invoke/VarHandle" ∧ (parseMethodDescriptor yX9_drawOf.desc).map (fun d => d.parameters.length) = some 2 := by decide +kernel
theorem hd_yX8_digOn : yX8_digOn.cls ≠ "java/lang/invoke/MethodHandle" ∧ yX8_digOn.cls ≠ "java/lang/invoke/VarHandle" ∧ (parseMethodDescriptor yX8_digOn.desc).map (fun d => d.parameters.length) = some 1 := by decide +kernel
theorem hd_yX9_slideAll : yX9_slideAll.cls ≠ "java/lang/invoke/MethodHandle" ∧ yX9_slideAll.cls ≠ "java/lang/invoke/VarHandle" ∧ (parseMethodDescriptor yX9_slideAll.desc).map (fun d => d.parameters.length) = some 0 := by decide +kernel
theorem hd_yX9_yearGoesBy : yX9_yearGoesBy.cls ≠ "java/lang/invoke/MethodHandle" ∧ yX9_yearGoesBy.cls ≠ "java/lang/invoke/VarHandle" ∧ (parseMethodDescriptor yX9_yearGoesBy.desc).map (fun d => d.parameters.length) = some 1 := by decide +kernel
theorem mv_yX9_otherRatio : zWv yX9_otherRatio cX9_otherRatio 4 (some .int) := ⟨q_1306, s_28, q_1, q_1307⟩
theorem mv_yX0_see : zWv yX0_see cX0_see 5 none := ⟨q_1398, q_1399, q_9, q_1400⟩
theorem mv_yX2_slopes : zWv yX2_slopes cX2_slopes 3 (some .int) := ⟨q_1386, q_1387, q_7, q_1388⟩
theorem mv_yX2_lastHour : zWv yX2_lastHour cX2_lastHour 3 (some .int) := ⟨q_1364, q_1365, q_7, q_1366⟩
theorem mv_yX9_isNotedSo : zWv yX9_isNotedSo cX9_isNotedSo 9 (some .boolean) := ⟨q_1370, s_31, q_1, q_1371⟩
theorem mv_yX0_add : zWv yX0_add cX0_add 2 none := ⟨q_1390, q_1391, q_9, q_1392⟩
theorem mv_yX9_lookFrom : zWv yX9_lookFrom cX9_lookFrom 3 none := ⟨q_1395, s_34, q_1, q_1396⟩
theorem mv_yX0_clear : zWv yX0_clear cX0_clear 2 none := ⟨q_1377, q_1378, q_9, q_1379⟩
theorem mv_yX9_guessMuch : zWv yX9_guessMuch cX9_guessMuch 7 none := ⟨q_1383, s_33, q_1, q_1384⟩
theorem mv_yX9_guessFalls : zWv yX9_guessFalls cX9_guessFalls 4 none := ⟨q_1374, s_32, q_1, q_1375⟩
theorem mv_yX9_weightOf : zWv yX9_weightOf cX9_weightOf 7 (some .int) := ⟨q_1418, s_35, q_1, q_1419⟩
theorem mv_yX9_isUnstableWithout : zWv yX9_isUnstableWithout cX9_isUnstableWithout 5 (some .boolean) := ⟨q_1423, s_36, q_1, q_1424⟩
theorem mv_yX8_slideOn : zWv yX8_slideOn cX8_slideOn 6 (some .int) := ⟨q_587, q_588, q_5, q_589⟩
theorem ms_yX9_nextSeed : zWs yX9_nextSeed cX9_nextSeed 1 (some .int) := ⟨q_1438, q_1, q_1439⟩
theorem ms_yX9_drawOf : zWs yX9_drawOf cX9_drawOf 2 (some .int) := ⟨q_1442, q_1, q_1443⟩
theorem mv_yX8_digOn : zWv yX8_digOn cX8_digOn 3 (some .int) := ⟨q_552, q_553, q_5, q_554⟩
theorem mv_yX9_slideAll : zWv yX9_slideAll cX9_slideAll 2 none := ⟨q_1447, s_38, q_1, q_1448⟩
theorem mv_yX9_yearGoesBy : zWv yX9_yearGoesBy cX9_yearGoesBy 6 (some .int) := ⟨q_1435, s_37, q_1, q_1436⟩
end
section
-- 48.dec.lean.txt
-- decode rows of guess
theorem dX9_matters_0 : decode cX9_matters 0 = .ok (.aload_n 0, 1) := by decide +kernel
theorem dX9_matters_1 : decode cX9_matters 1 = .ok (.iload_n 1, 1) := by decide +kernel
theorem dX9_matters_2 : decode cX9_matters 2 = .ok (.invokevirtual 300, 3) := by decide +kernel
theorem dX9_matters_5 : decode cX9_matters 5 = .ok (.iload_n 3, 1) := by decide +kernel
theorem dX9_matters_6 : decode cX9_matters 6 = .ok (.iconst 1, 1) := by decide +kernel
theorem dX9_matters_7 : decode cX9_matters 7 = .ok (.invokestatic 303, 3) := by decide +kernel
theorem dX9_matters_10 : decode cX9_matters 10 = .ok (.iload_n 2, 1) := by decide +kernel
theorem dX9_matters_11 : decode cX9_matters 11 = .ok (.iconst 1, 1) := by decide +kernel
theorem dX9_matters_12 : decode cX9_matters 12 = .ok (.bipush 48, 2) := by decide +kernel
theorem dX9_matters_14 : decode cX9_matters 14 = .ok (.invokestatic 307, 3) := by decide +kernel
theorem dX9_matters_17 : decode cX9_matters 17 = .ok (.aload_n 0, 1) := by decide +kernel
theorem dX9_matters_18 : decode cX9_matters 18 = .ok (.getfield 48, 3) := by decide +kernel
theorem dX9_matters_21 : decode cX9_matters 21 = .ok (.aload_n 0, 1) := by decide +kernel
theorem dX9_matters_22 : decode cX9_matters 22 = .ok (.getfield 30, 3) := by decide +kernel
theorem dX9_matters_25 : decode cX9_matters 25 = .ok (.invokevirtual 104, 3) := by decide +kernel
theorem dX9_matters_28 : decode cX9_matters 28 = .ok (.aload_n 0, 1) := by decide +kernel
theorem dX9_matters_29 : decode cX9_matters 29 = .ok (.iload_n 1, 1) := by decide +kernel
theorem dX9_matters_30 : decode cX9_matters 30 = .ok (.iload_n 2, 1) := by decide +kernel
theorem dX9_matters_31 : decode cX9_matters 31 = .ok (.invokevirtual 330, 3) := by decide +kernel
theorem dX9_matters_34 : decode cX9_matters 34 = .ok (.istore 4, 2) := by decide +kernel
theorem dX9_matters_36 : decode cX9_matters 36 = .ok (.iconst (-1), 1) := by decide +kernel
theorem dX9_matters_37 : decode cX9_matters 37 = .ok (.istore 5, 2) := by decide +kernel
theorem dX9_matters_39 : decode cX9_matters 39 = .ok (.iconst 0, 1) := by decide +kernel
theorem dX9_matters_40 : decode cX9_matters 40 = .ok (.istore 6, 2) := by decide +kernel
theorem dX9_matters_42 : decode cX9_matters 42 = .ok (.iconst 0, 1) := by decide +kernel
theorem dX9_matters_43 : decode cX9_matters 43 = .ok (.istore 7, 2) := by decide +kernel
theorem dX9_matters_45 : decode cX9_matters 45 = .ok (.iload 7, 2) := by decide +kernel
theorem dX9_matters_47 : decode cX9_matters 47 = .ok (.aload_n 0, 1) := by decide +kernel
theorem dX9_matters_48 : decode cX9_matters 48 = .ok (.getfield 30, 3) := by decide +kernel
theorem dX9_matters_51 : decode cX9_matters 51 = .ok (.getfield 118, 3) := by decide +kernel
theorem dX9_matters_54 : decode cX9_matters 54 = .ok (.if_icmp .ge 82, 3) := by decide +kernel
theorem dX9_matters_136 : decode cX9_matters 136 = .ok (.iload_n 3, 1) := by decide +kernel
theorem dX9_matters_137 : decode cX9_matters 137 = .ok (.ifCond .ne 8, 3) := by decide +kernel
theorem dX9_matters_145 : decode cX9_matters 145 = .ok (.iload 6, 2) := by decide +kernel
theorem dX9_matters_147 : decode cX9_matters 147 = .ok (.ireturn, 1) := by decide +kernel
theorem dX9_matters_140 : decode cX9_matters 140 = .ok (.iload 5, 2) := by decide +kernel
theorem dX9_matters_142 : decode cX9_matters 142 = .ok (.goto 5, 3) := by decide +kernel
theorem dX9_matters_57 : decode cX9_matters 57 = .ok (.aload_n 0, 1) := by decide +kernel
theorem dX9_matters_58 : decode cX9_matters 58 = .ok (.getfield 30, 3) := by decide +kernel
theorem dX9_matters_61 : decode cX9_matters 61 = .ok (.getfield 175, 3) := by decide +kernel
theorem dX9_matters_64 : decode cX9_matters 64 = .ok (.iload 7, 2) := by decide +kernel
theorem dX9_matters_66 : decode cX9_matters 66 = .ok (.iaload, 1) := by decide +kernel
theorem dX9_matters_67 : decode cX9_matters 67 = .ok (.ifCond .eq 63, 3) := by decide +kernel
theorem dX9_matters_130 : decode cX9_matters 130 = .ok (.iinc 7 1, 3) := by decide +kernel
theorem dX9_matters_133 : decode cX9_matters 133 = .ok (.goto (-88), 3) := by decide +kernel
theorem dX9_matters_70 : decode cX9_matters 70 = .ok (.aload_n 0, 1) := by decide +kernel
theorem dX9_matters_71 : decode cX9_matters 71 = .ok (.getfield 48, 3) := by decide +kernel
theorem dX9_matters_74 : decode cX9_matters 74 = .ok (.getfield 175, 3) := by decide +kernel
theorem dX9_matters_77 : decode cX9_matters 77 = .ok (.iload 7, 2) := by decide +kernel
theorem dX9_matters_79 : decode cX9_matters 79 = .ok (.iconst 0, 1) := by decide +kernel
theorem dX9_matters_80 : decode cX9_matters 80 = .ok (.iastore, 1) := by decide +kernel
theorem dX9_matters_81 : decode cX9_matters 81 = .ok (.aload_n 0, 1) := by decide +kernel
theorem dX9_matters_82 : decode cX9_matters 82 = .ok (.iload_n 1, 1) := by decide +kernel
theorem dX9_matters_83 : decode cX9_matters 83 = .ok (.iload_n 2, 1) := by decide +kernel
theorem dX9_matters_84 : decode cX9_matters 84 = .ok (.invokevirtual 330, 3) := by decide +kernel
theorem dX9_matters_87 : decode cX9_matters 87 = .ok (.iload 4, 2) := by decide +kernel
theorem dX9_matters_89 : decode cX9_matters 89 = .ok (.isub, 1) := by decide +kernel
theorem dX9_matters_90 : decode cX9_matters 90 = .ok (.invokestatic 333, 3) := by decide +kernel
theorem dX9_matters_93 : decode cX9_matters 93 = .ok (.istore 8, 2) := by decide +kernel
theorem dX9_matters_95 : decode cX9_matters 95 = .ok (.aload_n 0, 1) := by decide +kernel
theorem dX9_matters_96 : decode cX9_matters 96 = .ok (.getfield 48, 3) := by decide +kernel
theorem dX9_matters_99 : decode cX9_matters 99 = .ok (.getfield 175, 3) := by decide +kernel
theorem dX9_matters_102 : decode cX9_matters 102 = .ok (.iload 7, 2) := by decide +kernel
theorem dX9_matters_104 : decode cX9_matters 104 = .ok (.aload_n 0, 1) := by decide +kernel
theorem dX9_matters_105 : decode cX9_matters 105 = .ok (.getfield 30, 3) := by decide +kernel
theorem dX9_matters_108 : decode cX9_matters 108 = .ok (.getfield 175, 3) := by decide +kernel
theorem dX9_matters_111 : decode cX9_matters 111 = .ok (.iload 7, 2) := by decide +kernel
theorem dX9_matters_113 : decode cX9_matters 113 = .ok (.iaload, 1) := by decide +kernel
theorem dX9_matters_114 : decode cX9_matters 114 = .ok (.iastore, 1) := by decide +kernel
theorem dX9_matters_115 : decode cX9_matters 115 = .ok (.iload 8, 2) := by decide +kernel
theorem dX9_matters_117 : decode cX9_matters 117 = .ok (.iload 6, 2) := by decide +kernel
theorem dX9_matters_119 : decode cX9_matters 119 = .ok (.if_icmp .le 11, 3) := by decide +kernel
theorem dX9_matters_122 : decode cX9_matters 122 = .ok (.iload 7, 2) := by decide +kernel
theorem dX9_matters_124 : decode cX9_matters 124 = .ok (.istore 5, 2) := by decide +kernel
theorem dX9_matters_126 : decode cX9_matters 126 = .ok (.iload 8, 2) := by decide +kernel
theorem dX9_matters_128 : decode cX9_matters 128 = .ok (.istore 6, 2) := by decide +kernel
theorem dX9_isNotedSo_0 : decode cX9_isNotedSo 0 = .ok (.aload_n 0, 1) := by decide +kernel
theorem dX9_isNotedSo_1 : decode cX9_isNotedSo 1 = .ok (.getfield 37, 3) := by decide +kernel
theorem dX9_isNotedSo_4 : decode cX9_isNotedSo 4 = .ok (.getfield 156, 3) := by decide +kernel
theorem dX9_isNotedSo_7 : decode cX9_isNotedSo 7 = .ok (.astore 6, 2) := by decide +kernel
theorem dX9_isNotedSo_9 : decode cX9_isNotedSo 9 = .ok (.iload 4, 2) := by decide +kernel
theorem dX9_isNotedSo_11 : decode cX9_isNotedSo 11 = .ok (.istore 7, 2) := by decide +kernel
theorem dX9_isNotedSo_13 : decode cX9_isNotedSo 13 = .ok (.iload 7, 2) := by decide +kernel
theorem dX9_isNotedSo_15 : decode cX9_isNotedSo 15 = .ok (.iload 5, 2) := by decide +kernel
theorem dX9_isNotedSo_17 : decode cX9_isNotedSo 17 = .ok (.if_icmp .gt 86, 3) := by decide +kernel
theorem dX9_isNotedSo_103 : decode cX9_isNotedSo 103 = .ok (.iconst 1, 1) := by decide +kernel
theorem dX9_isNotedSo_104 : decode cX9_isNotedSo 104 = .ok (.ireturn, 1) := by decide +kernel
theorem dX9_isNotedSo_20 : decode cX9_isNotedSo 20 = .ok (.iload 7, 2) := by decide +kernel
theorem dX9_isNotedSo_22 : decode cX9_isNotedSo 22 = .ok (.iload 4, 2) := by decide +kernel
theorem dX9_isNotedSo_24 : decode cX9_isNotedSo 24 = .ok (.if_icmp .le 10, 3) := by decide +kernel
theorem dX9_isNotedSo_34 : decode cX9_isNotedSo 34 = .ok (.iconst 0, 1) := by decide +kernel
theorem dX9_isNotedSo_35 : decode cX9_isNotedSo 35 = .ok (.istore 8, 2) := by decide +kernel
theorem dX9_isNotedSo_37 : decode cX9_isNotedSo 37 = .ok (.iload 8, 2) := by decide +kernel
theorem dX9_isNotedSo_39 : decode cX9_isNotedSo 39 = .ok (.aload 6, 2) := by decide +kernel
theorem dX9_isNotedSo_41 : decode cX9_isNotedSo 41 = .ok (.getfield 160, 3) := by decide +kernel
theorem dX9_isNotedSo_44 : decode cX9_isNotedSo 44 = .ok (.if_icmp .ge 53, 3) := by decide +kernel
theorem dX9_isNotedSo_97 : decode cX9_isNotedSo 97 = .ok (.iinc 7 1, 3) := by decide +kernel
theorem dX9_isNotedSo_100 : decode cX9_isNotedSo 100 = .ok (.goto (-87), 3) := by decide +kernel
theorem dX9_isNotedSo_47 : decode cX9_isNotedSo 47 = .ok (.aload 6, 2) := by decide +kernel
theorem dX9_isNotedSo_49 : decode cX9_isNotedSo 49 = .ok (.getfield 427, 3) := by decide +kernel
theorem dX9_isNotedSo_52 : decode cX9_isNotedSo 52 = .ok (.iload 8, 2) := by decide +kernel
theorem dX9_isNotedSo_54 : decode cX9_isNotedSo 54 = .ok (.iaload, 1) := by decide +kernel
theorem dX9_isNotedSo_55 : decode cX9_isNotedSo 55 = .ok (.iload 7, 2) := by decide +kernel
theorem dX9_isNotedSo_57 : decode cX9_isNotedSo 57 = .ok (.if_icmp .ne 34, 3) := by decide +kernel
theorem dX9_isNotedSo_91 : decode cX9_isNotedSo 91 = .ok (.iinc 8 1, 3) := by decide +kernel
theorem dX9_isNotedSo_94 : decode cX9_isNotedSo 94 = .ok (.goto (-57), 3) := by decide +kernel
theorem dX9_isNotedSo_60 : decode cX9_isNotedSo 60 = .ok (.aload 6, 2) := by decide +kernel
theorem dX9_isNotedSo_62 : decode cX9_isNotedSo 62 = .ok (.getfield 429, 3) := by decide +kernel
theorem dX9_isNotedSo_65 : decode cX9_isNotedSo 65 = .ok (.iload 8, 2) := by decide +kernel
theorem dX9_isNotedSo_67 : decode cX9_isNotedSo 67 = .ok (.iaload, 1) := by decide +kernel
theorem dX9_isNotedSo_68 : decode cX9_isNotedSo 68 = .ok (.aload_n 1, 1) := by decide +kernel
theorem dX9_isNotedSo_69 : decode cX9_isNotedSo 69 = .ok (.getfield 280, 3) := by decide +kernel
theorem dX9_isNotedSo_72 : decode cX9_isNotedSo 72 = .ok (.aload 6, 2) := by decide +kernel
theorem dX9_isNotedSo_74 : decode cX9_isNotedSo 74 = .ok (.getfield 432, 3) := by decide +kernel
theorem dX9_isNotedSo_77 : decode cX9_isNotedSo 77 = .ok (.iload 8, 2) := by decide +kernel
theorem dX9_isNotedSo_79 : decode cX9_isNotedSo 79 = .ok (.iaload, 1) := by decide +kernel
theorem dX9_isNotedSo_80 : decode cX9_isNotedSo 80 = .ok (.aaload, 1) := by decide +kernel
theorem dX9_isNotedSo_81 : decode cX9_isNotedSo 81 = .ok (.bipush 36, 2) := by decide +kernel
theorem dX9_isNotedSo_83 : decode cX9_isNotedSo 83 = .ok (.invokevirtual 196, 3) := by decide +kernel
theorem dX9_isNotedSo_86 : decode cX9_isNotedSo 86 = .ok (.if_icmp .eq 5, 3) := by decide +kernel
theorem dX9_isNotedSo_89 : decode cX9_isNotedSo 89 = .ok (.iconst 0, 1) := by decide +kernel
theorem dX9_isNotedSo_90 : decode cX9_isNotedSo 90 = .ok (.ireturn, 1) := by decide +kernel
theorem dX9_isNotedSo_27 : decode cX9_isNotedSo 27 = .ok (.aload_n 1, 1) := by decide +kernel
theorem dX9_isNotedSo_28 : decode cX9_isNotedSo 28 = .ok (.aload_n 2, 1) := by decide +kernel
theorem dX9_isNotedSo_29 : decode cX9_isNotedSo 29 = .ok (.iload_n 3, 1) := by decide +kernel
theorem dX9_isNotedSo_30 : decode cX9_isNotedSo 30 = .ok (.iconst 1, 1) := by decide +kernel
theorem dX9_isNotedSo_31 : decode cX9_isNotedSo 31 = .ok (.invokevirtual 264, 3) := by decide +kernel
theorem dX9_lookFrom_0 : decode cX9_lookFrom 0 = .ok (.aload_n 0, 1) := by decide +kernel
theorem dX9_lookFrom_1 : decode cX9_lookFrom 1 = .ok (.getfield 54, 3) := by decide +kernel
theorem dX9_lookFrom_4 : decode cX9_lookFrom 4 = .ok (.aload_n 0, 1) := by decide +kernel
theorem dX9_lookFrom_5 : decode cX9_lookFrom 5 = .ok (.getfield 58, 3) := by decide +kernel
theorem dX9_lookFrom_8 : decode cX9_lookFrom 8 = .ok (.invokevirtual 311, 3) := by decide +kernel
theorem dX9_lookFrom_11 : decode cX9_lookFrom 11 = .ok (.iload_n 1, 1) := by decide +kernel
theorem dX9_lookFrom_12 : decode cX9_lookFrom 12 = .ok (.istore_n 2, 1) := by decide +kernel
theorem dX9_lookFrom_13 : decode cX9_lookFrom 13 = .ok (.iload_n 2, 1) := by decide +kernel
theorem dX9_lookFrom_14 : decode cX9_lookFrom 14 = .ok (.bipush 24, 2) := by decide +kernel
theorem dX9_lookFrom_16 : decode cX9_lookFrom 16 = .ok (.if_icmp .ge 28, 3) := by decide +kernel
theorem dX9_lookFrom_44 : decode cX9_lookFrom 44 = .ok (.iconst 0, 1) := by decide +kernel
theorem dX9_lookFrom_45 : decode cX9_lookFrom 45 = .ok (.istore_n 2, 1) := by decide +kernel
theorem dX9_lookFrom_46 : decode cX9_lookFrom 46 = .ok (.iload_n 2, 1) := by decide +kernel
theorem dX9_lookFrom_47 : decode cX9_lookFrom 47 = .ok (.aload_n 0, 1) := by decide +kernel
theorem dX9_lookFrom_48 : decode cX9_lookFrom 48 = .ok (.getfield 30, 3) := by decide +kernel
theorem dX9_lookFrom_51 : decode cX9_lookFrom 51 = .ok (.getfield 115, 3) := by decide +kernel
theorem dX9_lookFrom_54 : decode cX9_lookFrom 54 = .ok (.if_icmp .ge 31, 3) := by decide +kernel
theorem dX9_lookFrom_85 : decode cX9_lookFrom 85 = .ok (.return_, 1) := by decide +kernel
theorem dX9_lookFrom_57 : decode cX9_lookFrom 57 = .ok (.aload_n 0, 1) := by decide +kernel
theorem dX9_lookFrom_58 : decode cX9_lookFrom 58 = .ok (.getfield 64, 3) := by decide +kernel
theorem dX9_lookFrom_61 : decode cX9_lookFrom 61 = .ok (.iload_n 2, 1) := by decide +kernel
theorem dX9_lookFrom_62 : decode cX9_lookFrom 62 = .ok (.aload_n 0, 1) := by decide +kernel
theorem dX9_lookFrom_63 : decode cX9_lookFrom 63 = .ok (.getfield 54, 3) := by decide +kernel
theorem dX9_lookFrom_66 : decode cX9_lookFrom 66 = .ok (.getfield 280, 3) := by decide +kernel
theorem dX9_lookFrom_69 : decode cX9_lookFrom 69 = .ok (.iload_n 2, 1) := by decide +kernel
theorem dX9_lookFrom_70 : decode cX9_lookFrom 70 = .ok (.aaload, 1) := by decide +kernel
theorem dX9_lookFrom_71 : decode cX9_lookFrom 71 = .ok (.bipush 36, 2) := by decide +kernel
theorem dX9_lookFrom_73 : decode cX9_lookFrom 73 = .ok (.invokevirtual 196, 3) := by decide +kernel
theorem dX9_lookFrom_76 : decode cX9_lookFrom 76 = .ok (.invokevirtual 451, 3) := by decide +kernel
theorem dX9_lookFrom_79 : decode cX9_lookFrom 79 = .ok (.iinc 2 1, 3) := by decide +kernel
theorem dX9_lookFrom_82 : decode cX9_lookFrom 82 = .ok (.goto (-36), 3) := by decide +kernel
theorem dX9_lookFrom_19 : decode cX9_lookFrom 19 = .ok (.aload_n 0, 1) := by decide +kernel
theorem dX9_lookFrom_20 : decode cX9_lookFrom 20 = .ok (.getfield 54, 3) := by decide +kernel
theorem dX9_lookFrom_23 : decode cX9_lookFrom 23 = .ok (.aload_n 0, 1) := by decide +kernel
theorem dX9_lookFrom_24 : decode cX9_lookFrom 24 = .ok (.getfield 48, 3) := by decide +kernel
theorem dX9_lookFrom_27 : decode cX9_lookFrom 27 = .ok (.aload_n 0, 1) := by decide +kernel
theorem dX9_lookFrom_28 : decode cX9_lookFrom 28 = .ok (.getfield 30, 3) := by decide +kernel
theorem dX9_lookFrom_31 : decode cX9_lookFrom 31 = .ok (.invokevirtual 261, 3) := by decide +kernel
theorem dX9_lookFrom_34 : decode cX9_lookFrom 34 = .ok (.iconst 1, 1) := by decide +kernel
theorem dX9_lookFrom_35 : decode cX9_lookFrom 35 = .ok (.invokevirtual 264, 3) := by decide +kernel
theorem dX9_lookFrom_38 : decode cX9_lookFrom 38 = .ok (.iinc 2 1, 3) := by decide +kernel
theorem dX9_lookFrom_41 : decode cX9_lookFrom 41 = .ok (.goto (-28), 3) := by decide +kernel
theorem dX9_guessMuch_0 : decode cX9_guessMuch 0 = .ok (.aload_n 0, 1) := by decide +kernel
theorem dX9_guessMuch_1 : decode cX9_guessMuch 1 = .ok (.getfield 37, 3) := by decide +kernel
theorem dX9_guessMuch_4 : decode cX9_guessMuch 4 = .ok (.getfield 156, 3) := by decide +kernel
theorem dX9_guessMuch_7 : decode cX9_guessMuch 7 = .ok (.invokevirtual 444, 3) := by decide +kernel
theorem dX9_guessMuch_10 : decode cX9_guessMuch 10 = .ok (.istore 4, 2) := by decide +kernel
theorem dX9_guessMuch_12 : decode cX9_guessMuch 12 = .ok (.aload_n 0, 1) := by decide +kernel
theorem dX9_guessMuch_13 : decode cX9_guessMuch 13 = .ok (.getfield 37, 3) := by decide +kernel
theorem dX9_guessMuch_16 : decode cX9_guessMuch 16 = .ok (.getfield 156, 3) := by decide +kernel
theorem dX9_guessMuch_19 : decode cX9_guessMuch 19 = .ok (.invokevirtual 376, 3) := by decide +kernel
theorem dX9_guessMuch_22 : decode cX9_guessMuch 22 = .ok (.istore 5, 2) := by decide +kernel
theorem dX9_guessMuch_24 : decode cX9_guessMuch 24 = .ok (.iconst 1, 1) := by decide +kernel
theorem dX9_guessMuch_25 : decode cX9_guessMuch 25 = .ok (.istore 6, 2) := by decide +kernel
theorem dX9_guessMuch_27 : decode cX9_guessMuch 27 = .ok (.iload 6, 2) := by decide +kernel
theorem dX9_guessMuch_29 : decode cX9_guessMuch 29 = .ok (.bipush 50, 2) := by decide +kernel
theorem dX9_guessMuch_31 : decode cX9_guessMuch 31 = .ok (.if_icmp .gt 88, 3) := by decide +kernel
theorem dX9_guessMuch_119 : decode cX9_guessMuch 119 = .ok (.aload_n 0, 1) := by decide +kernel
theorem dX9_guessMuch_120 : decode cX9_guessMuch 120 = .ok (.getfield 48, 3) := by decide +kernel
theorem dX9_guessMuch_123 : decode cX9_guessMuch 123 = .ok (.getfield 178, 3) := by decide +kernel
theorem dX9_guessMuch_126 : decode cX9_guessMuch 126 = .ok (.iload_n 1, 1) := by decide +kernel
theorem dX9_guessMuch_127 : decode cX9_guessMuch 127 = .ok (.aload_n 0, 1) := by decide +kernel
theorem dX9_guessMuch_128 : decode cX9_guessMuch 128 = .ok (.getfield 30, 3) := by decide +kernel
theorem dX9_guessMuch_131 : decode cX9_guessMuch 131 = .ok (.getfield 178, 3) := by decide +kernel
theorem dX9_guessMuch_134 : decode cX9_guessMuch 134 = .ok (.iload_n 1, 1) := by decide +kernel
theorem dX9_guessMuch_135 : decode cX9_guessMuch 135 = .ok (.iaload, 1) := by decide +kernel
theorem dX9_guessMuch_136 : decode cX9_guessMuch 136 = .ok (.iastore, 1) := by decide +kernel
theorem dX9_guessMuch_137 : decode cX9_guessMuch 137 = .ok (.return_, 1) := by decide +kernel
theorem dX9_guessMuch_34 : decode cX9_guessMuch 34 = .ok (.aload_n 0, 1) := by decide +kernel
theorem dX9_guessMuch_35 : decode cX9_guessMuch 35 = .ok (.getfield 48, 3) := by decide +kernel
theorem dX9_guessMuch_38 : decode cX9_guessMuch 38 = .ok (.getfield 178, 3) := by decide +kernel
theorem dX9_guessMuch_41 : decode cX9_guessMuch 41 = .ok (.iload_n 1, 1) := by decide +kernel
theorem dX9_guessMuch_42 : decode cX9_guessMuch 42 = .ok (.iload 6, 2) := by decide +kernel
theorem dX9_guessMuch_44 : decode cX9_guessMuch 44 = .ok (.iastore, 1) := by decide +kernel
theorem dX9_guessMuch_45 : decode cX9_guessMuch 45 = .ok (.aload_n 0, 1) := by decide +kernel
theorem dX9_guessMuch_46 : decode cX9_guessMuch 46 = .ok (.getfield 54, 3) := by decide +kernel
theorem dX9_guessMuch_49 : decode cX9_guessMuch 49 = .ok (.aload_n 0, 1) := by decide +kernel
theorem dX9_guessMuch_50 : decode cX9_guessMuch 50 = .ok (.getfield 58, 3) := by decide +kernel
theorem dX9_guessMuch_53 : decode cX9_guessMuch 53 = .ok (.invokevirtual 311, 3) := by decide +kernel
theorem dX9_guessMuch_56 : decode cX9_guessMuch 56 = .ok (.iload 6, 2) := by decide +kernel
theorem dX9_guessMuch_58 : decode cX9_guessMuch 58 = .ok (.aload_n 0, 1) := by decide +kernel
theorem dX9_guessMuch_59 : decode cX9_guessMuch 59 = .ok (.getfield 30, 3) := by decide +kernel
theorem dX9_guessMuch_62 : decode cX9_guessMuch 62 = .ok (.getfield 178, 3) := by decide +kernel
theorem dX9_guessMuch_65 : decode cX9_guessMuch 65 = .ok (.iload_n 1, 1) := by decide +kernel
theorem dX9_guessMuch_66 : decode cX9_guessMuch 66 = .ok (.iaload, 1) := by decide +kernel
theorem dX9_guessMuch_67 : decode cX9_guessMuch 67 = .ok (.if_icmp .eq 46, 3) := by decide +kernel
theorem dX9_guessMuch_113 : decode cX9_guessMuch 113 = .ok (.iinc 6 1, 3) := by decide +kernel
theorem dX9_guessMuch_116 : decode cX9_guessMuch 116 = .ok (.goto (-89), 3) := by decide +kernel
theorem dX9_guessMuch_70 : decode cX9_guessMuch 70 = .ok (.aload_n 0, 1) := by decide +kernel
theorem dX9_guessMuch_71 : decode cX9_guessMuch 71 = .ok (.aload_n 0, 1) := by decide +kernel
theorem dX9_guessMuch_72 : decode cX9_guessMuch 72 = .ok (.getfield 54, 3) := by decide +kernel
theorem dX9_guessMuch_75 : decode cX9_guessMuch 75 = .ok (.aload_n 0, 1) := by decide +kernel
theorem dX9_guessMuch_76 : decode cX9_guessMuch 76 = .ok (.getfield 48, 3) := by decide +kernel
theorem dX9_guessMuch_79 : decode cX9_guessMuch 79 = .ok (.iload 4, 2) := by decide +kernel
theorem dX9_guessMuch_81 : decode cX9_guessMuch 81 = .ok (.iload_n 2, 1) := by decide +kernel
theorem dX9_guessMuch_82 : decode cX9_guessMuch 82 = .ok (.iload 5, 2) := by decide +kernel
theorem dX9_guessMuch_84 : decode cX9_guessMuch 84 = .ok (.invokevirtual 379, 3) := by decide +kernel
theorem dX9_guessMuch_87 : decode cX9_guessMuch 87 = .ok (.ifCond .eq 26, 3) := by decide +kernel
theorem dX9_guessMuch_90 : decode cX9_guessMuch 90 = .ok (.aload_n 0, 1) := by decide +kernel
theorem dX9_guessMuch_91 : decode cX9_guessMuch 91 = .ok (.getfield 64, 3) := by decide +kernel
theorem dX9_guessMuch_94 : decode cX9_guessMuch 94 = .ok (.bipush 100, 2) := by decide +kernel
theorem dX9_guessMuch_96 : decode cX9_guessMuch 96 = .ok (.iload_n 1, 1) := by decide +kernel
theorem dX9_guessMuch_97 : decode cX9_guessMuch 97 = .ok (.imul, 1) := by decide +kernel
theorem dX9_guessMuch_98 : decode cX9_guessMuch 98 = .ok (.iload 6, 2) := by decide +kernel
theorem dX9_guessMuch_100 : decode cX9_guessMuch 100 = .ok (.iadd, 1) := by decide +kernel
theorem dX9_guessMuch_101 : decode cX9_guessMuch 101 = .ok (.invokevirtual 446, 3) := by decide +kernel
theorem dX9_guessMuch_104 : decode cX9_guessMuch 104 = .ok (.iload_n 3, 1) := by decide +kernel
theorem dX9_guessMuch_105 : decode cX9_guessMuch 105 = .ok (.ifCond .eq 8, 3) := by decide +kernel
theorem dX9_guessMuch_108 : decode cX9_guessMuch 108 = .ok (.aload_n 0, 1) := by decide +kernel
theorem dX9_guessMuch_109 : decode cX9_guessMuch 109 = .ok (.iload_n 2, 1) := by decide +kernel
theorem dX9_guessMuch_110 : decode cX9_guessMuch 110 = .ok (.invokevirtual 448, 3) := by decide +kernel
theorem dX9_guessFalls_0 : decode cX9_guessFalls 0 = .ok (.aload_n 0, 1) := by decide +kernel
theorem dX9_guessFalls_1 : decode cX9_guessFalls 1 = .ok (.getfield 64, 3) := by decide +kernel
theorem dX9_guessFalls_4 : decode cX9_guessFalls 4 = .ok (.invokevirtual 434, 3) := by decide +kernel
theorem dX9_guessFalls_7 : decode cX9_guessFalls 7 = .ok (.aload_n 0, 1) := by decide +kernel
theorem dX9_guessFalls_8 : decode cX9_guessFalls 8 = .ok (.getfield 48, 3) := by decide +kernel
theorem dX9_guessFalls_11 : decode cX9_guessFalls 11 = .ok (.aload_n 0, 1) := by decide +kernel
theorem dX9_guessFalls_12 : decode cX9_guessFalls 12 = .ok (.getfield 30, 3) := by decide +kernel
theorem dX9_guessFalls_15 : decode cX9_guessFalls 15 = .ok (.invokevirtual 104, 3) := by decide +kernel
theorem dX9_guessFalls_18 : decode cX9_guessFalls 18 = .ok (.iconst 0, 1) := by decide +kernel
theorem dX9_guessFalls_19 : decode cX9_guessFalls 19 = .ok (.istore_n 2, 1) := by decide +kernel
theorem dX9_guessFalls_20 : decode cX9_guessFalls 20 = .ok (.iload_n 2, 1) := by decide +kernel
theorem dX9_guessFalls_21 : decode cX9_guessFalls 21 = .ok (.aload_n 0, 1) := by decide +kernel
theorem dX9_guessFalls_22 : decode cX9_guessFalls 22 = .ok (.getfield 30, 3) := by decide +kernel
theorem dX9_guessFalls_25 : decode cX9_guessFalls 25 = .ok (.getfield 118, 3) := by decide +kernel
theorem dX9_guessFalls_28 : decode cX9_guessFalls 28 = .ok (.if_icmp .ge 103, 3) := by decide +kernel
theorem dX9_guessFalls_131 : decode cX9_guessFalls 131 = .ok (.return_, 1) := by decide +kernel
theorem dX9_guessFalls_31 : decode cX9_guessFalls 31 = .ok (.aload_n 0, 1) := by decide +kernel
theorem dX9_guessFalls_32 : decode cX9_guessFalls 32 = .ok (.getfield 30, 3) := by decide +kernel
theorem dX9_guessFalls_35 : decode cX9_guessFalls 35 = .ok (.getfield 175, 3) := by decide +kernel
theorem dX9_guessFalls_38 : decode cX9_guessFalls 38 = .ok (.iload_n 2, 1) := by decide +kernel
theorem dX9_guessFalls_39 : decode cX9_guessFalls 39 = .ok (.iaload, 1) := by decide +kernel
theorem dX9_guessFalls_40 : decode cX9_guessFalls 40 = .ok (.iconst 1, 1) := by decide +kernel
theorem dX9_guessFalls_41 : decode cX9_guessFalls 41 = .ok (.if_icmp .eq 16, 3) := by decide +kernel
theorem dX9_guessFalls_57 : decode cX9_guessFalls 57 = .ok (.iload_n 2, 1) := by decide +kernel
theorem dX9_guessFalls_58 : decode cX9_guessFalls 58 = .ok (.aload_n 0, 1) := by decide +kernel
theorem dX9_guessFalls_59 : decode cX9_guessFalls 59 = .ok (.getfield 37, 3) := by decide +kernel
theorem dX9_guessFalls_62 : decode cX9_guessFalls 62 = .ok (.getfield 112, 3) := by decide +kernel
theorem dX9_guessFalls_65 : decode cX9_guessFalls 65 = .ok (.getfield 121, 3) := by decide +kernel
theorem dX9_guessFalls_68 : decode cX9_guessFalls 68 = .ok (.isub, 1) := by decide +kernel
theorem dX9_guessFalls_69 : decode cX9_guessFalls 69 = .ok (.aload_n 0, 1) := by decide +kernel
theorem dX9_guessFalls_70 : decode cX9_guessFalls 70 = .ok (.getfield 30, 3) := by decide +kernel
theorem dX9_guessFalls_73 : decode cX9_guessFalls 73 = .ok (.getfield 118, 3) := by decide +kernel
theorem dX9_guessFalls_76 : decode cX9_guessFalls 76 = .ok (.invokestatic 437, 3) := by decide +kernel
theorem dX9_guessFalls_79 : decode cX9_guessFalls 79 = .ok (.istore_n 3, 1) := by decide +kernel
theorem dX9_guessFalls_80 : decode cX9_guessFalls 80 = .ok (.aload_n 0, 1) := by decide +kernel
theorem dX9_guessFalls_81 : decode cX9_guessFalls 81 = .ok (.getfield 58, 3) := by decide +kernel
theorem dX9_guessFalls_84 : decode cX9_guessFalls 84 = .ok (.aload_n 0, 1) := by decide +kernel
theorem dX9_guessFalls_85 : decode cX9_guessFalls 85 = .ok (.getfield 37, 3) := by decide +kernel
theorem dX9_guessFalls_88 : decode cX9_guessFalls 88 = .ok (.getfield 112, 3) := by decide +kernel
theorem dX9_guessFalls_91 : decode cX9_guessFalls 91 = .ok (.invokevirtual 311, 3) := by decide +kernel
theorem dX9_guessFalls_94 : decode cX9_guessFalls 94 = .ok (.aload_n 0, 1) := by decide +kernel
theorem dX9_guessFalls_95 : decode cX9_guessFalls 95 = .ok (.aload_n 0, 1) := by decide +kernel
theorem dX9_guessFalls_96 : decode cX9_guessFalls 96 = .ok (.getfield 58, 3) := by decide +kernel
theorem dX9_guessFalls_99 : decode cX9_guessFalls 99 = .ok (.aload_n 0, 1) := by decide +kernel
theorem dX9_guessFalls_100 : decode cX9_guessFalls 100 = .ok (.getfield 30, 3) := by decide +kernel
theorem dX9_guessFalls_103 : decode cX9_guessFalls 103 = .ok (.aload_n 0, 1) := by decide +kernel
theorem dX9_guessFalls_104 : decode cX9_guessFalls 104 = .ok (.getfield 30, 3) := by decide +kernel
theorem dX9_guessFalls_107 : decode cX9_guessFalls 107 = .ok (.invokevirtual 261, 3) := by decide +kernel
theorem dX9_guessFalls_110 : decode cX9_guessFalls 110 = .ok (.iconst 0, 1) := by decide +kernel
theorem dX9_guessFalls_111 : decode cX9_guessFalls 111 = .ok (.iload_n 3, 1) := by decide +kernel
theorem dX9_guessFalls_112 : decode cX9_guessFalls 112 = .ok (.invokevirtual 379, 3) := by decide +kernel
theorem dX9_guessFalls_115 : decode cX9_guessFalls 115 = .ok (.ifCond .eq 10, 3) := by decide +kernel
theorem dX9_guessFalls_125 : decode cX9_guessFalls 125 = .ok (.iinc 2 1, 3) := by decide +kernel
theorem dX9_guessFalls_128 : decode cX9_guessFalls 128 = .ok (.goto (-108), 3) := by decide +kernel
theorem dX9_guessFalls_118 : decode cX9_guessFalls 118 = .ok (.aload_n 0, 1) := by decide +kernel
theorem dX9_guessFalls_119 : decode cX9_guessFalls 119 = .ok (.iload_n 2, 1) := by decide +kernel
theorem dX9_guessFalls_120 : decode cX9_guessFalls 120 = .ok (.iload_n 3, 1) := by decide +kernel
theorem dX9_guessFalls_121 : decode cX9_guessFalls 121 = .ok (.iload_n 1, 1) := by decide +kernel
theorem dX9_guessFalls_122 : decode cX9_guessFalls 122 = .ok (.invokevirtual 440, 3) := by decide +kernel
theorem dX9_guessFalls_44 : decode cX9_guessFalls 44 = .ok (.aload_n 0, 1) := by decide +kernel
theorem dX9_guessFalls_45 : decode cX9_guessFalls 45 = .ok (.getfield 30, 3) := by decide +kernel
theorem dX9_guessFalls_48 : decode cX9_guessFalls 48 = .ok (.getfield 175, 3) := by decide +kernel
theorem dX9_guessFalls_51 : decode cX9_guessFalls 51 = .ok (.iload_n 2, 1) := by decide +kernel
theorem dX9_guessFalls_52 : decode cX9_guessFalls 52 = .ok (.iaload, 1) := by decide +kernel
theorem dX9_guessFalls_53 : decode cX9_guessFalls 53 = .ok (.iconst 2, 1) := by decide +kernel
theorem dX9_guessFalls_54 : decode cX9_guessFalls 54 = .ok (.if_icmp .ne 71, 3) := by decide +kernel
theorem dX9_falls_0 : decode cX9_falls 0 = .ok (.iload_n 1, 1) := by decide +kernel
theorem dX9_falls_1 : decode cX9_falls 1 = .ok (.iconst 2, 1) := by decide +kernel
theorem dX9_falls_2 : decode cX9_falls 2 = .ok (.invokestatic 303, 3) := by decide +kernel
theorem dX9_falls_5 : decode cX9_falls 5 = .ok (.iload_n 1, 1) := by decide +kernel
theorem dX9_falls_6 : decode cX9_falls 6 = .ok (.iconst 2, 1) := by decide +kernel
theorem dX9_falls_7 : decode cX9_falls 7 = .ok (.if_icmp .ne 58, 3) := by decide +kernel
theorem dX9_falls_65 : decode cX9_falls 65 = .ok (.aload_n 0, 1) := by decide +kernel
theorem dX9_falls_66 : decode cX9_falls 66 = .ok (.iconst 0, 1) := by decide +kernel
theorem dX9_falls_67 : decode cX9_falls 67 = .ok (.invokevirtual 383, 3) := by decide +kernel
theorem dX9_falls_70 : decode cX9_falls 70 = .ok (.iload_n 1, 1) := by decide +kernel
theorem dX9_falls_71 : decode cX9_falls 71 = .ok (.ifCond .ne 13, 3) := by decide +kernel
theorem dX9_falls_84 : decode cX9_falls 84 = .ok (.aload_n 0, 1) := by decide +kernel
theorem dX9_falls_85 : decode cX9_falls 85 = .ok (.getfield 64, 3) := by decide +kernel
theorem dX9_falls_88 : decode cX9_falls 88 = .ok (.getfield 390, 3) := by decide +kernel
theorem dX9_falls_91 : decode cX9_falls 91 = .ok (.ireturn, 1) := by decide +kernel
theorem dX9_falls_74 : decode cX9_falls 74 = .ok (.aload_n 0, 1) := by decide +kernel
theorem dX9_falls_75 : decode cX9_falls 75 = .ok (.getfield 64, 3) := by decide +kernel
theorem dX9_falls_78 : decode cX9_falls 78 = .ok (.getfield 387, 3) := by decide +kernel
theorem dX9_falls_81 : decode cX9_falls 81 = .ok (.goto 10, 3) := by decide +kernel
theorem dX9_falls_10 : decode cX9_falls 10 = .ok (.aload_n 0, 1) := by decide +kernel
theorem dX9_falls_11 : decode cX9_falls 11 = .ok (.getfield 54, 3) := by decide +kernel
theorem dX9_falls_14 : decode cX9_falls 14 = .ok (.aload_n 0, 1) := by decide +kernel
theorem dX9_falls_15 : decode cX9_falls 15 = .ok (.getfield 37, 3) := by decide +kernel
theorem dX9_falls_18 : decode cX9_falls 18 = .ok (.getfield 112, 3) := by decide +kernel
theorem dX9_falls_21 : decode cX9_falls 21 = .ok (.invokevirtual 311, 3) := by decide +kernel
theorem dX9_falls_24 : decode cX9_falls 24 = .ok (.aload_n 0, 1) := by decide +kernel
theorem dX9_falls_25 : decode cX9_falls 25 = .ok (.aload_n 0, 1) := by decide +kernel
theorem dX9_falls_26 : decode cX9_falls 26 = .ok (.getfield 54, 3) := by decide +kernel
theorem dX9_falls_29 : decode cX9_falls 29 = .ok (.aload_n 0, 1) := by decide +kernel
theorem dX9_falls_30 : decode cX9_falls 30 = .ok (.getfield 30, 3) := by decide +kernel
theorem dX9_falls_33 : decode cX9_falls 33 = .ok (.aload_n 0, 1) := by decide +kernel
theorem dX9_falls_34 : decode cX9_falls 34 = .ok (.getfield 30, 3) := by decide +kernel
theorem dX9_falls_37 : decode cX9_falls 37 = .ok (.invokevirtual 261, 3) := by decide +kernel
theorem dX9_falls_40 : decode cX9_falls 40 = .ok (.iconst 0, 1) := by decide +kernel
theorem dX9_falls_41 : decode cX9_falls 41 = .ok (.aload_n 0, 1) := by decide +kernel
theorem dX9_falls_42 : decode cX9_falls 42 = .ok (.getfield 37, 3) := by decide +kernel
theorem dX9_falls_45 : decode cX9_falls 45 = .ok (.getfield 156, 3) := by decide +kernel
theorem dX9_falls_48 : decode cX9_falls 48 = .ok (.invokevirtual 376, 3) := by decide +kernel
theorem dX9_falls_51 : decode cX9_falls 51 = .ok (.invokevirtual 379, 3) := by decide +kernel
theorem dX9_falls_54 : decode cX9_falls 54 = .ok (.istore_n 2, 1) := by decide +kernel
theorem dX9_falls_55 : decode cX9_falls 55 = .ok (.iload_n 2, 1) := by decide +kernel
theorem dX9_falls_56 : decode cX9_falls 56 = .ok (.ifCond .eq 7, 3) := by decide +kernel
theorem dX9_falls_63 : decode cX9_falls 63 = .ok (.iconst 0, 1) := by decide +kernel
theorem dX9_falls_64 : decode cX9_falls 64 = .ok (.ireturn, 1) := by decide +kernel
theorem dX9_falls_59 : decode cX9_falls 59 = .ok (.iconst 1, 1) := by decide +kernel
theorem dX9_falls_60 : decode cX9_falls 60 = .ok (.goto 4, 3) := by decide +kernel
theorem dX9_look_0 : decode cX9_look 0 = .ok (.iload_n 1, 1) := by decide +kernel
theorem dX9_look_1 : decode cX9_look 1 = .ok (.iconst 1, 1) := by decide +kernel
theorem dX9_look_2 : decode cX9_look 2 = .ok (.invokestatic 303, 3) := by decide +kernel
theorem dX9_look_5 : decode cX9_look 5 = .ok (.aload_n 0, 1) := by decide +kernel
theorem dX9_look_6 : decode cX9_look 6 = .ok (.iconst 1, 1) := by decide +kernel
theorem dX9_look_7 : decode cX9_look 7 = .ok (.invokevirtual 383, 3) := by decide +kernel
theorem dX9_look_10 : decode cX9_look 10 = .ok (.iconst (-1), 1) := by decide +kernel
theorem dX9_look_11 : decode cX9_look 11 = .ok (.istore_n 2, 1) := by decide +kernel
theorem dX9_look_12 : decode cX9_look 12 = .ok (.iconst 0, 1) := by decide +kernel
theorem dX9_look_13 : decode cX9_look 13 = .ok (.istore_n 3, 1) := by decide +kernel
theorem dX9_look_14 : decode cX9_look 14 = .ok (.iconst 0, 1) := by decide +kernel
theorem dX9_look_15 : decode cX9_look 15 = .ok (.istore 4, 2) := by decide +kernel
theorem dX9_look_17 : decode cX9_look 17 = .ok (.iload 4, 2) := by decide +kernel
theorem dX9_look_19 : decode cX9_look 19 = .ok (.aload_n 0, 1) := by decide +kernel
theorem dX9_look_20 : decode cX9_look 20 = .ok (.getfield 30, 3) := by decide +kernel
theorem dX9_look_23 : decode cX9_look 23 = .ok (.getfield 115, 3) := by decide +kernel
theorem dX9_look_26 : decode cX9_look 26 = .ok (.if_icmp .ge 37, 3) := by decide +kernel
theorem dX9_look_63 : decode cX9_look 63 = .ok (.iload_n 1, 1) := by decide +kernel
theorem dX9_look_64 : decode cX9_look 64 = .ok (.ifCond .ne 7, 3) := by decide +kernel
theorem dX9_look_71 : decode cX9_look 71 = .ok (.iload_n 3, 1) := by decide +kernel
theorem dX9_look_72 : decode cX9_look 72 = .ok (.ireturn, 1) := by decide +kernel
theorem dX9_look_67 : decode cX9_look 67 = .ok (.iload_n 2, 1) := by decide +kernel
theorem dX9_look_68 : decode cX9_look 68 = .ok (.goto 4, 3) := by decide +kernel
theorem dX9_look_29 : decode cX9_look 29 = .ok (.aload_n 0, 1) := by decide +kernel
theorem dX9_look_30 : decode cX9_look 30 = .ok (.getfield 64, 3) := by decide +kernel
theorem dX9_look_33 : decode cX9_look 33 = .ok (.getfield 393, 3) := by decide +kernel
theorem dX9_look_36 : decode cX9_look 36 = .ok (.iload 4, 2) := by decide +kernel
theorem dX9_look_38 : decode cX9_look 38 = .ok (.iaload, 1) := by decide +kernel
theorem dX9_look_39 : decode cX9_look 39 = .ok (.iload_n 3, 1) := by decide +kernel
theorem dX9_look_40 : decode cX9_look 40 = .ok (.if_icmp .le 17, 3) := by decide +kernel
theorem dX9_look_57 : decode cX9_look 57 = .ok (.iinc 4 1, 3) := by decide +kernel
theorem dX9_look_60 : decode cX9_look 60 = .ok (.goto (-43), 3) := by decide +kernel
theorem dX9_look_43 : decode cX9_look 43 = .ok (.iload 4, 2) := by decide +kernel
theorem dX9_look_45 : decode cX9_look 45 = .ok (.istore_n 2, 1) := by decide +kernel
theorem dX9_look_46 : decode cX9_look 46 = .ok (.aload_n 0, 1) := by decide +kernel
theorem dX9_look_47 : decode cX9_look 47 = .ok (.getfield 64, 3) := by decide +kernel
theorem dX9_look_50 : decode cX9_look 50 = .ok (.getfield 393, 3) := by decide +kernel
theorem dX9_look_53 : decode cX9_look 53 = .ok (.iload 4, 2) := by decide +kernel
theorem dX9_look_55 : decode cX9_look 55 = .ok (.iaload, 1) := by decide +kernel
theorem dX9_look_56 : decode cX9_look 56 = .ok (.istore_n 3, 1) := by decide +kernel
theorem dX9_weightOf_0 : decode cX9_weightOf 0 = .ok (.iconst 1, 1) := by decide +kernel
theorem dX9_weightOf_1 : decode cX9_weightOf 1 = .ok (.istore 4, 2) := by decide +kernel
theorem dX9_weightOf_3 : decode cX9_weightOf 3 = .ok (.iconst 0, 1) := by decide +kernel
theorem dX9_weightOf_4 : decode cX9_weightOf 4 = .ok (.istore 5, 2) := by decide +kernel
theorem dX9_weightOf_6 : decode cX9_weightOf 6 = .ok (.iload 5, 2) := by decide +kernel
theorem dX9_weightOf_8 : decode cX9_weightOf 8 = .ok (.iload_n 2, 1) := by decide +kernel
theorem dX9_weightOf_9 : decode cX9_weightOf 9 = .ok (.if_icmp .ge 86, 3) := by decide +kernel
theorem dX9_weightOf_95 : decode cX9_weightOf 95 = .ok (.iload 4, 2) := by decide +kernel
theorem dX9_weightOf_97 : decode cX9_weightOf 97 = .ok (.ireturn, 1) := by decide +kernel
theorem dX9_weightOf_12 : decode cX9_weightOf 12 = .ok (.iload_n 1, 1) := by decide +kernel
theorem dX9_weightOf_13 : decode cX9_weightOf 13 = .ok (.iload 5, 2) := by decide +kernel
theorem dX9_weightOf_15 : decode cX9_weightOf 15 = .ok (.ishr, 1) := by decide +kernel
theorem dX9_weightOf_16 : decode cX9_weightOf 16 = .ok (.iconst 1, 1) := by decide +kernel
theorem dX9_weightOf_17 : decode cX9_weightOf 17 = .ok (.iand, 1) := by decide +kernel
theorem dX9_weightOf_18 : decode cX9_weightOf 18 = .ok (.iconst 1, 1) := by decide +kernel
theorem dX9_weightOf_19 : decode cX9_weightOf 19 = .ok (.if_icmp .ne 7, 3) := by decide +kernel
theorem dX9_weightOf_26 : decode cX9_weightOf 26 = .ok (.iconst 0, 1) := by decide +kernel
theorem dX9_weightOf_27 : decode cX9_weightOf 27 = .ok (.istore 6, 2) := by decide +kernel
theorem dX9_weightOf_29 : decode cX9_weightOf 29 = .ok (.aload_n 0, 1) := by decide +kernel
theorem dX9_weightOf_30 : decode cX9_weightOf 30 = .ok (.getfield 30, 3) := by decide +kernel
theorem dX9_weightOf_33 : decode cX9_weightOf 33 = .ok (.aload_n 0, 1) := by decide +kernel
theorem dX9_weightOf_34 : decode cX9_weightOf 34 = .ok (.getfield 37, 3) := by decide +kernel
theorem dX9_weightOf_37 : decode cX9_weightOf 37 = .ok (.getfield 112, 3) := by decide +kernel
theorem dX9_weightOf_40 : decode cX9_weightOf 40 = .ok (.getfield 121, 3) := by decide +kernel
theorem dX9_weightOf_43 : decode cX9_weightOf 43 = .ok (.iload 5, 2) := by decide +kernel
theorem dX9_weightOf_45 : decode cX9_weightOf 45 = .ok (.iadd, 1) := by decide +kernel
theorem dX9_weightOf_46 : decode cX9_weightOf 46 = .ok (.invokevirtual 454, 3) := by decide +kernel
theorem dX9_weightOf_49 : decode cX9_weightOf 49 = .ok (.ifCond .eq 24, 3) := by decide +kernel
theorem dX9_weightOf_73 : decode cX9_weightOf 73 = .ok (.iload 4, 2) := by decide +kernel
theorem dX9_weightOf_75 : decode cX9_weightOf 75 = .ok (.iload 6, 2) := by decide +kernel
theorem dX9_weightOf_77 : decode cX9_weightOf 77 = .ok (.ifCond .eq 7, 3) := by decide +kernel
theorem dX9_weightOf_84 : decode cX9_weightOf 84 = .ok (.bipush 10, 2) := by decide +kernel
theorem dX9_weightOf_86 : decode cX9_weightOf 86 = .ok (.imul, 1) := by decide +kernel
theorem dX9_weightOf_87 : decode cX9_weightOf 87 = .ok (.istore 4, 2) := by decide +kernel
theorem dX9_weightOf_89 : decode cX9_weightOf 89 = .ok (.iinc 5 1, 3) := by decide +kernel
theorem dX9_weightOf_92 : decode cX9_weightOf 92 = .ok (.goto (-86), 3) := by decide +kernel
theorem dX9_weightOf_52 : decode cX9_weightOf 52 = .ok (.iload 4, 2) := by decide +kernel
theorem dX9_weightOf_54 : decode cX9_weightOf 54 = .ok (.iload 6, 2) := by decide +kernel
theorem dX9_weightOf_56 : decode cX9_weightOf 56 = .ok (.ifCond .eq 7, 3) := by decide +kernel
theorem dX9_weightOf_63 : decode cX9_weightOf 63 = .ok (.bipush 10, 2) := by decide +kernel
theorem dX9_weightOf_65 : decode cX9_weightOf 65 = .ok (.iload_n 3, 1) := by decide +kernel
theorem dX9_weightOf_66 : decode cX9_weightOf 66 = .ok (.isub, 1) := by decide +kernel
theorem dX9_weightOf_67 : decode cX9_weightOf 67 = .ok (.imul, 1) := by decide +kernel
theorem dX9_weightOf_68 : decode cX9_weightOf 68 = .ok (.istore 4, 2) := by decide +kernel
theorem dX9_weightOf_70 : decode cX9_weightOf 70 = .ok (.goto 19, 3) := by decide +kernel
theorem dX9_weightOf_22 : decode cX9_weightOf 22 = .ok (.iconst 1, 1) := by decide +kernel
theorem dX9_weightOf_23 : decode cX9_weightOf 23 = .ok (.goto 4, 3) := by decide +kernel
theorem dX9_weightOf_80 : decode cX9_weightOf 80 = .ok (.iconst 0, 1) := by decide +kernel
theorem dX9_weightOf_81 : decode cX9_weightOf 81 = .ok (.goto 5, 3) := by decide +kernel
theorem dX9_weightOf_59 : decode cX9_weightOf 59 = .ok (.iload_n 3, 1) := by decide +kernel
theorem dX9_weightOf_60 : decode cX9_weightOf 60 = .ok (.goto 7, 3) := by decide +kernel
theorem dX9_isUnstableWithout_0 : decode cX9_isUnstableWithout 0 = .ok (.aload_n 0, 1) := by decide +kernel
theorem dX9_isUnstableWithout_1 : decode cX9_isUnstableWithout 1 = .ok (.getfield 54, 3) := by decide +kernel
theorem dX9_isUnstableWithout_4 : decode cX9_isUnstableWithout 4 = .ok (.aload_n 0, 1) := by decide +kernel
theorem dX9_isUnstableWithout_5 : decode cX9_isUnstableWithout 5 = .ok (.getfield 37, 3) := by decide +kernel
theorem dX9_isUnstableWithout_8 : decode cX9_isUnstableWithout 8 = .ok (.getfield 112, 3) := by decide +kernel
theorem dX9_isUnstableWithout_11 : decode cX9_isUnstableWithout 11 = .ok (.invokevirtual 311, 3) := by decide +kernel
theorem dX9_isUnstableWithout_14 : decode cX9_isUnstableWithout 14 = .ok (.iconst 0, 1) := by decide +kernel
theorem dX9_isUnstableWithout_15 : decode cX9_isUnstableWithout 15 = .ok (.istore 4, 2) := by decide +kernel
theorem dX9_isUnstableWithout_17 : decode cX9_isUnstableWithout 17 = .ok (.iload 4, 2) := by decide +kernel
theorem dX9_isUnstableWithout_19 : decode cX9_isUnstableWithout 19 = .ok (.iload_n 3, 1) := by decide +kernel
theorem dX9_isUnstableWithout_20 : decode cX9_isUnstableWithout 20 = .ok (.if_icmp .ge 37, 3) := by decide +kernel
theorem dX9_isUnstableWithout_57 : decode cX9_isUnstableWithout 57 = .ok (.aload_n 0, 1) := by decide +kernel
theorem dX9_isUnstableWithout_58 : decode cX9_isUnstableWithout 58 = .ok (.aload_n 0, 1) := by decide +kernel
theorem dX9_isUnstableWithout_59 : decode cX9_isUnstableWithout 59 = .ok (.getfield 54, 3) := by decide +kernel
theorem dX9_isUnstableWithout_62 : decode cX9_isUnstableWithout 62 = .ok (.iload_n 2, 1) := by decide +kernel
theorem dX9_isUnstableWithout_63 : decode cX9_isUnstableWithout 63 = .ok (.invokevirtual 287, 3) := by decide +kernel
theorem dX9_isUnstableWithout_66 : decode cX9_isUnstableWithout 66 = .ok (.ireturn, 1) := by decide +kernel
theorem dX9_isUnstableWithout_23 : decode cX9_isUnstableWithout 23 = .ok (.aload_n 0, 1) := by decide +kernel
theorem dX9_isUnstableWithout_24 : decode cX9_isUnstableWithout 24 = .ok (.getfield 54, 3) := by decide +kernel
theorem dX9_isUnstableWithout_27 : decode cX9_isUnstableWithout 27 = .ok (.aload_n 0, 1) := by decide +kernel
theorem dX9_isUnstableWithout_28 : decode cX9_isUnstableWithout 28 = .ok (.getfield 30, 3) := by decide +kernel
theorem dX9_isUnstableWithout_31 : decode cX9_isUnstableWithout 31 = .ok (.iconst 1, 1) := by decide +kernel
theorem dX9_isUnstableWithout_32 : decode cX9_isUnstableWithout 32 = .ok (.iload_n 2, 1) := by decide +kernel
theorem dX9_isUnstableWithout_33 : decode cX9_isUnstableWithout 33 = .ok (.ishl, 1) := by decide +kernel
theorem dX9_isUnstableWithout_34 : decode cX9_isUnstableWithout 34 = .ok (.iload_n 1, 1) := by decide +kernel
theorem dX9_isUnstableWithout_35 : decode cX9_isUnstableWithout 35 = .ok (.iload 4, 2) := by decide +kernel
theorem dX9_isUnstableWithout_37 : decode cX9_isUnstableWithout 37 = .ok (.ishr, 1) := by decide +kernel
theorem dX9_isUnstableWithout_38 : decode cX9_isUnstableWithout 38 = .ok (.iconst 1, 1) := by decide +kernel
theorem dX9_isUnstableWithout_39 : decode cX9_isUnstableWithout 39 = .ok (.iand, 1) := by decide +kernel
theorem dX9_isUnstableWithout_40 : decode cX9_isUnstableWithout 40 = .ok (.ifCond .ne 7, 3) := by decide +kernel
theorem dX9_isUnstableWithout_47 : decode cX9_isUnstableWithout 47 = .ok (.iconst 0, 1) := by decide +kernel
theorem dX9_isUnstableWithout_48 : decode cX9_isUnstableWithout 48 = .ok (.invokevirtual 264, 3) := by decide +kernel
theorem dX9_isUnstableWithout_51 : decode cX9_isUnstableWithout 51 = .ok (.iinc 4 1, 3) := by decide +kernel
theorem dX9_isUnstableWithout_54 : decode cX9_isUnstableWithout 54 = .ok (.goto (-37), 3) := by decide +kernel
theorem dX9_isUnstableWithout_43 : decode cX9_isUnstableWithout 43 = .ok (.iconst 1, 1) := by decide +kernel
theorem dX9_isUnstableWithout_44 : decode cX9_isUnstableWithout 44 = .ok (.goto 4, 3) := by decide +kernel
theorem dX9_odds_0 : decode cX9_odds 0 = .ok (.aload_n 0, 1) := by decide +kernel
theorem dX9_odds_1 : decode cX9_odds 1 = .ok (.iload_n 1, 1) := by decide +kernel
theorem dX9_odds_2 : decode cX9_odds 2 = .ok (.invokevirtual 300, 3) := by decide +kernel
theorem dX9_odds_5 : decode cX9_odds 5 = .ok (.iload_n 2, 1) := by decide +kernel
theorem dX9_odds_6 : decode cX9_odds 6 = .ok (.iconst 1, 1) := by decide +kernel
theorem dX9_odds_7 : decode cX9_odds 7 = .ok (.bipush 6, 2) := by decide +kernel
theorem dX9_odds_9 : decode cX9_odds 9 = .ok (.invokestatic 307, 3) := by decide +kernel
theorem dX9_odds_12 : decode cX9_odds 12 = .ok (.iload_n 3, 1) := by decide +kernel
theorem dX9_odds_13 : decode cX9_odds 13 = .ok (.ifCond .lt 9, 3) := by decide +kernel
theorem dX9_odds_22 : decode cX9_odds 22 = .ok (.new 86, 3) := by decide +kernel
theorem dX9_odds_25 : decode cX9_odds 25 = .ok (.dup, 1) := by decide +kernel
theorem dX9_odds_26 : decode cX9_odds 26 = .ok (.ldc_w 396, 3) := by decide +kernel
theorem dX9_odds_29 : decode cX9_odds 29 = .ok (.invokespecial 90, 3) := by decide +kernel
theorem dX9_odds_32 : decode cX9_odds 32 = .ok (.athrow, 1) := by decide +kernel
theorem dX9_odds_16 : decode cX9_odds 16 = .ok (.iload_n 3, 1) := by decide +kernel
theorem dX9_odds_17 : decode cX9_odds 17 = .ok (.bipush 10, 2) := by decide +kernel
theorem dX9_odds_19 : decode cX9_odds 19 = .ok (.if_icmp .le 14, 3) := by decide +kernel
theorem dX9_odds_33 : decode cX9_odds 33 = .ok (.iconst 0, 1) := by decide +kernel
theorem dX9_odds_34 : decode cX9_odds 34 = .ok (.istore 4, 2) := by decide +kernel
theorem dX9_odds_36 : decode cX9_odds 36 = .ok (.iconst 0, 1) := by decide +kernel
theorem dX9_odds_37 : decode cX9_odds 37 = .ok (.istore 5, 2) := by decide +kernel
theorem dX9_odds_39 : decode cX9_odds 39 = .ok (.iload 5, 2) := by decide +kernel
theorem dX9_odds_41 : decode cX9_odds 41 = .ok (.iconst 1, 1) := by decide +kernel
theorem dX9_odds_42 : decode cX9_odds 42 = .ok (.iload_n 2, 1) := by decide +kernel
theorem dX9_odds_43 : decode cX9_odds 43 = .ok (.ishl, 1) := by decide +kernel
theorem dX9_odds_44 : decode cX9_odds 44 = .ok (.if_icmp .ge 42, 3) := by decide +kernel
theorem dX9_odds_86 : decode cX9_odds 86 = .ok (.iload 4, 2) := by decide +kernel
theorem dX9_odds_88 : decode cX9_odds 88 = .ok (.ireturn, 1) := by decide +kernel
theorem dX9_odds_47 : decode cX9_odds 47 = .ok (.aload_n 0, 1) := by decide +kernel
theorem dX9_odds_48 : decode cX9_odds 48 = .ok (.iload 5, 2) := by decide +kernel
theorem dX9_odds_50 : decode cX9_odds 50 = .ok (.iload_n 2, 1) := by decide +kernel
theorem dX9_odds_51 : decode cX9_odds 51 = .ok (.iload_n 3, 1) := by decide +kernel
theorem dX9_odds_52 : decode cX9_odds 52 = .ok (.invokevirtual 398, 3) := by decide +kernel
theorem dX9_odds_55 : decode cX9_odds 55 = .ok (.istore 6, 2) := by decide +kernel
theorem dX9_odds_57 : decode cX9_odds 57 = .ok (.iload 6, 2) := by decide +kernel
theorem dX9_odds_59 : decode cX9_odds 59 = .ok (.ifCond .le 21, 3) := by decide +kernel
theorem dX9_odds_80 : decode cX9_odds 80 = .ok (.iinc 5 1, 3) := by decide +kernel
theorem dX9_odds_83 : decode cX9_odds 83 = .ok (.goto (-44), 3) := by decide +kernel
theorem dX9_odds_62 : decode cX9_odds 62 = .ok (.aload_n 0, 1) := by decide +kernel
theorem dX9_odds_63 : decode cX9_odds 63 = .ok (.iload 5, 2) := by decide +kernel
theorem dX9_odds_65 : decode cX9_odds 65 = .ok (.iload_n 1, 1) := by decide +kernel
theorem dX9_odds_66 : decode cX9_odds 66 = .ok (.iload_n 2, 1) := by decide +kernel
theorem dX9_odds_67 : decode cX9_odds 67 = .ok (.invokevirtual 402, 3) := by decide +kernel
theorem dX9_odds_70 : decode cX9_odds 70 = .ok (.ifCond .eq 10, 3) := by decide +kernel
theorem dX9_odds_73 : decode cX9_odds 73 = .ok (.iload 4, 2) := by decide +kernel
theorem dX9_odds_75 : decode cX9_odds 75 = .ok (.iload 6, 2) := by decide +kernel
theorem dX9_odds_77 : decode cX9_odds 77 = .ok (.iadd, 1) := by decide +kernel
theorem dX9_odds_78 : decode cX9_odds 78 = .ok (.istore 4, 2) := by decide +kernel
theorem dX9_drawOf_0 : decode cX9_drawOf 0 = .ok (.iload_n 0, 1) := by decide +kernel
theorem dX9_drawOf_1 : decode cX9_drawOf 1 = .ok (.bipush 16, 2) := by decide +kernel
theorem dX9_drawOf_3 : decode cX9_drawOf 3 = .ok (.iushr, 1) := by decide +kernel
theorem dX9_drawOf_4 : decode cX9_drawOf 4 = .ok (.sipush 32767, 3) := by decide +kernel
theorem dX9_drawOf_7 : decode cX9_drawOf 7 = .ok (.iand, 1) := by decide +kernel
theorem dX9_drawOf_8 : decode cX9_drawOf 8 = .ok (.iload_n 1, 1) := by decide +kernel
theorem dX9_drawOf_9 : decode cX9_drawOf 9 = .ok (.iconst 1, 1) := by decide +kernel
theorem dX9_drawOf_10 : decode cX9_drawOf 10 = .ok (.invokestatic 467, 3) := by decide +kernel
theorem dX9_drawOf_13 : decode cX9_drawOf 13 = .ok (.irem, 1) := by decide +kernel
theorem dX9_drawOf_14 : decode cX9_drawOf 14 = .ok (.ireturn, 1) := by decide +kernel
theorem dX9_slideAll_0 : decode cX9_slideAll 0 = .ok (.iconst 0, 1) := by decide +kernel
theorem dX9_slideAll_1 : decode cX9_slideAll 1 = .ok (.istore_n 1, 1) := by decide +kernel
theorem dX9_slideAll_2 : decode cX9_slideAll 2 = .ok (.iload_n 1, 1) := by decide +kernel
theorem dX9_slideAll_3 : decode cX9_slideAll 3 = .ok (.aload_n 0, 1) := by decide +kernel
theorem dX9_slideAll_4 : decode cX9_slideAll 4 = .ok (.getfield 30, 3) := by decide +kernel
theorem dX9_slideAll_7 : decode cX9_slideAll 7 = .ok (.getfield 115, 3) := by decide +kernel
theorem dX9_slideAll_10 : decode cX9_slideAll 10 = .ok (.if_icmp .ge 34, 3) := by decide +kernel
theorem dX9_slideAll_44 : decode cX9_slideAll 44 = .ok (.return_, 1) := by decide +kernel
theorem dX9_slideAll_13 : decode cX9_slideAll 13 = .ok (.aload_n 0, 1) := by decide +kernel
theorem dX9_slideAll_14 : decode cX9_slideAll 14 = .ok (.aload_n 0, 1) := by decide +kernel
theorem dX9_slideAll_15 : decode cX9_slideAll 15 = .ok (.getfield 54, 3) := by decide +kernel
theorem dX9_slideAll_18 : decode cX9_slideAll 18 = .ok (.iload_n 1, 1) := by decide +kernel
theorem dX9_slideAll_19 : decode cX9_slideAll 19 = .ok (.invokevirtual 287, 3) := by decide +kernel
theorem dX9_slideAll_22 : decode cX9_slideAll 22 = .ok (.ifCond .eq 16, 3) := by decide +kernel
theorem dX9_slideAll_38 : decode cX9_slideAll 38 = .ok (.iinc 1 1, 3) := by decide +kernel
theorem dX9_slideAll_41 : decode cX9_slideAll 41 = .ok (.goto (-39), 3) := by decide +kernel
theorem dX9_slideAll_25 : decode cX9_slideAll 25 = .ok (.aload_n 0, 1) := by decide +kernel
theorem dX9_slideAll_26 : decode cX9_slideAll 26 = .ok (.getfield 54, 3) := by decide +kernel
theorem dX9_slideAll_29 : decode cX9_slideAll 29 = .ok (.iload_n 1, 1) := by decide +kernel
theorem dX9_slideAll_30 : decode cX9_slideAll 30 = .ok (.aload_n 0, 1) := by decide +kernel
theorem dX9_slideAll_31 : decode cX9_slideAll 31 = .ok (.getfield 30, 3) := by decide +kernel
theorem dX9_slideAll_34 : decode cX9_slideAll 34 = .ok (.invokevirtual 291, 3) := by decide +kernel
theorem dX9_slideAll_37 : decode cX9_slideAll 37 = .ok (.pop, 1) := by decide +kernel
theorem dX9_yearGoesBy_0 : decode cX9_yearGoesBy 0 = .ok (.iload_n 1, 1) := by decide +kernel
theorem dX9_yearGoesBy_1 : decode cX9_yearGoesBy 1 = .ok (.invokestatic 457, 3) := by decide +kernel
theorem dX9_yearGoesBy_4 : decode cX9_yearGoesBy 4 = .ok (.istore_n 2, 1) := by decide +kernel
theorem dX9_yearGoesBy_5 : decode cX9_yearGoesBy 5 = .ok (.iload_n 2, 1) := by decide +kernel
theorem dX9_yearGoesBy_6 : decode cX9_yearGoesBy 6 = .ok (.bipush 6, 2) := by decide +kernel
theorem dX9_yearGoesBy_8 : decode cX9_yearGoesBy 8 = .ok (.invokestatic 460, 3) := by decide +kernel
theorem dX9_yearGoesBy_11 : decode cX9_yearGoesBy 11 = .ok (.istore_n 3, 1) := by decide +kernel
theorem dX9_yearGoesBy_12 : decode cX9_yearGoesBy 12 = .ok (.iload_n 3, 1) := by decide +kernel
theorem dX9_yearGoesBy_13 : decode cX9_yearGoesBy 13 = .ok (.iconst 1, 1) := by decide +kernel
theorem dX9_yearGoesBy_14 : decode cX9_yearGoesBy 14 = .ok (.if_icmp .gt 56, 3) := by decide +kernel
theorem dX9_yearGoesBy_70 : decode cX9_yearGoesBy 70 = .ok (.iload_n 3, 1) := by decide +kernel
theorem dX9_yearGoesBy_71 : decode cX9_yearGoesBy 71 = .ok (.iconst 5, 1) := by decide +kernel
theorem dX9_yearGoesBy_72 : decode cX9_yearGoesBy 72 = .ok (.if_icmp .ne 10, 3) := by decide +kernel
theorem dX9_yearGoesBy_82 : decode cX9_yearGoesBy 82 = .ok (.aload_n 0, 1) := by decide +kernel
theorem dX9_yearGoesBy_83 : decode cX9_yearGoesBy 83 = .ok (.getfield 30, 3) := by decide +kernel
theorem dX9_yearGoesBy_86 : decode cX9_yearGoesBy 86 = .ok (.getfield 115, 3) := by decide +kernel
theorem dX9_yearGoesBy_89 : decode cX9_yearGoesBy 89 = .ok (.ifCond .le 89, 3) := by decide +kernel
theorem dX9_yearGoesBy_178 : decode cX9_yearGoesBy 178 = .ok (.iload_n 2, 1) := by decide +kernel
theorem dX9_yearGoesBy_179 : decode cX9_yearGoesBy 179 = .ok (.ireturn, 1) := by decide +kernel
theorem dX9_yearGoesBy_92 : decode cX9_yearGoesBy 92 = .ok (.iload_n 2, 1) := by decide +kernel
theorem dX9_yearGoesBy_93 : decode cX9_yearGoesBy 93 = .ok (.invokestatic 457, 3) := by decide +kernel
theorem dX9_yearGoesBy_96 : decode cX9_yearGoesBy 96 = .ok (.istore_n 2, 1) := by decide +kernel
theorem dX9_yearGoesBy_97 : decode cX9_yearGoesBy 97 = .ok (.iload_n 2, 1) := by decide +kernel
theorem dX9_yearGoesBy_98 : decode cX9_yearGoesBy 98 = .ok (.aload_n 0, 1) := by decide +kernel
theorem dX9_yearGoesBy_99 : decode cX9_yearGoesBy 99 = .ok (.getfield 30, 3) := by decide +kernel
theorem dX9_yearGoesBy_102 : decode cX9_yearGoesBy 102 = .ok (.getfield 115, 3) := by decide +kernel
theorem dX9_yearGoesBy_105 : decode cX9_yearGoesBy 105 = .ok (.invokestatic 460, 3) := by decide +kernel
theorem dX9_yearGoesBy_108 : decode cX9_yearGoesBy 108 = .ok (.istore 4, 2) := by decide +kernel
theorem dX9_yearGoesBy_110 : decode cX9_yearGoesBy 110 = .ok (.iload_n 3, 1) := by decide +kernel
theorem dX9_yearGoesBy_111 : decode cX9_yearGoesBy 111 = .ok (.iconst 4, 1) := by decide +kernel
theorem dX9_yearGoesBy_112 : decode cX9_yearGoesBy 112 = .ok (.if_icmp .ne 16, 3) := by decide +kernel
theorem dX9_yearGoesBy_128 : decode cX9_yearGoesBy 128 = .ok (.iload_n 2, 1) := by decide +kernel
theorem dX9_yearGoesBy_129 : decode cX9_yearGoesBy 129 = .ok (.invokestatic 457, 3) := by decide +kernel
theorem dX9_yearGoesBy_132 : decode cX9_yearGoesBy 132 = .ok (.istore_n 2, 1) := by decide +kernel
theorem dX9_yearGoesBy_133 : decode cX9_yearGoesBy 133 = .ok (.iload_n 3, 1) := by decide +kernel
theorem dX9_yearGoesBy_134 : decode cX9_yearGoesBy 134 = .ok (.iconst 2, 1) := by decide +kernel
theorem dX9_yearGoesBy_135 : decode cX9_yearGoesBy 135 = .ok (.if_icmp .ne 7, 3) := by decide +kernel
theorem dX9_yearGoesBy_142 : decode cX9_yearGoesBy 142 = .ok (.iconst 2, 1) := by decide +kernel
theorem dX9_yearGoesBy_143 : decode cX9_yearGoesBy 143 = .ok (.istore 5, 2) := by decide +kernel
theorem dX9_yearGoesBy_145 : decode cX9_yearGoesBy 145 = .ok (.aload_n 0, 1) := by decide +kernel
theorem dX9_yearGoesBy_146 : decode cX9_yearGoesBy 146 = .ok (.getfield 54, 3) := by decide +kernel
theorem dX9_yearGoesBy_149 : decode cX9_yearGoesBy 149 = .ok (.iload 4, 2) := by decide +kernel
theorem dX9_yearGoesBy_151 : decode cX9_yearGoesBy 151 = .ok (.iload 5, 2) := by decide +kernel
theorem dX9_yearGoesBy_153 : decode cX9_yearGoesBy 153 = .ok (.iload_n 2, 1) := by decide +kernel
theorem dX9_yearGoesBy_154 : decode cX9_yearGoesBy 154 = .ok (.bipush 20, 2) := by decide +kernel
theorem dX9_yearGoesBy_156 : decode cX9_yearGoesBy 156 = .ok (.invokestatic 460, 3) := by decide +kernel
theorem dX9_yearGoesBy_159 : decode cX9_yearGoesBy 159 = .ok (.iconst 1, 1) := by decide +kernel
theorem dX9_yearGoesBy_160 : decode cX9_yearGoesBy 160 = .ok (.iadd, 1) := by decide +kernel
theorem dX9_yearGoesBy_161 : decode cX9_yearGoesBy 161 = .ok (.aload_n 0, 1) := by decide +kernel
theorem dX9_yearGoesBy_162 : decode cX9_yearGoesBy 162 = .ok (.getfield 30, 3) := by decide +kernel
theorem dX9_yearGoesBy_165 : decode cX9_yearGoesBy 165 = .ok (.aload_n 0, 1) := by decide +kernel
theorem dX9_yearGoesBy_166 : decode cX9_yearGoesBy 166 = .ok (.getfield 54, 3) := by decide +kernel
theorem dX9_yearGoesBy_169 : decode cX9_yearGoesBy 169 = .ok (.getfield 121, 3) := by decide +kernel
theorem dX9_yearGoesBy_172 : decode cX9_yearGoesBy 172 = .ok (.invokevirtual 225, 3) := by decide +kernel
theorem dX9_yearGoesBy_175 : decode cX9_yearGoesBy 175 = .ok (.invokevirtual 276, 3) := by decide +kernel
theorem dX9_yearGoesBy_138 : decode cX9_yearGoesBy 138 = .ok (.iconst 1, 1) := by decide +kernel
theorem dX9_yearGoesBy_139 : decode cX9_yearGoesBy 139 = .ok (.goto 4, 3) := by decide +kernel
theorem dX9_yearGoesBy_115 : decode cX9_yearGoesBy 115 = .ok (.aload_n 0, 1) := by decide +kernel
theorem dX9_yearGoesBy_116 : decode cX9_yearGoesBy 116 = .ok (.getfield 54, 3) := by decide +kernel
theorem dX9_yearGoesBy_119 : decode cX9_yearGoesBy 119 = .ok (.iload 4, 2) := by decide +kernel
theorem dX9_yearGoesBy_121 : decode cX9_yearGoesBy 121 = .ok (.invokevirtual 284, 3) := by decide +kernel
theorem dX9_yearGoesBy_124 : decode cX9_yearGoesBy 124 = .ok (.pop, 1) := by decide +kernel
theorem dX9_yearGoesBy_125 : decode cX9_yearGoesBy 125 = .ok (.goto 53, 3) := by decide +kernel
theorem dX9_yearGoesBy_75 : decode cX9_yearGoesBy 75 = .ok (.aload_n 0, 1) := by decide +kernel
theorem dX9_yearGoesBy_76 : decode cX9_yearGoesBy 76 = .ok (.invokevirtual 463, 3) := by decide +kernel
theorem dX9_yearGoesBy_79 : decode cX9_yearGoesBy 79 = .ok (.goto 99, 3) := by decide +kernel
theorem dX9_yearGoesBy_17 : decode cX9_yearGoesBy 17 = .ok (.iload_n 2, 1) := by decide +kernel
theorem dX9_yearGoesBy_18 : decode cX9_yearGoesBy 18 = .ok (.invokestatic 457, 3) := by decide +kernel
theorem dX9_yearGoesBy_21 : decode cX9_yearGoesBy 21 = .ok (.istore_n 2, 1) := by decide +kernel
theorem dX9_yearGoesBy_22 : decode cX9_yearGoesBy 22 = .ok (.iload_n 2, 1) := by decide +kernel
theorem dX9_yearGoesBy_23 : decode cX9_yearGoesBy 23 = .ok (.bipush 6, 2) := by decide +kernel
theorem dX9_yearGoesBy_25 : decode cX9_yearGoesBy 25 = .ok (.invokestatic 460, 3) := by decide +kernel
theorem dX9_yearGoesBy_28 : decode cX9_yearGoesBy 28 = .ok (.iconst 1, 1) := by decide +kernel
theorem dX9_yearGoesBy_29 : decode cX9_yearGoesBy 29 = .ok (.iadd, 1) := by decide +kernel
theorem dX9_yearGoesBy_30 : decode cX9_yearGoesBy 30 = .ok (.istore 4, 2) := by decide +kernel
theorem dX9_yearGoesBy_32 : decode cX9_yearGoesBy 32 = .ok (.iconst 0, 1) := by decide +kernel
theorem dX9_yearGoesBy_33 : decode cX9_yearGoesBy 33 = .ok (.istore 5, 2) := by decide +kernel
theorem dX9_yearGoesBy_35 : decode cX9_yearGoesBy 35 = .ok (.iload 5, 2) := by decide +kernel
theorem dX9_yearGoesBy_37 : decode cX9_yearGoesBy 37 = .ok (.iload 4, 2) := by decide +kernel
theorem dX9_yearGoesBy_39 : decode cX9_yearGoesBy 39 = .ok (.if_icmp .ge 28, 3) := by decide +kernel
theorem dX9_yearGoesBy_67 : decode cX9_yearGoesBy 67 = .ok (.goto 111, 3) := by decide +kernel
theorem dX9_yearGoesBy_42 : decode cX9_yearGoesBy 42 = .ok (.aload_n 0, 1) := by decide +kernel
theorem dX9_yearGoesBy_43 : decode cX9_yearGoesBy 43 = .ok (.getfield 54, 3) := by decide +kernel
theorem dX9_yearGoesBy_46 : decode cX9_yearGoesBy 46 = .ok (.aload_n 0, 1) := by decide +kernel
theorem dX9_yearGoesBy_47 : decode cX9_yearGoesBy 47 = .ok (.getfield 30, 3) := by decide +kernel
theorem dX9_yearGoesBy_50 : decode cX9_yearGoesBy 50 = .ok (.aload_n 0, 1) := by decide +kernel
theorem dX9_yearGoesBy_51 : decode cX9_yearGoesBy 51 = .ok (.getfield 30, 3) := by decide +kernel
theorem dX9_yearGoesBy_54 : decode cX9_yearGoesBy 54 = .ok (.invokevirtual 261, 3) := by decide +kernel
theorem dX9_yearGoesBy_57 : decode cX9_yearGoesBy 57 = .ok (.iconst 1, 1) := by decide +kernel
theorem dX9_yearGoesBy_58 : decode cX9_yearGoesBy 58 = .ok (.invokevirtual 264, 3) := by decide +kernel
theorem dX9_yearGoesBy_61 : decode cX9_yearGoesBy 61 = .ok (.iinc 5 1, 3) := by decide +kernel
theorem dX9_yearGoesBy_64 : decode cX9_yearGoesBy 64 = .ok (.goto (-29), 3) := by decide +kernel
theorem dX9_years_0 : decode cX9_years 0 = .ok (.iload_n 3, 1) := by decide +kernel
theorem dX9_years_1 : decode cX9_years 1 = .ok (.iconst 2, 1) := by decide +kernel
theorem dX9_years_2 : decode cX9_years 2 = .ok (.invokestatic 303, 3) := by decide +kernel
theorem dX9_years_5 : decode cX9_years 5 = .ok (.iload_n 2, 1) := by decide +kernel
theorem dX9_years_6 : decode cX9_years 6 = .ok (.ifCond .lt 9, 3) := by decide +kernel
theorem dX9_years_15 : decode cX9_years 15 = .ok (.new 86, 3) := by decide +kernel
theorem dX9_years_18 : decode cX9_years 18 = .ok (.dup, 1) := by decide +kernel
theorem dX9_years_19 : decode cX9_years 19 = .ok (.ldc_w 406, 3) := by decide +kernel
theorem dX9_years_22 : decode cX9_years 22 = .ok (.invokespecial 90, 3) := by decide +kernel
theorem dX9_years_25 : decode cX9_years 25 = .ok (.athrow, 1) := by decide +kernel
theorem dX9_years_9 : decode cX9_years 9 = .ok (.iload_n 2, 1) := by decide +kernel
theorem dX9_years_10 : decode cX9_years 10 = .ok (.bipush 30, 2) := by decide +kernel
theorem dX9_years_12 : decode cX9_years 12 = .ok (.if_icmp .le 14, 3) := by decide +kernel
theorem dX9_years_26 : decode cX9_years 26 = .ok (.aload_n 0, 1) := by decide +kernel
theorem dX9_years_27 : decode cX9_years 27 = .ok (.getfield 54, 3) := by decide +kernel
theorem dX9_years_30 : decode cX9_years 30 = .ok (.aload_n 0, 1) := by decide +kernel
theorem dX9_years_31 : decode cX9_years 31 = .ok (.getfield 37, 3) := by decide +kernel
theorem dX9_years_34 : decode cX9_years 34 = .ok (.getfield 112, 3) := by decide +kernel
theorem dX9_years_37 : decode cX9_years 37 = .ok (.invokevirtual 311, 3) := by decide +kernel
theorem dX9_years_40 : decode cX9_years 40 = .ok (.iload_n 1, 1) := by decide +kernel
theorem dX9_years_41 : decode cX9_years 41 = .ok (.istore 4, 2) := by decide +kernel
theorem dX9_years_43 : decode cX9_years 43 = .ok (.iconst 0, 1) := by decide +kernel
theorem dX9_years_44 : decode cX9_years 44 = .ok (.istore 5, 2) := by decide +kernel
theorem dX9_years_46 : decode cX9_years 46 = .ok (.iload 5, 2) := by decide +kernel
theorem dX9_years_48 : decode cX9_years 48 = .ok (.iload_n 2, 1) := by decide +kernel
theorem dX9_years_49 : decode cX9_years 49 = .ok (.if_icmp .ge 17, 3) := by decide +kernel
theorem dX9_years_66 : decode cX9_years 66 = .ok (.iload_n 3, 1) := by decide +kernel
theorem dX9_years_67 : decode cX9_years 67 = .ok (.lookupswitch 63 #[(0, 25), (1, 44)], 25) := by decide +kernel
theorem dX9_years_130 : decode cX9_years 130 = .ok (.aload_n 0, 1) := by decide +kernel
theorem dX9_years_131 : decode cX9_years 131 = .ok (.getfield 54, 3) := by decide +kernel
theorem dX9_years_134 : decode cX9_years 134 = .ok (.bipush 36, 2) := by decide +kernel
theorem dX9_years_136 : decode cX9_years 136 = .ok (.invokevirtual 143, 3) := by decide +kernel
theorem dX9_years_139 : decode cX9_years 139 = .ok (.ireturn, 1) := by decide +kernel
theorem dX9_years_92 : decode cX9_years 92 = .ok (.aload_n 0, 1) := by decide +kernel
theorem dX9_years_93 : decode cX9_years 93 = .ok (.getfield 54, 3) := by decide +kernel
theorem dX9_years_96 : decode cX9_years 96 = .ok (.getfield 140, 3) := by decide +kernel
theorem dX9_years_99 : decode cX9_years 99 = .ok (.aload_n 0, 1) := by decide +kernel
theorem dX9_years_100 : decode cX9_years 100 = .ok (.getfield 37, 3) := by decide +kernel
theorem dX9_years_103 : decode cX9_years 103 = .ok (.getfield 112, 3) := by decide +kernel
theorem dX9_years_106 : decode cX9_years 106 = .ok (.getfield 140, 3) := by decide +kernel
theorem dX9_years_109 : decode cX9_years 109 = .ok (.isub, 1) := by decide +kernel
theorem dX9_years_110 : decode cX9_years 110 = .ok (.ireturn, 1) := by decide +kernel
theorem dX9_years_111 : decode cX9_years 111 = .ok (.aload_n 0, 1) := by decide +kernel
theorem dX9_years_112 : decode cX9_years 112 = .ok (.getfield 54, 3) := by decide +kernel
theorem dX9_years_115 : decode cX9_years 115 = .ok (.getfield 137, 3) := by decide +kernel
theorem dX9_years_118 : decode cX9_years 118 = .ok (.aload_n 0, 1) := by decide +kernel
theorem dX9_years_119 : decode cX9_years 119 = .ok (.getfield 37, 3) := by decide +kernel
theorem dX9_years_122 : decode cX9_years 122 = .ok (.getfield 112, 3) := by decide +kernel
theorem dX9_years_125 : decode cX9_years 125 = .ok (.getfield 137, 3) := by decide +kernel
theorem dX9_years_128 : decode cX9_years 128 = .ok (.isub, 1) := by decide +kernel
theorem dX9_years_129 : decode cX9_years 129 = .ok (.ireturn, 1) := by decide +kernel
theorem dX9_years_52 : decode cX9_years 52 = .ok (.aload_n 0, 1) := by decide +kernel
theorem dX9_years_53 : decode cX9_years 53 = .ok (.iload 4, 2) := by decide +kernel
theorem dX9_years_55 : decode cX9_years 55 = .ok (.invokevirtual 408, 3) := by decide +kernel
theorem dX9_years_58 : decode cX9_years 58 = .ok (.istore 4, 2) := by decide +kernel
theorem dX9_years_60 : decode cX9_years 60 = .ok (.iinc 5 1, 3) := by decide +kernel
theorem dX9_years_63 : decode cX9_years 63 = .ok (.goto (-17), 3) := by decide +kernel
end
