set_option maxRecDepth 100000 in
set_option maxHeartbeats 4000000 in
theorem c_X5_copyFrom (l : Launch) (D : va_G) (A : Nat → Prop) (cs : Nat → ClassId) (tt : Nat) (N : Nat) (ad : Nat → Nat) (g : Nat → va_E) (b : Nat) (hNb : b + 7 ≤ N) (sl ho ua : Int) (st op ai fa mu tb : Nat → Int) (hb : isPlan cs ad g b sl ho ua st op ai fa mu tb) (b2 : Nat) (hNb2 : b2 + 7 ≤ N) (sl2 ho2 ua2 : Int) (st2 op2 ai2 fa2 mu2 tb2 : Nat → Int) (hb2 : isPlan cs ad g b2 sl2 ho2 ua2 st2 op2 ai2 fa2 mu2 tb2) (hbb : b + 7 ≤ b2 ∨ b2 + 7 ≤ b) : zM l yX5_copyFrom cX5_copyFrom 2 none ({ frames := 1, cells := 0, slots := 0, locals := 60 } : Room) D A cs tt N ad g [.ref (ad b), .ref (ad b2)] (rV0 N ad fun g' => isPlan cs ad g' b sl2 ho2 ua2 st2 op2 ai2 fa2 mu2 tb2 ∧ ∀ j, j < b ∨ b + 7 ≤ j → g' j = g j) := by
  have hay1 : zAt ad (b) (ad b) := rfl
  have hay2 : zAt ad (b + 1) (ad (b + 1)) := rfl
  have hay3 : zAt ad (b + 2) (ad (b + 2)) := rfl
  have hay4 : zAt ad (b + 3) (ad (b + 3)) := rfl
  have hay5 : zAt ad (b + 4) (ad (b + 4)) := rfl
  have hay6 : zAt ad (b + 5) (ad (b + 5)) := rfl
  have hay7 : zAt ad (b + 6) (ad (b + 6)) := rfl
  have hay8 : zAt ad (b2) (ad b2) := rfl
  have hay9 : zAt ad (b2 + 1) (ad (b2 + 1)) := rfl
  have hay10 : zAt ad (b2 + 2) (ad (b2 + 2)) := rfl
  have hay11 : zAt ad (b2 + 3) (ad (b2 + 3)) := rfl
  have hay12 : zAt ad (b2 + 4) (ad (b2 + 4)) := rfl
  have hay13 : zAt ad (b2 + 5) (ad (b2 + 5)) := rfl
  have hay14 : zAt ad (b2 + 6) (ad (b2 + 6)) := rfl
  refine z_of (by decide) (Nat.le_of_ble_eq_true rfl) ?_
  intro p e s m below meth c C hr hlk hnm
  refine z_lv (lv' := [(0, .ref (ad b)), (1, .ref (ad b2))]) [0, 1] rfl ?_
  refine z_aload_n C 0 dX5_copyFrom_0 rfl ?_
  refine z_aload_n C 1 dX5_copyFrom_1 rfl ?_
  refine z_get (v := .int (zI (sl2))) C (by omega) hay8 hb2.1 rfl inA_X5 0 (by decide) q_88 rfl rfl dX5_copyFrom_2 ?_
  refine z_put (fs' := [.int (zI (sl2)), .int (zI (ho)), .int (zI (ua)), .ref (ad (b + 1)), .ref (ad (b + 2)), .ref (ad (b + 3)), .ref (ad (b + 4)), .ref (ad (b + 5)), .ref (ad (b + 6))]) C (by omega) hay1 hb.1 tyX5 tyX5_ok nmX5 rfl inA_X5 0 (by decide) q_88 rfl rfl rfl rfl (Nat.le_of_ble_eq_true rfl) rfl dX5_copyFrom_5 (fun gy15 egy16 => ?_)
  have hgy17 := up_s egy16
  refine z_aload_n C 0 dX5_copyFrom_8 rfl ?_
  refine z_aload_n C 1 dX5_copyFrom_9 rfl ?_
  have hgy18 := up_n egy16 hb2.1 (by omega)
  refine z_get (v := .int (zI (ho2))) C (by omega) hay8 hgy18 rfl inA_X5 1 (by decide) q_92 rfl rfl dX5_copyFrom_10 ?_
  refine z_put (fs' := [.int (zI (sl2)), .int (zI (ho2)), .int (zI (ua)), .ref (ad (b + 1)), .ref (ad (b + 2)), .ref (ad (b + 3)), .ref (ad (b + 4)), .ref (ad (b + 5)), .ref (ad (b + 6))]) C (by omega) hay1 hgy17 tyX5 tyX5_ok nmX5 rfl inA_X5 1 (by decide) q_92 rfl rfl rfl rfl (Nat.le_of_ble_eq_true rfl) rfl dX5_copyFrom_13 (fun gy19 egy20 => ?_)
  have hgy21 := up_s egy20
  refine z_aload_n C 0 dX5_copyFrom_16 rfl ?_
  refine z_aload_n C 1 dX5_copyFrom_17 rfl ?_
  have hgy22 := up_n egy20 hgy18 (by omega)
  refine z_get (v := .int (zI (ua2))) C (by omega) hay8 hgy22 rfl inA_X5 2 (by decide) q_95 rfl rfl dX5_copyFrom_18 ?_
  refine z_put (fs' := [.int (zI (sl2)), .int (zI (ho2)), .int (zI (ua2)), .ref (ad (b + 1)), .ref (ad (b + 2)), .ref (ad (b + 3)), .ref (ad (b + 4)), .ref (ad (b + 5)), .ref (ad (b + 6))]) C (by omega) hay1 hgy21 tyX5 tyX5_ok nmX5 rfl inA_X5 2 (by decide) q_95 rfl rfl rfl rfl (Nat.le_of_ble_eq_true rfl) rfl dX5_copyFrom_21 (fun gy23 egy24 => ?_)
  have hgy25 := up_s egy24
  refine z_aload_n C 1 dX5_copyFrom_24 rfl ?_
  have hgy26 := up_n egy24 hgy22 (by omega)
  refine z_get (v := .ref (ad (b2 + 1))) C (by omega) hay8 hgy26 rfl inA_X5 3 (by decide) q_96 rfl rfl dX5_copyFrom_25 ?_
  refine z_iconst (z := 0) C dX5_copyFrom_28 rfl ?_
  refine z_aload_n C 0 dX5_copyFrom_29 rfl ?_
  refine z_get (v := .ref (ad (b + 1))) C (by omega) hay1 hgy25 rfl inA_X5 3 (by decide) q_96 rfl rfl dX5_copyFrom_30 ?_
  refine z_iconst (z := 0) C dX5_copyFrom_33 rfl ?_
  refine z_aload_n C 0 dX5_copyFrom_34 rfl ?_
  refine z_get (v := .ref (ad (b + 1))) C (by omega) hay1 hgy25 rfl inA_X5 3 (by decide) q_96 rfl rfl dX5_copyFrom_35 ?_
  have hgy27 := up_n egy16 hb.2.1 (ne_o (i := b) (c := 1) (d := 0) rfl)
  have hgy28 := up_n egy20 hgy27 (ne_o (i := b) (c := 1) (d := 0) rfl)
  have hgy29 := up_n egy24 hgy28 (ne_o (i := b) (c := 1) (d := 0) rfl)
  refine z_alen (z := 4) C (by omega) hay2 hgy29 1 rfl rfl dX5_copyFrom_38 ?_
  have hgy30 := up_n egy16 hb2.2.1 (by omega)
  have hgy31 := up_n egy20 hgy30 (by omega)
  have hgy32 := up_n egy24 hgy31 (by omega)
  refine z_copyI C q_733 q_430 q_429 q_21 (by omega) (by omega) hay9 hay2 hgy32 hgy29 0 0 4 rfl rfl rfl (by decide) (by decide) (by decide) (by decide) (Nat.le_of_ble_eq_true rfl) dX5_copyFrom_39 (fun gy33 egy34 => ?_)
  have hgy35 := up_s egy34
  refine z_ext (r' := st2) (by omega) hgy35 (fun j hj => cZ_all hj) (fun gy36 egy37 => ?_)
  have hgy38 := up_s egy37
  refine z_aload_n C 1 dX5_copyFrom_42 rfl ?_
  have hgy39 := up_n egy34 hgy26 (by omega)
  have hgy40 := up_n egy37 hgy39 (by omega)
  refine z_get (v := .ref (ad (b2 + 2))) C (by omega) hay8 hgy40 rfl inA_X5 4 (by decide) q_100 rfl rfl dX5_copyFrom_43 ?_
  refine z_iconst (z := 0) C dX5_copyFrom_46 rfl ?_
  refine z_aload_n C 0 dX5_copyFrom_47 rfl ?_
  have hgy41 := up_n egy34 hgy25 (ne_o (i := b) (c := 0) (d := 1) rfl)
  have hgy42 := up_n egy37 hgy41 (ne_o (i := b) (c := 0) (d := 1) rfl)
  refine z_get (v := .ref (ad (b + 2))) C (by omega) hay1 hgy42 rfl inA_X5 4 (by decide) q_100 rfl rfl dX5_copyFrom_48 ?_
  refine z_iconst (z := 0) C dX5_copyFrom_51 rfl ?_
  refine z_aload_n C 0 dX5_copyFrom_52 rfl ?_
  refine z_get (v := .ref (ad (b + 2))) C (by omega) hay1 hgy42 rfl inA_X5 4 (by decide) q_100 rfl rfl dX5_copyFrom_53 ?_
  have hgy43 := up_n egy16 hb.2.2.1 (ne_o (i := b) (c := 2) (d := 0) rfl)
  have hgy44 := up_n egy20 hgy43 (ne_o (i := b) (c := 2) (d := 0) rfl)
  have hgy45 := up_n egy24 hgy44 (ne_o (i := b) (c := 2) (d := 0) rfl)
  have hgy46 := up_n egy34 hgy45 (ne_o (i := b) (c := 2) (d := 1) rfl)
  have hgy47 := up_n egy37 hgy46 (ne_o (i := b) (c := 2) (d := 1) rfl)
  refine z_alen (z := 4) C (by omega) hay3 hgy47 1 rfl rfl dX5_copyFrom_56 ?_
  have hgy48 := up_n egy16 hb2.2.2.1 (by omega)
  have hgy49 := up_n egy20 hgy48 (by omega)
  have hgy50 := up_n egy24 hgy49 (by omega)
  have hgy51 := up_n egy34 hgy50 (by omega)
  have hgy52 := up_n egy37 hgy51 (by omega)
  refine z_copyI C q_733 q_430 q_429 q_21 (by omega) (by omega) hay10 hay3 hgy52 hgy47 0 0 4 rfl rfl rfl (by decide) (by decide) (by decide) (by decide) (Nat.le_of_ble_eq_true rfl) dX5_copyFrom_57 (fun gy53 egy54 => ?_)
  have hgy55 := up_s egy54
  refine z_ext (r' := op2) (by omega) hgy55 (fun j hj => cZ_all hj) (fun gy56 egy57 => ?_)
  have hgy58 := up_s egy57
  refine z_aload_n C 1 dX5_copyFrom_60 rfl ?_
  have hgy59 := up_n egy54 hgy40 (by omega)
  have hgy60 := up_n egy57 hgy59 (by omega)
  refine z_get (v := .ref (ad (b2 + 3))) C (by omega) hay8 hgy60 rfl inA_X5 5 (by decide) q_104 rfl rfl dX5_copyFrom_61 ?_
  refine z_iconst (z := 0) C dX5_copyFrom_64 rfl ?_
  refine z_aload_n C 0 dX5_copyFrom_65 rfl ?_
  have hgy61 := up_n egy54 hgy42 (ne_o (i := b) (c := 0) (d := 2) rfl)
  have hgy62 := up_n egy57 hgy61 (ne_o (i := b) (c := 0) (d := 2) rfl)
  refine z_get (v := .ref (ad (b + 3))) C (by omega) hay1 hgy62 rfl inA_X5 5 (by decide) q_104 rfl rfl dX5_copyFrom_66 ?_
  refine z_iconst (z := 0) C dX5_copyFrom_69 rfl ?_
  refine z_aload_n C 0 dX5_copyFrom_70 rfl ?_
  refine z_get (v := .ref (ad (b + 3))) C (by omega) hay1 hgy62 rfl inA_X5 5 (by decide) q_104 rfl rfl dX5_copyFrom_71 ?_
  have hgy63 := up_n egy16 hb.2.2.2.1 (ne_o (i := b) (c := 3) (d := 0) rfl)
  have hgy64 := up_n egy20 hgy63 (ne_o (i := b) (c := 3) (d := 0) rfl)
  have hgy65 := up_n egy24 hgy64 (ne_o (i := b) (c := 3) (d := 0) rfl)
  have hgy66 := up_n egy34 hgy65 (ne_o (i := b) (c := 3) (d := 1) rfl)
  have hgy67 := up_n egy37 hgy66 (ne_o (i := b) (c := 3) (d := 1) rfl)
  have hgy68 := up_n egy54 hgy67 (ne_o (i := b) (c := 3) (d := 2) rfl)
  have hgy69 := up_n egy57 hgy68 (ne_o (i := b) (c := 3) (d := 2) rfl)
  refine z_alen (z := 24) C (by omega) hay4 hgy69 1 rfl rfl dX5_copyFrom_74 ?_
  have hgy70 := up_n egy16 hb2.2.2.2.1 (by omega)
  have hgy71 := up_n egy20 hgy70 (by omega)
  have hgy72 := up_n egy24 hgy71 (by omega)
  have hgy73 := up_n egy34 hgy72 (by omega)
  have hgy74 := up_n egy37 hgy73 (by omega)
  have hgy75 := up_n egy54 hgy74 (by omega)
  have hgy76 := up_n egy57 hgy75 (by omega)
  refine z_copyI C q_733 q_430 q_429 q_21 (by omega) (by omega) hay11 hay4 hgy76 hgy69 0 0 24 rfl rfl rfl (by decide) (by decide) (by decide) (by decide) (Nat.le_of_ble_eq_true rfl) dX5_copyFrom_75 (fun gy77 egy78 => ?_)
  have hgy79 := up_s egy78
  refine z_ext (r' := ai2) (by omega) hgy79 (fun j hj => cZ_all hj) (fun gy80 egy81 => ?_)
  have hgy82 := up_s egy81
  refine z_aload_n C 1 dX5_copyFrom_78 rfl ?_
  have hgy83 := up_n egy78 hgy60 (by omega)
  have hgy84 := up_n egy81 hgy83 (by omega)
  refine z_get (v := .ref (ad (b2 + 4))) C (by omega) hay8 hgy84 rfl inA_X5 6 (by decide) q_107 rfl rfl dX5_copyFrom_79 ?_
  refine z_iconst (z := 0) C dX5_copyFrom_82 rfl ?_
  refine z_aload_n C 0 dX5_copyFrom_83 rfl ?_
  have hgy85 := up_n egy78 hgy62 (ne_o (i := b) (c := 0) (d := 3) rfl)
  have hgy86 := up_n egy81 hgy85 (ne_o (i := b) (c := 0) (d := 3) rfl)
  refine z_get (v := .ref (ad (b + 4))) C (by omega) hay1 hgy86 rfl inA_X5 6 (by decide) q_107 rfl rfl dX5_copyFrom_84 ?_
  refine z_iconst (z := 0) C dX5_copyFrom_87 rfl ?_
  refine z_aload_n C 0 dX5_copyFrom_88 rfl ?_
  refine z_get (v := .ref (ad (b + 4))) C (by omega) hay1 hgy86 rfl inA_X5 6 (by decide) q_107 rfl rfl dX5_copyFrom_89 ?_
  have hgy87 := up_n egy16 hb.2.2.2.2.1 (ne_o (i := b) (c := 4) (d := 0) rfl)
  have hgy88 := up_n egy20 hgy87 (ne_o (i := b) (c := 4) (d := 0) rfl)
  have hgy89 := up_n egy24 hgy88 (ne_o (i := b) (c := 4) (d := 0) rfl)
  have hgy90 := up_n egy34 hgy89 (ne_o (i := b) (c := 4) (d := 1) rfl)
  have hgy91 := up_n egy37 hgy90 (ne_o (i := b) (c := 4) (d := 1) rfl)
  have hgy92 := up_n egy54 hgy91 (ne_o (i := b) (c := 4) (d := 2) rfl)
  have hgy93 := up_n egy57 hgy92 (ne_o (i := b) (c := 4) (d := 2) rfl)
  have hgy94 := up_n egy78 hgy93 (ne_o (i := b) (c := 4) (d := 3) rfl)
  have hgy95 := up_n egy81 hgy94 (ne_o (i := b) (c := 4) (d := 3) rfl)
  refine z_alen (z := 24) C (by omega) hay5 hgy95 1 rfl rfl dX5_copyFrom_92 ?_
  have hgy96 := up_n egy16 hb2.2.2.2.2.1 (by omega)
  have hgy97 := up_n egy20 hgy96 (by omega)
  have hgy98 := up_n egy24 hgy97 (by omega)
  have hgy99 := up_n egy34 hgy98 (by omega)
  have hgy100 := up_n egy37 hgy99 (by omega)
  have hgy101 := up_n egy54 hgy100 (by omega)
  have hgy102 := up_n egy57 hgy101 (by omega)
  have hgy103 := up_n egy78 hgy102 (by omega)
  have hgy104 := up_n egy81 hgy103 (by omega)
  refine z_copyI C q_733 q_430 q_429 q_21 (by omega) (by omega) hay12 hay5 hgy104 hgy95 0 0 24 rfl rfl rfl (by decide) (by decide) (by decide) (by decide) (Nat.le_of_ble_eq_true rfl) dX5_copyFrom_93 (fun gy105 egy106 => ?_)
  have hgy107 := up_s egy106
  refine z_ext (r' := fa2) (by omega) hgy107 (fun j hj => cZ_all hj) (fun gy108 egy109 => ?_)
  have hgy110 := up_s egy109
  refine z_aload_n C 1 dX5_copyFrom_96 rfl ?_
  have hgy111 := up_n egy106 hgy84 (by omega)
  have hgy112 := up_n egy109 hgy111 (by omega)
  refine z_get (v := .ref (ad (b2 + 5))) C (by omega) hay8 hgy112 rfl inA_X5 7 (by decide) q_110 rfl rfl dX5_copyFrom_97 ?_
  refine z_iconst (z := 0) C dX5_copyFrom_100 rfl ?_
  refine z_aload_n C 0 dX5_copyFrom_101 rfl ?_
  have hgy113 := up_n egy106 hgy86 (ne_o (i := b) (c := 0) (d := 4) rfl)
  have hgy114 := up_n egy109 hgy113 (ne_o (i := b) (c := 0) (d := 4) rfl)
  refine z_get (v := .ref (ad (b + 5))) C (by omega) hay1 hgy114 rfl inA_X5 7 (by decide) q_110 rfl rfl dX5_copyFrom_102 ?_
  refine z_iconst (z := 0) C dX5_copyFrom_105 rfl ?_
  refine z_aload_n C 0 dX5_copyFrom_106 rfl ?_
  refine z_get (v := .ref (ad (b + 5))) C (by omega) hay1 hgy114 rfl inA_X5 7 (by decide) q_110 rfl rfl dX5_copyFrom_107 ?_
  have hgy115 := up_n egy16 hb.2.2.2.2.2.1 (ne_o (i := b) (c := 5) (d := 0) rfl)
  have hgy116 := up_n egy20 hgy115 (ne_o (i := b) (c := 5) (d := 0) rfl)
  have hgy117 := up_n egy24 hgy116 (ne_o (i := b) (c := 5) (d := 0) rfl)
  have hgy118 := up_n egy34 hgy117 (ne_o (i := b) (c := 5) (d := 1) rfl)
  have hgy119 := up_n egy37 hgy118 (ne_o (i := b) (c := 5) (d := 1) rfl)
  have hgy120 := up_n egy54 hgy119 (ne_o (i := b) (c := 5) (d := 2) rfl)
  have hgy121 := up_n egy57 hgy120 (ne_o (i := b) (c := 5) (d := 2) rfl)
  have hgy122 := up_n egy78 hgy121 (ne_o (i := b) (c := 5) (d := 3) rfl)
  have hgy123 := up_n egy81 hgy122 (ne_o (i := b) (c := 5) (d := 3) rfl)
  have hgy124 := up_n egy106 hgy123 (ne_o (i := b) (c := 5) (d := 4) rfl)
  have hgy125 := up_n egy109 hgy124 (ne_o (i := b) (c := 5) (d := 4) rfl)
  refine z_alen (z := 24) C (by omega) hay6 hgy125 1 rfl rfl dX5_copyFrom_110 ?_
  have hgy126 := up_n egy16 hb2.2.2.2.2.2.1 (by omega)
  have hgy127 := up_n egy20 hgy126 (by omega)
  have hgy128 := up_n egy24 hgy127 (by omega)
  have hgy129 := up_n egy34 hgy128 (by omega)
  have hgy130 := up_n egy37 hgy129 (by omega)
  have hgy131 := up_n egy54 hgy130 (by omega)
  have hgy132 := up_n egy57 hgy131 (by omega)
  have hgy133 := up_n egy78 hgy132 (by omega)
  have hgy134 := up_n egy81 hgy133 (by omega)
  have hgy135 := up_n egy106 hgy134 (by omega)
  have hgy136 := up_n egy109 hgy135 (by omega)
  refine z_copyI C q_733 q_430 q_429 q_21 (by omega) (by omega) hay13 hay6 hgy136 hgy125 0 0 24 rfl rfl rfl (by decide) (by decide) (by decide) (by decide) (Nat.le_of_ble_eq_true rfl) dX5_copyFrom_111 (fun gy137 egy138 => ?_)
  have hgy139 := up_s egy138
  refine z_ext (r' := mu2) (by omega) hgy139 (fun j hj => cZ_all hj) (fun gy140 egy141 => ?_)
  have hgy142 := up_s egy141
  refine z_aload_n C 1 dX5_copyFrom_114 rfl ?_
  have hgy143 := up_n egy138 hgy112 (by omega)
  have hgy144 := up_n egy141 hgy143 (by omega)
  refine z_get (v := .ref (ad (b2 + 6))) C (by omega) hay8 hgy144 rfl inA_X5 8 (by decide) q_113 rfl rfl dX5_copyFrom_115 ?_
  refine z_iconst (z := 0) C dX5_copyFrom_118 rfl ?_
  refine z_aload_n C 0 dX5_copyFrom_119 rfl ?_
  have hgy145 := up_n egy138 hgy114 (ne_o (i := b) (c := 0) (d := 5) rfl)
  have hgy146 := up_n egy141 hgy145 (ne_o (i := b) (c := 0) (d := 5) rfl)
  refine z_get (v := .ref (ad (b + 6))) C (by omega) hay1 hgy146 rfl inA_X5 8 (by decide) q_113 rfl rfl dX5_copyFrom_120 ?_
  refine z_iconst (z := 0) C dX5_copyFrom_123 rfl ?_
  refine z_aload_n C 0 dX5_copyFrom_124 rfl ?_
  refine z_get (v := .ref (ad (b + 6))) C (by omega) hay1 hgy146 rfl inA_X5 8 (by decide) q_113 rfl rfl dX5_copyFrom_125 ?_
  have hgy147 := up_n egy16 hb.2.2.2.2.2.2 (ne_o (i := b) (c := 6) (d := 0) rfl)
  have hgy148 := up_n egy20 hgy147 (ne_o (i := b) (c := 6) (d := 0) rfl)
  have hgy149 := up_n egy24 hgy148 (ne_o (i := b) (c := 6) (d := 0) rfl)
  have hgy150 := up_n egy34 hgy149 (ne_o (i := b) (c := 6) (d := 1) rfl)
  have hgy151 := up_n egy37 hgy150 (ne_o (i := b) (c := 6) (d := 1) rfl)
  have hgy152 := up_n egy54 hgy151 (ne_o (i := b) (c := 6) (d := 2) rfl)
  have hgy153 := up_n egy57 hgy152 (ne_o (i := b) (c := 6) (d := 2) rfl)
  have hgy154 := up_n egy78 hgy153 (ne_o (i := b) (c := 6) (d := 3) rfl)
  have hgy155 := up_n egy81 hgy154 (ne_o (i := b) (c := 6) (d := 3) rfl)
  have hgy156 := up_n egy106 hgy155 (ne_o (i := b) (c := 6) (d := 4) rfl)
  have hgy157 := up_n egy109 hgy156 (ne_o (i := b) (c := 6) (d := 4) rfl)
  have hgy158 := up_n egy138 hgy157 (ne_o (i := b) (c := 6) (d := 5) rfl)
  have hgy159 := up_n egy141 hgy158 (ne_o (i := b) (c := 6) (d := 5) rfl)
  refine z_alen (z := 15) C (by omega) hay7 hgy159 1 rfl rfl dX5_copyFrom_128 ?_
  have hgy160 := up_n egy16 hb2.2.2.2.2.2.2 (by omega)
  have hgy161 := up_n egy20 hgy160 (by omega)
  have hgy162 := up_n egy24 hgy161 (by omega)
  have hgy163 := up_n egy34 hgy162 (by omega)
  have hgy164 := up_n egy37 hgy163 (by omega)
  have hgy165 := up_n egy54 hgy164 (by omega)
  have hgy166 := up_n egy57 hgy165 (by omega)
  have hgy167 := up_n egy78 hgy166 (by omega)
  have hgy168 := up_n egy81 hgy167 (by omega)
  have hgy169 := up_n egy106 hgy168 (by omega)
  have hgy170 := up_n egy109 hgy169 (by omega)
  have hgy171 := up_n egy138 hgy170 (by omega)
  have hgy172 := up_n egy141 hgy171 (by omega)
  refine z_copyI C q_733 q_430 q_429 q_21 (by omega) (by omega) hay14 hay7 hgy172 hgy159 0 0 15 rfl rfl rfl (by decide) (by decide) (by decide) (by decide) (Nat.le_of_ble_eq_true rfl) dX5_copyFrom_129 (fun gy173 egy174 => ?_)
  have hgy175 := up_s egy174
  refine z_ext (r' := tb2) (by omega) hgy175 (fun j hj => cZ_all hj) (fun gy176 egy177 => ?_)
  have hgy178 := up_s egy177
  have hgy179 := up_n egy174 hgy146 (ne_o (i := b) (c := 0) (d := 6) rfl)
  have hgy180 := up_n egy177 hgy179 (ne_o (i := b) (c := 0) (d := 6) rfl)
  have hgy181 := up_n egy54 hgy38 (ne_o (i := b) (c := 1) (d := 2) rfl)
  have hgy182 := up_n egy57 hgy181 (ne_o (i := b) (c := 1) (d := 2) rfl)
  have hgy183 := up_n egy78 hgy182 (ne_o (i := b) (c := 1) (d := 3) rfl)
  have hgy184 := up_n egy81 hgy183 (ne_o (i := b) (c := 1) (d := 3) rfl)
  have hgy185 := up_n egy106 hgy184 (ne_o (i := b) (c := 1) (d := 4) rfl)
  have hgy186 := up_n egy109 hgy185 (ne_o (i := b) (c := 1) (d := 4) rfl)
  have hgy187 := up_n egy138 hgy186 (ne_o (i := b) (c := 1) (d := 5) rfl)
  have hgy188 := up_n egy141 hgy187 (ne_o (i := b) (c := 1) (d := 5) rfl)
  have hgy189 := up_n egy174 hgy188 (ne_o (i := b) (c := 1) (d := 6) rfl)
  have hgy190 := up_n egy177 hgy189 (ne_o (i := b) (c := 1) (d := 6) rfl)
  have hgy191 := up_n egy78 hgy58 (ne_o (i := b) (c := 2) (d := 3) rfl)
  have hgy192 := up_n egy81 hgy191 (ne_o (i := b) (c := 2) (d := 3) rfl)
  have hgy193 := up_n egy106 hgy192 (ne_o (i := b) (c := 2) (d := 4) rfl)
  have hgy194 := up_n egy109 hgy193 (ne_o (i := b) (c := 2) (d := 4) rfl)
  have hgy195 := up_n egy138 hgy194 (ne_o (i := b) (c := 2) (d := 5) rfl)
  have hgy196 := up_n egy141 hgy195 (ne_o (i := b) (c := 2) (d := 5) rfl)
  have hgy197 := up_n egy174 hgy196 (ne_o (i := b) (c := 2) (d := 6) rfl)
  have hgy198 := up_n egy177 hgy197 (ne_o (i := b) (c := 2) (d := 6) rfl)
  have hgy199 := up_n egy106 hgy82 (ne_o (i := b) (c := 3) (d := 4) rfl)
  have hgy200 := up_n egy109 hgy199 (ne_o (i := b) (c := 3) (d := 4) rfl)
  have hgy201 := up_n egy138 hgy200 (ne_o (i := b) (c := 3) (d := 5) rfl)
  have hgy202 := up_n egy141 hgy201 (ne_o (i := b) (c := 3) (d := 5) rfl)
  have hgy203 := up_n egy174 hgy202 (ne_o (i := b) (c := 3) (d := 6) rfl)
  have hgy204 := up_n egy177 hgy203 (ne_o (i := b) (c := 3) (d := 6) rfl)
  have hgy205 := up_n egy138 hgy110 (ne_o (i := b) (c := 4) (d := 5) rfl)
  have hgy206 := up_n egy141 hgy205 (ne_o (i := b) (c := 4) (d := 5) rfl)
  have hgy207 := up_n egy174 hgy206 (ne_o (i := b) (c := 4) (d := 6) rfl)
  have hgy208 := up_n egy177 hgy207 (ne_o (i := b) (c := 4) (d := 6) rfl)
  have hgy209 := up_n egy174 hgy142 (ne_o (i := b) (c := 5) (d := 6) rfl)
  have hgy210 := up_n egy177 hgy209 (ne_o (i := b) (c := 5) (d := 6) rfl)
  exact z_vret C hr hlk dX5_copyFrom_132 (by decide) (by decide) ⟨rfl, rfl, rfl, ⟨hgy180, hgy190, hgy198, hgy204, hgy208, hgy210, hgy178⟩, fun j j1 => by rw [egy177, va_up_ne _ _ (by omega)]; rw [egy174, va_up_ne _ _ (by omega)]; rw [egy141, va_up_ne _ _ (by omega)]; rw [egy138, va_up_ne _ _ (by omega)]; rw [egy109, va_up_ne _ _ (by omega)]; rw [egy106, va_up_ne _ _ (by omega)]; rw [egy81, va_up_ne _ _ (by omega)]; rw [egy78, va_up_ne _ _ (by omega)]; rw [egy57, va_up_ne _ _ (by omega)]; rw [egy54, va_up_ne _ _ (by omega)]; rw [egy37, va_up_ne _ _ (by omega)]; rw [egy34, va_up_ne _ _ (by omega)]; rw [egy24, va_up_ne _ _ (by omega)]; rw [egy20, va_up_ne _ _ (by omega)]; rw [egy16, va_up_ne _ _ (by omega)]⟩

set_option maxRecDepth 100000 in
set_option maxHeartbeats 4000000 in
theorem c_X5_warm (l : Launch) (D : va_G) (A : Nat → Prop) (cs : Nat → ClassId) (tt : Nat) (N : Nat) (ad : Nat → Nat) (g : Nat → va_E) (b : Nat) (hNb : b + 7 ≤ N) (sl ho ua : Int) (st op ai fa mu tb : Nat → Int) (hb : isPlan cs ad g b sl ho ua st op ai fa mu tb) (hsl : 0 ≤ sl ∧ sl ≤ 4) (hho : 0 ≤ ho ∧ ho ≤ 24) (z : Int) (hz : -2147483648 ≤ z ∧ z ≤ 2147483647) : zM l yX5_warm cX5_warm 3 none ({ frames := 2, cells := 0, slots := 0, locals := 120 } : Room) D A cs tt N ad g [.ref (ad b), .int (zI (z))] (rV0 N ad fun g' => okPlan cs ad g' b ∧ ∀ j, j < b ∨ b + 7 ≤ j → g' j = g j) := by
  have hay1 : zAt ad (b) (ad b) := rfl
  have hay2 : zAt ad (b + 1) (ad (b + 1)) := rfl
  have hay3 : zAt ad (b + 2) (ad (b + 2)) := rfl
  have hay4 : zAt ad (b + 3) (ad (b + 3)) := rfl
  have hay5 : zAt ad (b + 4) (ad (b + 4)) := rfl
  have hay6 : zAt ad (b + 5) (ad (b + 5)) := rfl
  have hay7 : zAt ad (b + 6) (ad (b + 6)) := rfl
  refine z_of (by decide) (Nat.le_of_ble_eq_true rfl) ?_
  intro p e s m below meth c C hr hlk hnm
  refine z_lv (lv' := [(0, .ref (ad b)), (1, .int (zI (z)))]) [0, 1] rfl ?_
  have lp : ∀ (n9 : Nat) (i : Int) (u9 : Int) (a9 : Nat → Int) (g1 : Nat → va_E), (24 - i).toNat = n9 → (isPlan cs ad g1 b sl ho u9 st op a9 fa mu tb) → (∀ j, j < b ∨ b + 7 ≤ j → g1 j = g j) → (0 ≤ i ∧ i ≤ 24) → zV p l e ({ frames := 2, cells := 0, slots := 0, locals := 120 } : Room) s m ([.ref (ad b), .int (zI (z))] : List Value).toArray below meth c (MQ below (zPost D A (rV0 N ad fun g' => okPlan cs ad g' b ∧ ∀ j, j < b ∨ b + 7 ≤ j → g' j = g j)) ([.ref (ad b), .int (zI (z))] : List Value).toArray s ({ frames := 2, cells := 0, slots := 0, locals := 120 } : Room).cells ({ frames := 2, cells := 0, slots := 0, locals := 120 } : Room).slots A) D A 3 (N) ad g1 (0) (0) 17 [(2, .int (zI (i))), (0, .ref (ad b)), (1, .int (zI (z)))] [] := by
    intro n9
    induction n9 using Nat.strongRecOn with
    | ind n9 ih =>
      intro i u9 a9 g1 hm9 f1 f3 f4
      have hay8 : zAt ad (b) (ad b) := rfl
      have hay9 : zAt ad (b + 1) (ad (b + 1)) := rfl
      have hay10 : zAt ad (b + 2) (ad (b + 2)) := rfl
      have hay11 : zAt ad (b + 3) (ad (b + 3)) := rfl
      have hay12 : zAt ad (b + 4) (ad (b + 4)) := rfl
      have hay13 : zAt ad (b + 5) (ad (b + 5)) := rfl
      have hay14 : zAt ad (b + 6) (ad (b + 6)) := rfl
      refine z_iload_n C 0 dX5_warm_17 rfl ?_
      refine z_aload_n C 1 dX5_warm_18 rfl ?_
      refine z_get (v := .int (zI (ho))) C (by omega) hay8 f1.1 rfl inA_X5 1 (by decide) q_92 rfl rfl dX5_warm_19 ?_
      refine z_icmp_ge (tgt := 50) C dX5_warm_22 (by decide) (by omega) (by omega) (fun hby15 => ?_) (fun hby15 => ?_)
      · exact z_vret C hr hlk dX5_warm_50 (by decide) (by decide) ⟨rfl, rfl, rfl, ⟨_, _, _, _, _, _, _, _, _, hsl, hho, ⟨f1.1, f1.2.1, f1.2.2.1, f1.2.2.2.1, f1.2.2.2.2.1, f1.2.2.2.2.2.1, f1.2.2.2.2.2.2⟩⟩, fun j j1 => by exact f3 j j1⟩
      · refine z_aload_n C 1 dX5_warm_25 rfl ?_
        refine z_get (v := .ref (ad (b + 3))) C (by omega) hay8 f1.1 rfl inA_X5 5 (by decide) q_104 rfl rfl dX5_warm_26 ?_
        refine z_iload_n C 0 dX5_warm_29 rfl ?_
        refine z_aload_n C 1 dX5_warm_30 rfl ?_
        refine z_get (v := .ref (ad (b + 3))) C (by omega) hay8 f1.1 rfl inA_X5 5 (by decide) q_104 rfl rfl dX5_warm_31 ?_
        refine z_iload_n C 0 dX5_warm_34 rfl ?_
        refine z_iald C (by omega) hay11 f1.2.2.2.1 ((i).toNat) (by omega) (by omega) (by decide) dX5_warm_35 ?_
        refine z_iload_n C 2 dX5_warm_36 rfl ?_
        refine z_iadd C dX5_warm_37 ?_
        refine z_bipush (z := 100) C dX5_warm_38 (by decide) ?_
        obtain ⟨xy16, exy17, hxy18⟩ := zI_of (zI ((a9 ((i).toNat)) + z))
        rw [exy17]
        refine z_mmin C q_1292 q_473 q_20 q_474 (by omega) (by omega) (by decide) (Nat.le_of_ble_eq_true rfl) (by decide) (by decide) dX5_warm_40 ?_
        obtain ⟨xy19, exy20, hxy21⟩ := mm_min (xy16) (100)
        rw [exy20]
        refine z_iast C (by omega) hay11 f1.2.2.2.1 ((i).toNat) (by omega) (by omega) (by decide) dX5_warm_43 (fun gy22 egy23 => ?_)
        have hgy24 := up_s egy23
        refine z_iinc (z := i + 1) (lv' := [(2, .int (zI (i + 1))), (0, .ref (ad b)), (1, .int (zI (z)))]) (j := 0) C dX5_warm_44 rfl rfl (by decide) rfl ?_
        refine z_goto (tgt := 17) C dX5_warm_47 (by decide) ?_
        refine z_lv (lv' := [(2, .int (zI (i + 1))), (0, .ref (ad b)), (1, .int (zI (z)))]) [0, 1, 2] rfl ?_
        have hgy25 := up_n egy23 f1.1 (ne_o (i := b) (c := 0) (d := 3) rfl)
        have hgy26 := up_n egy23 f1.2.1 (ne_o (i := b) (c := 1) (d := 3) rfl)
        have hgy27 := up_n egy23 f1.2.2.1 (ne_o (i := b) (c := 2) (d := 3) rfl)
        have hgy28 := up_n egy23 f1.2.2.2.2.1 (ne_o (i := b) (c := 4) (d := 3) rfl)
        have hgy29 := up_n egy23 f1.2.2.2.2.2.1 (ne_o (i := b) (c := 5) (d := 3) rfl)
        have hgy30 := up_n egy23 f1.2.2.2.2.2.2 (ne_o (i := b) (c := 6) (d := 3) rfl)
        exact ih _ (by omega) (i + 1) _ _ gy22 rfl ⟨hgy25, hgy26, hgy27, hgy24, hgy28, hgy29, hgy30⟩ (fun j j1 => by rw [egy23, va_up_ne _ _ (by omega)]; exact f3 j j1) (by omega)
  refine z_aload_n C 0 dX5_warm_0 rfl ?_
  refine z_aload_n C 0 dX5_warm_1 rfl ?_
  refine z_get (v := .int (zI (ua))) C (by omega) hay1 hb.1 rfl inA_X5 2 (by decide) q_95 rfl rfl dX5_warm_2 ?_
  refine z_iload_n C 1 dX5_warm_5 rfl ?_
  refine z_iadd C dX5_warm_6 ?_
  refine z_bipush (z := 100) C dX5_warm_7 (by decide) ?_
  obtain ⟨xy31, exy32, hxy33⟩ := zI_of (zI (ua + z))
  rw [exy32]
  refine z_mmin C q_1292 q_473 q_20 q_474 (by omega) (by omega) (by decide) (Nat.le_of_ble_eq_true rfl) (by decide) (by decide) dX5_warm_9 ?_
  obtain ⟨xy34, exy35, hxy36⟩ := mm_min (xy31) (100)
  rw [exy35]
  refine z_put (fs' := [.int (zI (sl)), .int (zI (ho)), .int (zI (xy34)), .ref (ad (b + 1)), .ref (ad (b + 2)), .ref (ad (b + 3)), .ref (ad (b + 4)), .ref (ad (b + 5)), .ref (ad (b + 6))]) C (by omega) hay1 hb.1 tyX5 tyX5_ok nmX5 rfl inA_X5 2 (by decide) q_95 rfl rfl rfl rfl (Nat.le_of_ble_eq_true rfl) rfl dX5_warm_12 (fun gy37 egy38 => ?_)
  have hgy39 := up_s egy38
  refine z_iconst (z := 0) C dX5_warm_15 rfl ?_
  refine z_istore_n (lv' := [(2, .int (zI (0))), (0, .ref (ad b)), (1, .int (zI (z)))]) C dX5_warm_16 rfl (by decide) rfl ?_
  refine z_lv (lv' := [(2, .int (zI (0))), (0, .ref (ad b)), (1, .int (zI (z)))]) [0, 1, 2] rfl ?_
  have hgy40 := up_n egy38 hb.2.1 (ne_o (i := b) (c := 1) (d := 0) rfl)
  have hgy41 := up_n egy38 hb.2.2.1 (ne_o (i := b) (c := 2) (d := 0) rfl)
  have hgy42 := up_n egy38 hb.2.2.2.1 (ne_o (i := b) (c := 3) (d := 0) rfl)
  have hgy43 := up_n egy38 hb.2.2.2.2.1 (ne_o (i := b) (c := 4) (d := 0) rfl)
  have hgy44 := up_n egy38 hb.2.2.2.2.2.1 (ne_o (i := b) (c := 5) (d := 0) rfl)
  have hgy45 := up_n egy38 hb.2.2.2.2.2.2 (ne_o (i := b) (c := 6) (d := 0) rfl)
  exact lp _ (0) _ _ gy37 rfl ⟨hgy39, hgy40, hgy41, hgy42, hgy43, hgy44, hgy45⟩ (fun j j1 => by rw [egy38, va_up_ne _ _ (by omega)]) (by omega)

set_option maxRecDepth 100000 in
set_option maxHeartbeats 4000000 in
theorem c_X9_isOnceUnstable (l : Launch) (D : va_G) (A : Nat → Prop) (cs : Nat → ClassId) (tt : Nat) (N : Nat) (ad : Nat → Nat) (g : Nat → va_E) (hN : 952 ≤ N) (t fp im nz kz sl ho ua : Int) (st op ai fa mu tb tp : Nat → Int) (hR : okRec cs ad g N t fp im nz kz sl ho ua st op ai fa mu tb tp) (z : Int) (hz : 0 ≤ z ∧ z ≤ 3) (z1 : Int) (hz1 : 0 ≤ z1 ∧ z1 ≤ 100) : zM l yX9_isOnceUnstable cX9_isOnceUnstable 4 (some .boolean) ({ frames := 6, cells := 0, slots := 0, locals := 360 } : Room) D A cs tt N ad g [.ref (ad 0), .int (zI (z)), .int (zI (z1))] (rI0 N ad fun r g' => (0 ≤ r ∧ r ≤ 1) ∧ okRec cs ad g' N t fp im nz kz sl ho ua st op ai fa mu tb tp ∧ oX g g') := by
  obtain ⟨ary1, bry1, cry1, dry1, ery1, fry1, gry11, hry1, ⟨acry1, iry1⟩, ⟨kcry1, jry1⟩, kry1, lry1, mry1, nry1, ory1, pry1⟩ := id hR
  have hay2 : zAt ad (0) (ad 0) := rfl
  have hay3 : zAt ad (1) (ad 1) := rfl
  have hay4 : zAt ad (2) (ad 2) := rfl
  have hay5 : zAt ad (4) (ad 4) := rfl
  have hay6 : zAt ad (11) (ad 11) := rfl
  have hay7 : zAt ad (447) (ad 447) := rfl
  have hay8 : zAt ad (883) (ad 883) := rfl
  have hay9 : zAt ad (890) (ad 890) := rfl
  have hay10 : zAt ad (900) (ad 900) := rfl
  have hay11 : zAt ad (910) (ad 910) := rfl
  have hay12 : zAt ad (917) (ad 917) := rfl
  have hay13 : zAt ad (919) (ad 919) := rfl
  have hay14 : zAt ad (4 + 1) (ad (4 + 1)) := rfl
  have hay15 : zAt ad (4 + 2) (ad (4 + 2)) := rfl
  have hay16 : zAt ad (4 + 3) (ad (4 + 3)) := rfl
  have hay17 : zAt ad (4 + 4) (ad (4 + 4)) := rfl
  have hay18 : zAt ad (4 + 5) (ad (4 + 5)) := rfl
  have hay19 : zAt ad (4 + 6) (ad (4 + 6)) := rfl
  obtain ⟨thcy20, zhcy20, ohcy20, rhcy20, hzhcy20, hthcy20, hwhcy20⟩ := id lry1
  obtain ⟨thcy21, zhcy21, ohcy21, rhcy21, hzhcy21, hthcy21, hwhcy21⟩ := id mry1
  obtain ⟨asy22, bsy22, csy22, dsy22, esy22, ⟨ptsy22, fsy22, gsy221⟩, hsy22, ⟨nusy22, nvsy22, nwsy22, isy22, jsy22, ksy22, lsy22, msy22, nsy22⟩, rfsy22, osy22⟩ := id iry1
  have hay23 : zAt ad (11 + 1) (ad (11 + 1)) := rfl
  have hay24 : zAt ad (11 + 11) (ad (11 + 11)) := rfl
  have hay25 : zAt ad (11 + 12) (ad (11 + 12)) := rfl
  have hay26 : zAt ad (11 + 13) (ad (11 + 13)) := rfl
  have hay27 : zAt ad (11 + 13 + 1) (ad (11 + 13 + 1)) := rfl
  have hay28 : zAt ad (11 + 13 + 2) (ad (11 + 13 + 2)) := rfl
  have hay29 : zAt ad (11 + 13 + 3) (ad (11 + 13 + 3)) := rfl
  have hay30 : zAt ad (11 + 17) (ad (11 + 17)) := rfl
  obtain ⟨uy31t, uy31z, uy31o, uy31r, uy31z4, uy31t5, uy311, ⟨uy31u, uy312, uy313⟩, uy314⟩ := id csy22
  have hay32 : zAt ad (11 + 1) (ad (11 + 1)) := rfl
  have hay33 : zAt ad (11 + 1 + 1) (ad (11 + 1 + 1)) := rfl
  obtain ⟨sloy34, hooy34, uaoy34, stoy34, opoy34, aioy34, faoy34, muoy34, tboy34, hsloy34, hhooy34, hpoy34⟩ := id kry1
  have hay35 : zAt ad (883 + 1) (ad (883 + 1)) := rfl
  have hay36 : zAt ad (883 + 2) (ad (883 + 2)) := rfl
  have hay37 : zAt ad (883 + 3) (ad (883 + 3)) := rfl
  have hay38 : zAt ad (883 + 4) (ad (883 + 4)) := rfl
  have hay39 : zAt ad (883 + 5) (ad (883 + 5)) := rfl
  have hay40 : zAt ad (883 + 6) (ad (883 + 6)) := rfl
  refine z_of (by decide) (Nat.le_of_ble_eq_true rfl) ?_
  intro p e s m below meth c C hr hlk hnm
  refine z_lv (lv' := [(0, .ref (ad 0)), (1, .int (zI (z))), (2, .int (zI (z1)))]) [0, 1, 2] rfl ?_
  refine z_aload_n C 0 dX9_isOnceUnstable_0 rfl ?_
  refine z_get (v := .ref (ad 890)) C (lt_K hN (rfl : Nat.blt (0) 952 = true)) hay2 ary1 rfl inA_X9 9 (by decide) q_358 rfl rfl dX9_isOnceUnstable_1 ?_
  refine z_aload_n C 0 dX9_isOnceUnstable_4 rfl ?_
  refine z_get (v := .ref (ad 11)) C (lt_K hN (rfl : Nat.blt (0) 952 = true)) hay2 ary1 rfl inA_X9 5 (by decide) q_354 rfl rfl dX9_isOnceUnstable_5 ?_
  refine z_get (v := .ref (ad (11 + 1))) C (lt_K hN (rfl : Nat.blt (11) 952 = true)) hay6 iry1.1 rfl inA_X6 0 (by decide) q_258 rfl rfl dX9_isOnceUnstable_8 ?_
  refine z_cV (As := [.ref (ad (11 + 1))]) (rest := []) (ci := 10) C (c_X8_copyFrom l D A cs tt N ad _ (890) (by omega) lry1 (11 + 1) (by omega) csy22 (by omega)) (lt_K hN (rfl : Nat.blt (890) 952 = true)) hay9 hwhcy20.1 rfl rfl mv_yX8_copyFrom q_1228 hd_yX8_copyFrom (by decide) (Nat.le_of_ble_eq_true rfl) (by decide) dX9_isOnceUnstable_11 rfl (kV0 fun gvy41 hvy41 => ?_)
  obtain ⟨⟨tvy41, zvy41, ovy41, rvy41, hzvy41, htvy41, -, hwvy41⟩, hfvy41⟩ := hvy41
  have hoky42 : okWorld cs ad gvy41 (890) := ⟨_, _, _, _, hzvy41, htvy41, hwvy41⟩
  obtain ⟨thcy43, zhcy43, ohcy43, rhcy43, hzhcy43, hthcy43, hwhcy43⟩ := id hoky42
  refine z_iconst (z := 0) C dX9_isOnceUnstable_14 rfl ?_
  refine z_istore_n (lv' := [(3, .int (zI (0))), (0, .ref (ad 0)), (1, .int (zI (z))), (2, .int (zI (z1)))]) C dX9_isOnceUnstable_15 rfl (by decide) rfl ?_
  have lp16 : ∀ (n9 : Nat) (i : Int) (g1 : Nat → va_E), (z1 - i).toNat = n9 → (okRec cs ad g1 N t fp im nz kz sl ho ua st op ai fa mu tb tp) → (oX g g1) → (0 ≤ i ∧ i ≤ z1) → zV p l e ({ frames := 6, cells := 0, slots := 0, locals := 360 } : Room) s m ([.ref (ad 0), .int (zI (z)), .int (zI (z1))] : List Value).toArray below meth c (MQ below (zPost D A (rI0 N ad fun r g' => (0 ≤ r ∧ r ≤ 1) ∧ okRec cs ad g' N t fp im nz kz sl ho ua st op ai fa mu tb tp ∧ oX g g')) ([.ref (ad 0), .int (zI (z)), .int (zI (z1))] : List Value).toArray s ({ frames := 6, cells := 0, slots := 0, locals := 360 } : Room).cells ({ frames := 6, cells := 0, slots := 0, locals := 360 } : Room).slots A) D A 4 (N) ad g1 (0) (0) 16 [(3, .int (zI (i))), (0, .ref (ad 0)), (1, .int (zI (z))), (2, .int (zI (z1)))] [] := by
    intro n9
    induction n9 using Nat.strongRecOn with
    | ind n9 ih_lp16 =>
      intro i g1 hm9 f1 f2 hv16_0
      obtain ⟨ary44, bry44, cry44, dry44, ery44, fry44, gry441, hry44, ⟨acry44, iry44⟩, ⟨kcry44, jry44⟩, kry44, lry44, mry44, nry44, ory44, pry44⟩ := id f1
      have hay45 : zAt ad (0) (ad 0) := rfl
      have hay46 : zAt ad (1) (ad 1) := rfl
      have hay47 : zAt ad (2) (ad 2) := rfl
      have hay48 : zAt ad (4) (ad 4) := rfl
      have hay49 : zAt ad (11) (ad 11) := rfl
      have hay50 : zAt ad (447) (ad 447) := rfl
      have hay51 : zAt ad (883) (ad 883) := rfl
      have hay52 : zAt ad (890) (ad 890) := rfl
      have hay53 : zAt ad (900) (ad 900) := rfl
      have hay54 : zAt ad (910) (ad 910) := rfl
      have hay55 : zAt ad (917) (ad 917) := rfl
      have hay56 : zAt ad (919) (ad 919) := rfl
      have hay57 : zAt ad (4 + 1) (ad (4 + 1)) := rfl
      have hay58 : zAt ad (4 + 2) (ad (4 + 2)) := rfl
      have hay59 : zAt ad (4 + 3) (ad (4 + 3)) := rfl
      have hay60 : zAt ad (4 + 4) (ad (4 + 4)) := rfl
      have hay61 : zAt ad (4 + 5) (ad (4 + 5)) := rfl
      have hay62 : zAt ad (4 + 6) (ad (4 + 6)) := rfl
      obtain ⟨thcy63, zhcy63, ohcy63, rhcy63, hzhcy63, hthcy63, hwhcy63⟩ := id lry44
      obtain ⟨thcy64, zhcy64, ohcy64, rhcy64, hzhcy64, hthcy64, hwhcy64⟩ := id mry44
      obtain ⟨asy65, bsy65, csy65, dsy65, esy65, ⟨ptsy65, fsy65, gsy651⟩, hsy65, ⟨nusy65, nvsy65, nwsy65, isy65, jsy65, ksy65, lsy65, msy65, nsy65⟩, rfsy65, osy65⟩ := id iry44
      have hay66 : zAt ad (11 + 1) (ad (11 + 1)) := rfl
      have hay67 : zAt ad (11 + 11) (ad (11 + 11)) := rfl
      have hay68 : zAt ad (11 + 12) (ad (11 + 12)) := rfl
      have hay69 : zAt ad (11 + 13) (ad (11 + 13)) := rfl
      have hay70 : zAt ad (11 + 13 + 1) (ad (11 + 13 + 1)) := rfl
      have hay71 : zAt ad (11 + 13 + 2) (ad (11 + 13 + 2)) := rfl
      have hay72 : zAt ad (11 + 13 + 3) (ad (11 + 13 + 3)) := rfl
      have hay73 : zAt ad (11 + 17) (ad (11 + 17)) := rfl
      obtain ⟨uy74t, uy74z, uy74o, uy74r, uy74z4, uy74t5, uy741, ⟨uy74u, uy742, uy743⟩, uy744⟩ := id csy65
      have hay75 : zAt ad (11 + 1) (ad (11 + 1)) := rfl
      have hay76 : zAt ad (11 + 1 + 1) (ad (11 + 1 + 1)) := rfl
      obtain ⟨sloy77, hooy77, uaoy77, stoy77, opoy77, aioy77, faoy77, muoy77, tboy77, hsloy77, hhooy77, hpoy77⟩ := id kry44
      have hay78 : zAt ad (883 + 1) (ad (883 + 1)) := rfl
      have hay79 : zAt ad (883 + 2) (ad (883 + 2)) := rfl
      have hay80 : zAt ad (883 + 3) (ad (883 + 3)) := rfl
      have hay81 : zAt ad (883 + 4) (ad (883 + 4)) := rfl
      have hay82 : zAt ad (883 + 5) (ad (883 + 5)) := rfl
      have hay83 : zAt ad (883 + 6) (ad (883 + 6)) := rfl
      refine z_iload_n C 0 dX9_isOnceUnstable_16 rfl ?_
      refine z_iload_n C 3 dX9_isOnceUnstable_17 rfl ?_
      refine z_icmp_ge (tgt := 56) C dX9_isOnceUnstable_18 (by decide) (by omega) (by omega) (fun hby84 => ?_) (fun hby84 => ?_)
      · refine z_iconst (z := 0) C dX9_isOnceUnstable_56 rfl ?_
        have hrecy85 : okRec cs ad g1 N (t) (fp) (im) (nz) (kz) (sl) (ho) (ua) (st) (op) (ai) (fa) (mu) (tb) (tp) := ⟨ary44, bry44, cry44, dry44, ery44, fry44, gry441, hry44, ⟨_, iry44⟩, ⟨_, jry44⟩, kry44, lry44, mry44, nry44, ory44, pry44⟩
        exact z_zret C hr hlk dX9_isOnceUnstable_57 (by decide) (by decide) (by decide) ⟨0, rfl, rfl, rfl, by omega, hrecy85, fun j j1 j2 => by exact f2 j j1 j2⟩
      · refine z_aload_n C 1 dX9_isOnceUnstable_21 rfl ?_
        refine z_get (v := .ref (ad 890)) C (lt_K hN (rfl : Nat.blt (0) 952 = true)) hay45 ary44 rfl inA_X9 9 (by decide) q_358 rfl rfl dX9_isOnceUnstable_22 ?_
        refine z_aload_n C 1 dX9_isOnceUnstable_25 rfl ?_
        refine z_get (v := .ref (ad 883)) C (lt_K hN (rfl : Nat.blt (0) 952 = true)) hay45 ary44 rfl inA_X9 8 (by decide) q_357 rfl rfl dX9_isOnceUnstable_26 ?_
        refine z_iconst (z := 1) C dX9_isOnceUnstable_29 rfl ?_
        refine z_iload_n C 2 dX9_isOnceUnstable_30 rfl ?_
        obtain ⟨xy86, exy87, hxy88⟩ := zI_of (zI (1) <<< (zI (z) &&& 31))
        refine z_ishl (z := xy86) C dX9_isOnceUnstable_31 exy87 ?_
        refine z_iconst (z := 1) C dX9_isOnceUnstable_32 rfl ?_
        refine z_cV (As := [.ref (ad 883), .int (zI (xy86)), .int (zI (1))]) (rest := []) (ci := 10) C (c_X8_hour l D A cs tt N ad _ (890) (by omega) lry44 (883) (by omega) _ _ _ _ _ _ _ _ _ ⟨hpoy77.1, hpoy77.2.1, hpoy77.2.2.1, hpoy77.2.2.2.1, hpoy77.2.2.2.2.1, hpoy77.2.2.2.2.2.1, hpoy77.2.2.2.2.2.2⟩ (by omega) (by omega) (by omega) (xy86) (by omega) (1) (by omega)) (lt_K hN (rfl : Nat.blt (890) 952 = true)) hay52 hwhcy63.1 rfl rfl mv_yX8_hour q_435 hd_yX8_hour (by decide) (Nat.le_of_ble_eq_true rfl) (by decide) dX9_isOnceUnstable_33 rfl (kV0 fun gvy89 hvy89 => ?_)
        obtain ⟨hkvy89, hfvy89⟩ := hvy89
        have hoky90 : okWorld cs ad gvy89 (890) := hkvy89
        obtain ⟨thcy91, zhcy91, ohcy91, rhcy91, hzhcy91, hthcy91, hwhcy91⟩ := id hoky90
        refine z_aload_n C 1 dX9_isOnceUnstable_36 rfl ?_
        refine z_aload_n C 1 dX9_isOnceUnstable_37 rfl ?_
        have hgy92 := (hfvy89 (0) (by omega)).trans ary44
        refine z_get (v := .ref (ad 890)) C (lt_K hN (rfl : Nat.blt (0) 952 = true)) hay45 hgy92 rfl inA_X9 9 (by decide) q_358 rfl rfl dX9_isOnceUnstable_38 ?_
        refine z_iload_n C 2 dX9_isOnceUnstable_41 rfl ?_
        have hgy94 := (hfvy89 (1) (by omega)).trans dry44
        have hpy95 := okState.mv (ad' := ad) (g' := gvy89) (fun j h1 h2 => by rfl) (fun j h1 h2 => by rw [hfvy89 _ (by omega)]) iry44
        have hpy96 := okRdr.mv (ad' := ad) (g' := gvy89) (fun j h1 h2 => by rfl) (fun j h1 h2 => by rw [hfvy89 _ (by omega)]) ery44
        have hpy97 := isPlan.mv (ad' := ad) (g' := gvy89) (fun j h1 h2 => by rfl) (fun j h1 h2 => by rw [hfvy89 _ (by omega)]) fry44
        have hpy98 := okState.mv (ad' := ad) (g' := gvy89) (fun j h1 h2 => by rfl) (fun j h1 h2 => by rw [hfvy89 _ (by omega)]) jry44
        have hpy99 := okPlan.mv (ad' := ad) (g' := gvy89) (fun j h1 h2 => by rfl) (fun j h1 h2 => by rw [hfvy89 _ (by omega)]) kry44
        have hpy100 := okGss.mv (ad' := ad) (g' := gvy89) (fun j h1 h2 => by rfl) (fun j h1 h2 => by rw [hfvy89 _ (by omega)]) nry44
        have hpy101 := okLike.mv (ad' := ad) (g' := gvy89) (fun j h1 h2 => by rfl) (fun j h1 h2 => by rw [hfvy89 _ (by omega)]) ory44
        have hpy102 := okBld.mv (ad' := ad) (g' := gvy89) (fun j h1 h2 => by rfl) (fun j h1 h2 => by rw [hfvy89 _ (by omega)]) pry44
        have hoky103 : okWorld cs ad gvy89 (900) := okWorld.mv (fun j j1 j2 => by rw [hfvy89 _ (by omega)]) mry44
        have hrecy104 : okRec cs ad gvy89 N (t) (fp) (im) (nz) (kz) (sl) (ho) (ua) (st) (op) (ai) (fa) (mu) (tb) (tp) := ⟨hgy92, bry44, cry44, hgy94, hpy96, hpy97, gry441, hry44, ⟨_, hpy95⟩, ⟨_, hpy98⟩, hpy99, hoky90, hoky103, hpy100, hpy101, hpy102⟩
        refine z_cV (As := [.ref (ad 890), .int (zI (z))]) (rest := []) (ci := 11) C (c_X9_isUnstable l D A cs tt N ad _ hN _ _ _ _ _ _ _ _ _ _ _ _ _ _ _ hrecy104 (890) (by omega) hoky90 (z) (by omega)) (lt_K hN (rfl : Nat.blt (0) 952 = true)) hay45 hgy92 rfl rfl mv_yX9_isUnstable q_560 hd_yX9_isUnstable (by decide) (Nat.le_of_ble_eq_true rfl) (by decide) dX9_isOnceUnstable_42 rfl (kI0 fun vy93 gvy93 hvy93 => ?_)
        obtain ⟨hvy93, rfl⟩ := hvy93
        refine z_if_eq (tgt := 50) C dX9_isOnceUnstable_45 (by decide) (by omega) (fun hby105 => ?_) (fun hby105 => ?_)
        · refine z_iinc (z := i + 1) (lv' := [(3, .int (zI (i + 1))), (0, .ref (ad 0)), (1, .int (zI (z))), (2, .int (zI (z1)))]) (j := 0) C dX9_isOnceUnstable_50 rfl rfl (by decide) rfl ?_
          refine z_goto (tgt := 16) C dX9_isOnceUnstable_53 (by decide) ?_
          have hrecy106 : okRec cs ad gvy89 N (t) (fp) (im) (nz) (kz) (sl) (ho) (ua) (st) (op) (ai) (fa) (mu) (tb) (tp) := ⟨hgy92, bry44, cry44, hgy94, hpy96, hpy97, gry441, hry44, ⟨_, hpy95⟩, ⟨_, hpy98⟩, hpy99, hoky90, hoky103, hpy100, hpy101, hpy102⟩
          refine z_lv (lv' := [(3, .int (zI (i + 1))), (0, .ref (ad 0)), (1, .int (zI (z))), (2, .int (zI (z1)))]) [0, 1, 2, 3] rfl ?_
          exact ih_lp16 _ (by omega) (i + 1) gvy89 rfl hrecy106 (fun j j1 j2 => by rw [hfvy89 _ (by omega)]; exact f2 j j1 j2) (by omega)
        · refine z_iconst (z := 1) C dX9_isOnceUnstable_48 rfl ?_
          have hrecy107 : okRec cs ad gvy89 N (t) (fp) (im) (nz) (kz) (sl) (ho) (ua) (st) (op) (ai) (fa) (mu) (tb) (tp) := ⟨hgy92, bry44, cry44, hgy94, hpy96, hpy97, gry441, hry44, ⟨_, hpy95⟩, ⟨_, hpy98⟩, hpy99, hoky90, hoky103, hpy100, hpy101, hpy102⟩
          exact z_zret C hr hlk dX9_isOnceUnstable_49 (by decide) (by decide) (by decide) ⟨1, rfl, rfl, rfl, by omega, hrecy107, fun j j1 j2 => by rw [hfvy89 _ (by omega)]; exact f2 j j1 j2⟩
  have hgy108 := (hfvy41 (0) (by omega)).trans ary1
  have hgy109 := (hfvy41 (1) (by omega)).trans dry1
  have hpy110 := okState.mv (ad' := ad) (g' := gvy41) (fun j h1 h2 => by rfl) (fun j h1 h2 => by rw [hfvy41 _ (by omega)]) iry1
  have hpy111 := okRdr.mv (ad' := ad) (g' := gvy41) (fun j h1 h2 => by rfl) (fun j h1 h2 => by rw [hfvy41 _ (by omega)]) ery1
  have hpy112 := isPlan.mv (ad' := ad) (g' := gvy41) (fun j h1 h2 => by rfl) (fun j h1 h2 => by rw [hfvy41 _ (by omega)]) fry1
  have hpy113 := okState.mv (ad' := ad) (g' := gvy41) (fun j h1 h2 => by rfl) (fun j h1 h2 => by rw [hfvy41 _ (by omega)]) jry1
  have hpy114 := okPlan.mv (ad' := ad) (g' := gvy41) (fun j h1 h2 => by rfl) (fun j h1 h2 => by rw [hfvy41 _ (by omega)]) kry1
  have hpy115 := okGss.mv (ad' := ad) (g' := gvy41) (fun j h1 h2 => by rfl) (fun j h1 h2 => by rw [hfvy41 _ (by omega)]) nry1
  have hpy116 := okLike.mv (ad' := ad) (g' := gvy41) (fun j h1 h2 => by rfl) (fun j h1 h2 => by rw [hfvy41 _ (by omega)]) ory1
  have hpy117 := okBld.mv (ad' := ad) (g' := gvy41) (fun j h1 h2 => by rfl) (fun j h1 h2 => by rw [hfvy41 _ (by omega)]) pry1
  have hoky118 : okWorld cs ad gvy41 (900) := okWorld.mv (fun j j1 j2 => by rw [hfvy41 _ (by omega)]) mry1
  have hrecy119 : okRec cs ad gvy41 N (t) (fp) (im) (nz) (kz) (sl) (ho) (ua) (st) (op) (ai) (fa) (mu) (tb) (tp) := ⟨hgy108, bry1, cry1, hgy109, hpy111, hpy112, gry11, hry1, ⟨_, hpy110⟩, ⟨_, hpy113⟩, hpy114, hoky42, hoky118, hpy115, hpy116, hpy117⟩
  refine z_lv (lv' := [(3, .int (zI (0))), (0, .ref (ad 0)), (1, .int (zI (z))), (2, .int (zI (z1)))]) [0, 1, 2, 3] rfl ?_
  exact lp16 _ (0) gvy41 rfl hrecy119 (fun j j1 j2 => by rw [hfvy41 _ (by omega)]) (by omega)

set_option maxRecDepth 100000 in
set_option maxHeartbeats 4000000 in
theorem c_X9_otherRatio (l : Launch) (D : va_G) (A : Nat → Prop) (cs : Nat → ClassId) (tt : Nat) (N : Nat) (ad : Nat → Nat) (g : Nat → va_E) (hN : 952 ≤ N) (t fp im nz kz sl ho ua : Int) (st op ai fa mu tb tp : Nat → Int) (hR : okRec cs ad g N t fp im nz kz sl ho ua st op ai fa mu tb tp) (z : Int) (hz : 0 ≤ z ∧ z ≤ 3) (z1 : Int) (hz1 : 0 ≤ z1 ∧ z1 ≤ 100) : zM l yX9_otherRatio cX9_otherRatio 4 (some .int) ({ frames := 6, cells := 0, slots := 0, locals := 360 } : Room) D A cs tt N ad g [.ref (ad 0), .int (zI (z)), .int (zI (z1))] (rI0 N ad fun r g' => (-2147483648 ≤ r ∧ r ≤ 2147483647) ∧ okRec cs ad g' N t fp im nz kz sl ho ua st op ai fa mu tb tp ∧ oX g g') := by
  obtain ⟨ary1, bry1, cry1, dry1, ery1, fry1, gry11, hry1, ⟨acry1, iry1⟩, ⟨kcry1, jry1⟩, kry1, lry1, mry1, nry1, ory1, pry1⟩ := id hR
  have hay2 : zAt ad (0) (ad 0) := rfl
  have hay3 : zAt ad (1) (ad 1) := rfl
  have hay4 : zAt ad (2) (ad 2) := rfl
  have hay5 : zAt ad (4) (ad 4) := rfl
  have hay6 : zAt ad (11) (ad 11) := rfl
  have hay7 : zAt ad (447) (ad 447) := rfl
  have hay8 : zAt ad (883) (ad 883) := rfl
  have hay9 : zAt ad (890) (ad 890) := rfl
  have hay10 : zAt ad (900) (ad 900) := rfl
  have hay11 : zAt ad (910) (ad 910) := rfl
  have hay12 : zAt ad (917) (ad 917) := rfl
  have hay13 : zAt ad (919) (ad 919) := rfl
  have hay14 : zAt ad (4 + 1) (ad (4 + 1)) := rfl
  have hay15 : zAt ad (4 + 2) (ad (4 + 2)) := rfl
  have hay16 : zAt ad (4 + 3) (ad (4 + 3)) := rfl
  have hay17 : zAt ad (4 + 4) (ad (4 + 4)) := rfl
  have hay18 : zAt ad (4 + 5) (ad (4 + 5)) := rfl
  have hay19 : zAt ad (4 + 6) (ad (4 + 6)) := rfl
  obtain ⟨thcy20, zhcy20, ohcy20, rhcy20, hzhcy20, hthcy20, hwhcy20⟩ := id lry1
  obtain ⟨thcy21, zhcy21, ohcy21, rhcy21, hzhcy21, hthcy21, hwhcy21⟩ := id mry1
  obtain ⟨asy22, bsy22, csy22, dsy22, esy22, ⟨ptsy22, fsy22, gsy221⟩, hsy22, ⟨nusy22, nvsy22, nwsy22, isy22, jsy22, ksy22, lsy22, msy22, nsy22⟩, rfsy22, osy22⟩ := id iry1
  have hay23 : zAt ad (11 + 1) (ad (11 + 1)) := rfl
  have hay24 : zAt ad (11 + 11) (ad (11 + 11)) := rfl
  have hay25 : zAt ad (11 + 12) (ad (11 + 12)) := rfl
  have hay26 : zAt ad (11 + 13) (ad (11 + 13)) := rfl
  have hay27 : zAt ad (11 + 13 + 1) (ad (11 + 13 + 1)) := rfl
  have hay28 : zAt ad (11 + 13 + 2) (ad (11 + 13 + 2)) := rfl
  have hay29 : zAt ad (11 + 13 + 3) (ad (11 + 13 + 3)) := rfl
  have hay30 : zAt ad (11 + 17) (ad (11 + 17)) := rfl
  obtain ⟨uy31t, uy31z, uy31o, uy31r, uy31z4, uy31t5, uy311, ⟨uy31u, uy312, uy313⟩, uy314⟩ := id csy22
  have hay32 : zAt ad (11 + 1) (ad (11 + 1)) := rfl
  have hay33 : zAt ad (11 + 1 + 1) (ad (11 + 1 + 1)) := rfl
  obtain ⟨sloy34, hooy34, uaoy34, stoy34, opoy34, aioy34, faoy34, muoy34, tboy34, hsloy34, hhooy34, hpoy34⟩ := id kry1
  have hay35 : zAt ad (883 + 1) (ad (883 + 1)) := rfl
  have hay36 : zAt ad (883 + 2) (ad (883 + 2)) := rfl
  have hay37 : zAt ad (883 + 3) (ad (883 + 3)) := rfl
  have hay38 : zAt ad (883 + 4) (ad (883 + 4)) := rfl
  have hay39 : zAt ad (883 + 5) (ad (883 + 5)) := rfl
  have hay40 : zAt ad (883 + 6) (ad (883 + 6)) := rfl
  refine z_of (by decide) (Nat.le_of_ble_eq_true rfl) ?_
  intro p e s m below meth c C hr hlk hnm
  refine z_lv (lv' := [(0, .ref (ad 0)), (1, .int (zI (z))), (2, .int (zI (z1)))]) [0, 1, 2] rfl ?_
  refine z_aload_n C 0 dX9_otherRatio_0 rfl ?_
  refine z_get (v := .ref (ad 890)) C (lt_K hN (rfl : Nat.blt (0) 952 = true)) hay2 ary1 rfl inA_X9 9 (by decide) q_358 rfl rfl dX9_otherRatio_1 ?_
  refine z_aload_n C 0 dX9_otherRatio_4 rfl ?_
  refine z_get (v := .ref (ad 11)) C (lt_K hN (rfl : Nat.blt (0) 952 = true)) hay2 ary1 rfl inA_X9 5 (by decide) q_354 rfl rfl dX9_otherRatio_5 ?_
  refine z_get (v := .ref (ad (11 + 1))) C (lt_K hN (rfl : Nat.blt (11) 952 = true)) hay6 iry1.1 rfl inA_X6 0 (by decide) q_258 rfl rfl dX9_otherRatio_8 ?_
  refine z_cV (As := [.ref (ad (11 + 1))]) (rest := []) (ci := 10) C (c_X8_copyFrom l D A cs tt N ad _ (890) (by omega) lry1 (11 + 1) (by omega) csy22 (by omega)) (lt_K hN (rfl : Nat.blt (890) 952 = true)) hay9 hwhcy20.1 rfl rfl mv_yX8_copyFrom q_1228 hd_yX8_copyFrom (by decide) (Nat.le_of_ble_eq_true rfl) (by decide) dX9_otherRatio_11 rfl (kV0 fun gvy41 hvy41 => ?_)
  obtain ⟨⟨tvy41, zvy41, ovy41, rvy41, hzvy41, htvy41, -, hwvy41⟩, hfvy41⟩ := hvy41
  have hoky42 : okWorld cs ad gvy41 (890) := ⟨_, _, _, _, hzvy41, htvy41, hwvy41⟩
  obtain ⟨thcy43, zhcy43, ohcy43, rhcy43, hzhcy43, hthcy43, hwhcy43⟩ := id hoky42
  refine z_iconst (z := 0) C dX9_otherRatio_14 rfl ?_
  refine z_istore_n (lv' := [(3, .int (zI (0))), (0, .ref (ad 0)), (1, .int (zI (z))), (2, .int (zI (z1)))]) C dX9_otherRatio_15 rfl (by decide) rfl ?_
  have lp16 : ∀ (n9 : Nat) (i : Int) (g1 : Nat → va_E), (z1 - i).toNat = n9 → (okRec cs ad g1 N t fp im nz kz sl ho ua st op ai fa mu tb tp) → (oX g g1) → (0 ≤ i ∧ i ≤ z1) → zV p l e ({ frames := 6, cells := 0, slots := 0, locals := 360 } : Room) s m ([.ref (ad 0), .int (zI (z)), .int (zI (z1))] : List Value).toArray below meth c (MQ below (zPost D A (rI0 N ad fun r g' => (-2147483648 ≤ r ∧ r ≤ 2147483647) ∧ okRec cs ad g' N t fp im nz kz sl ho ua st op ai fa mu tb tp ∧ oX g g')) ([.ref (ad 0), .int (zI (z)), .int (zI (z1))] : List Value).toArray s ({ frames := 6, cells := 0, slots := 0, locals := 360 } : Room).cells ({ frames := 6, cells := 0, slots := 0, locals := 360 } : Room).slots A) D A 4 (N) ad g1 (0) (0) 16 [(3, .int (zI (i))), (0, .ref (ad 0)), (1, .int (zI (z))), (2, .int (zI (z1)))] [] := by
    intro n9
    induction n9 using Nat.strongRecOn with
    | ind n9 ih_lp16 =>
      intro i g1 hm9 f1 f2 hv16_0
      obtain ⟨ary44, bry44, cry44, dry44, ery44, fry44, gry441, hry44, ⟨acry44, iry44⟩, ⟨kcry44, jry44⟩, kry44, lry44, mry44, nry44, ory44, pry44⟩ := id f1
      have hay45 : zAt ad (0) (ad 0) := rfl
      have hay46 : zAt ad (1) (ad 1) := rfl
      have hay47 : zAt ad (2) (ad 2) := rfl
      have hay48 : zAt ad (4) (ad 4) := rfl
      have hay49 : zAt ad (11) (ad 11) := rfl
      have hay50 : zAt ad (447) (ad 447) := rfl
      have hay51 : zAt ad (883) (ad 883) := rfl
      have hay52 : zAt ad (890) (ad 890) := rfl
      have hay53 : zAt ad (900) (ad 900) := rfl
      have hay54 : zAt ad (910) (ad 910) := rfl
      have hay55 : zAt ad (917) (ad 917) := rfl
      have hay56 : zAt ad (919) (ad 919) := rfl
      have hay57 : zAt ad (4 + 1) (ad (4 + 1)) := rfl
      have hay58 : zAt ad (4 + 2) (ad (4 + 2)) := rfl
      have hay59 : zAt ad (4 + 3) (ad (4 + 3)) := rfl
      have hay60 : zAt ad (4 + 4) (ad (4 + 4)) := rfl
      have hay61 : zAt ad (4 + 5) (ad (4 + 5)) := rfl
      have hay62 : zAt ad (4 + 6) (ad (4 + 6)) := rfl
      obtain ⟨thcy63, zhcy63, ohcy63, rhcy63, hzhcy63, hthcy63, hwhcy63⟩ := id lry44
      obtain ⟨thcy64, zhcy64, ohcy64, rhcy64, hzhcy64, hthcy64, hwhcy64⟩ := id mry44
      obtain ⟨asy65, bsy65, csy65, dsy65, esy65, ⟨ptsy65, fsy65, gsy651⟩, hsy65, ⟨nusy65, nvsy65, nwsy65, isy65, jsy65, ksy65, lsy65, msy65, nsy65⟩, rfsy65, osy65⟩ := id iry44
      have hay66 : zAt ad (11 + 1) (ad (11 + 1)) := rfl
      have hay67 : zAt ad (11 + 11) (ad (11 + 11)) := rfl
      have hay68 : zAt ad (11 + 12) (ad (11 + 12)) := rfl
      have hay69 : zAt ad (11 + 13) (ad (11 + 13)) := rfl
      have hay70 : zAt ad (11 + 13 + 1) (ad (11 + 13 + 1)) := rfl
      have hay71 : zAt ad (11 + 13 + 2) (ad (11 + 13 + 2)) := rfl
      have hay72 : zAt ad (11 + 13 + 3) (ad (11 + 13 + 3)) := rfl
      have hay73 : zAt ad (11 + 17) (ad (11 + 17)) := rfl
      obtain ⟨uy74t, uy74z, uy74o, uy74r, uy74z4, uy74t5, uy741, ⟨uy74u, uy742, uy743⟩, uy744⟩ := id csy65
      have hay75 : zAt ad (11 + 1) (ad (11 + 1)) := rfl
      have hay76 : zAt ad (11 + 1 + 1) (ad (11 + 1 + 1)) := rfl
      obtain ⟨sloy77, hooy77, uaoy77, stoy77, opoy77, aioy77, faoy77, muoy77, tboy77, hsloy77, hhooy77, hpoy77⟩ := id kry44
      have hay78 : zAt ad (883 + 1) (ad (883 + 1)) := rfl
      have hay79 : zAt ad (883 + 2) (ad (883 + 2)) := rfl
      have hay80 : zAt ad (883 + 3) (ad (883 + 3)) := rfl
      have hay81 : zAt ad (883 + 4) (ad (883 + 4)) := rfl
      have hay82 : zAt ad (883 + 5) (ad (883 + 5)) := rfl
      have hay83 : zAt ad (883 + 6) (ad (883 + 6)) := rfl
      refine z_iload_n C 0 dX9_otherRatio_16 rfl ?_
      refine z_iload_n C 3 dX9_otherRatio_17 rfl ?_
      refine z_icmp_ge (tgt := 42) C dX9_otherRatio_18 (by decide) (by omega) (by omega) (fun hby84 => ?_) (fun hby84 => ?_)
      · refine z_aload_n C 1 dX9_otherRatio_42 rfl ?_
        refine z_get (v := .ref (ad 890)) C (lt_K hN (rfl : Nat.blt (0) 952 = true)) hay45 ary44 rfl inA_X9 9 (by decide) q_358 rfl rfl dX9_otherRatio_43 ?_
        refine z_get (v := .ref (ad (890 + 1))) C (lt_K hN (rfl : Nat.blt (890) 952 = true)) hay52 hwhcy63.1 rfl inA_X8 6 (by decide) q_191 rfl rfl dX9_otherRatio_46 ?_
        refine z_iload_n C 2 dX9_otherRatio_49 rfl ?_
        obtain ⟨uy85t, uy85z, uy85o, uy85r, uy85z4, uy85t5, uy851, ⟨uy85u, uy852, uy853⟩, uy854⟩ := id lry44
        have hay86 : zAt ad (890) (ad 890) := rfl
        have hay87 : zAt ad (890 + 1) (ad (890 + 1)) := rfl
        refine z_aald C (lt_K hN (rfl : Nat.blt (890 + 1) 952 = true)) hay87 uy852 3 rfl ((z).toNat) (by omega) (by omega) (by decide) (uy853 (z).toNat (by omega)) dX9_otherRatio_50 ?_
        have hay88 : zAt ad (890 + 2 + 2 * (z).toNat) (ad (890 + 2 + 2 * (z).toNat)) := rfl
        have hay89 : zAt ad (890 + 2 + 2 * (z).toNat + 1) (ad (890 + 2 + 2 * (z).toNat + 1)) := rfl
        have hpy90 := uy854 (z).toNat (by omega)
        have hqy91 := uy85z4 (z).toNat (by omega)
        refine z_aload_n C 1 dX9_otherRatio_51 rfl ?_
        refine z_get (v := .ref (ad 4)) C (lt_K hN (rfl : Nat.blt (0) 952 = true)) hay45 ary44 rfl inA_X9 4 (by decide) q_353 rfl rfl dX9_otherRatio_52 ?_
        refine z_get (v := .ref (ad (4 + 1))) C (lt_K hN (rfl : Nat.blt (4) 952 = true)) hay48 fry44.1 rfl inA_X5 3 (by decide) q_98 rfl rfl dX9_otherRatio_55 ?_
        refine z_iload_n C 2 dX9_otherRatio_58 rfl ?_
        refine z_iald C (lt_K hN (rfl : Nat.blt (4 + 1) 952 = true)) hay57 fry44.2.1 ((z).toNat) (by omega) (by omega) (by decide) dX9_otherRatio_59 ?_
        refine z_aload_n C 1 dX9_otherRatio_60 rfl ?_
        refine z_get (v := .ref (ad 4)) C (lt_K hN (rfl : Nat.blt (0) 952 = true)) hay45 ary44 rfl inA_X9 4 (by decide) q_353 rfl rfl dX9_otherRatio_61 ?_
        obtain ⟨xy92, exy93, hxy94⟩ := zI_of (zI (st ((z).toNat)))
        rw [exy93]
        refine z_cV (As := [.int (zI (xy92)), .ref (ad 4)]) (rest := []) (ci := 5) C (c_X3_leastRatio l D A cs tt N ad _ (890 + 2 + 2 * (z).toNat) (by omega) _ _ _ (by omega) ⟨hpy90.1, hpy90.2⟩ (4) (by omega) _ _ _ _ _ _ _ _ _ ⟨fry44.1, fry44.2.1, fry44.2.2.1, fry44.2.2.2.1, fry44.2.2.2.2.1, fry44.2.2.2.2.2.1, fry44.2.2.2.2.2.2⟩ (xy92) (by omega)) (by omega) hay88 hpy90.1 rfl rfl mv_yX3_leastRatio q_898 hd_yX3_leastRatio (by decide) (Nat.le_of_ble_eq_true rfl) (by decide) dX9_otherRatio_64 rfl (kI0 fun vy95 gvy95 hvy95 => ?_)
        obtain ⟨hvy95, rfl⟩ := hvy95
        have hrecy96 : okRec cs ad g1 N (t) (fp) (im) (nz) (kz) (sl) (ho) (ua) (st) (op) (ai) (fa) (mu) (tb) (tp) := ⟨ary44, bry44, cry44, dry44, ery44, fry44, gry441, hry44, ⟨_, iry44⟩, ⟨_, jry44⟩, kry44, lry44, mry44, nry44, ory44, pry44⟩
        exact z_iret C hr hlk dX9_otherRatio_67 (by decide) (by decide) ⟨vy95, rfl, rfl, rfl, by omega, hrecy96, fun j j1 j2 => by exact f2 j j1 j2⟩
      · refine z_aload_n C 1 dX9_otherRatio_21 rfl ?_
        refine z_get (v := .ref (ad 890)) C (lt_K hN (rfl : Nat.blt (0) 952 = true)) hay45 ary44 rfl inA_X9 9 (by decide) q_358 rfl rfl dX9_otherRatio_22 ?_
        refine z_aload_n C 1 dX9_otherRatio_25 rfl ?_
        refine z_get (v := .ref (ad 883)) C (lt_K hN (rfl : Nat.blt (0) 952 = true)) hay45 ary44 rfl inA_X9 8 (by decide) q_357 rfl rfl dX9_otherRatio_26 ?_
        refine z_iconst (z := 1) C dX9_otherRatio_29 rfl ?_
        refine z_iload_n C 2 dX9_otherRatio_30 rfl ?_
        obtain ⟨xy97, exy98, hxy99⟩ := zI_of (zI (1) <<< (zI (z) &&& 31))
        refine z_ishl (z := xy97) C dX9_otherRatio_31 exy98 ?_
        refine z_iconst (z := 1) C dX9_otherRatio_32 rfl ?_
        refine z_cV (As := [.ref (ad 883), .int (zI (xy97)), .int (zI (1))]) (rest := []) (ci := 10) C (c_X8_hour l D A cs tt N ad _ (890) (by omega) lry44 (883) (by omega) _ _ _ _ _ _ _ _ _ ⟨hpoy77.1, hpoy77.2.1, hpoy77.2.2.1, hpoy77.2.2.2.1, hpoy77.2.2.2.2.1, hpoy77.2.2.2.2.2.1, hpoy77.2.2.2.2.2.2⟩ (by omega) (by omega) (by omega) (xy97) (by omega) (1) (by omega)) (lt_K hN (rfl : Nat.blt (890) 952 = true)) hay52 hwhcy63.1 rfl rfl mv_yX8_hour q_435 hd_yX8_hour (by decide) (Nat.le_of_ble_eq_true rfl) (by decide) dX9_otherRatio_33 rfl (kV0 fun gvy100 hvy100 => ?_)
        obtain ⟨hkvy100, hfvy100⟩ := hvy100
        have hoky101 : okWorld cs ad gvy100 (890) := hkvy100
        obtain ⟨thcy102, zhcy102, ohcy102, rhcy102, hzhcy102, hthcy102, hwhcy102⟩ := id hoky101
        refine z_iinc (z := i + 1) (lv' := [(3, .int (zI (i + 1))), (0, .ref (ad 0)), (1, .int (zI (z))), (2, .int (zI (z1)))]) (j := 0) C dX9_otherRatio_36 rfl rfl (by decide) rfl ?_
        refine z_goto (tgt := 16) C dX9_otherRatio_39 (by decide) ?_
        have hgy103 := (hfvy100 (0) (by omega)).trans ary44
        have hgy104 := (hfvy100 (1) (by omega)).trans dry44
        have hpy105 := okState.mv (ad' := ad) (g' := gvy100) (fun j h1 h2 => by rfl) (fun j h1 h2 => by rw [hfvy100 _ (by omega)]) iry44
        have hpy106 := okRdr.mv (ad' := ad) (g' := gvy100) (fun j h1 h2 => by rfl) (fun j h1 h2 => by rw [hfvy100 _ (by omega)]) ery44
        have hpy107 := isPlan.mv (ad' := ad) (g' := gvy100) (fun j h1 h2 => by rfl) (fun j h1 h2 => by rw [hfvy100 _ (by omega)]) fry44
        have hpy108 := okState.mv (ad' := ad) (g' := gvy100) (fun j h1 h2 => by rfl) (fun j h1 h2 => by rw [hfvy100 _ (by omega)]) jry44
        have hpy109 := okPlan.mv (ad' := ad) (g' := gvy100) (fun j h1 h2 => by rfl) (fun j h1 h2 => by rw [hfvy100 _ (by omega)]) kry44
        have hpy110 := okGss.mv (ad' := ad) (g' := gvy100) (fun j h1 h2 => by rfl) (fun j h1 h2 => by rw [hfvy100 _ (by omega)]) nry44
        have hpy111 := okLike.mv (ad' := ad) (g' := gvy100) (fun j h1 h2 => by rfl) (fun j h1 h2 => by rw [hfvy100 _ (by omega)]) ory44
        have hpy112 := okBld.mv (ad' := ad) (g' := gvy100) (fun j h1 h2 => by rfl) (fun j h1 h2 => by rw [hfvy100 _ (by omega)]) pry44
        have hoky113 : okWorld cs ad gvy100 (900) := okWorld.mv (fun j j1 j2 => by rw [hfvy100 _ (by omega)]) mry44
        have hrecy114 : okRec cs ad gvy100 N (t) (fp) (im) (nz) (kz) (sl) (ho) (ua) (st) (op) (ai) (fa) (mu) (tb) (tp) := ⟨hgy103, bry44, cry44, hgy104, hpy106, hpy107, gry441, hry44, ⟨_, hpy105⟩, ⟨_, hpy108⟩, hpy109, hoky101, hoky113, hpy110, hpy111, hpy112⟩
        refine z_lv (lv' := [(3, .int (zI (i + 1))), (0, .ref (ad 0)), (1, .int (zI (z))), (2, .int (zI (z1)))]) [0, 1, 2, 3] rfl ?_
        exact ih_lp16 _ (by omega) (i + 1) gvy100 rfl hrecy114 (fun j j1 j2 => by rw [hfvy100 _ (by omega)]; exact f2 j j1 j2) (by omega)
  have hgy115 := (hfvy41 (0) (by omega)).trans ary1
  have hgy116 := (hfvy41 (1) (by omega)).trans dry1
  have hpy117 := okState.mv (ad' := ad) (g' := gvy41) (fun j h1 h2 => by rfl) (fun j h1 h2 => by rw [hfvy41 _ (by omega)]) iry1
  have hpy118 := okRdr.mv (ad' := ad) (g' := gvy41) (fun j h1 h2 => by rfl) (fun j h1 h2 => by rw [hfvy41 _ (by omega)]) ery1
  have hpy119 := isPlan.mv (ad' := ad) (g' := gvy41) (fun j h1 h2 => by rfl) (fun j h1 h2 => by rw [hfvy41 _ (by omega)]) fry1
  have hpy120 := okState.mv (ad' := ad) (g' := gvy41) (fun j h1 h2 => by rfl) (fun j h1 h2 => by rw [hfvy41 _ (by omega)]) jry1
  have hpy121 := okPlan.mv (ad' := ad) (g' := gvy41) (fun j h1 h2 => by rfl) (fun j h1 h2 => by rw [hfvy41 _ (by omega)]) kry1
  have hpy122 := okGss.mv (ad' := ad) (g' := gvy41) (fun j h1 h2 => by rfl) (fun j h1 h2 => by rw [hfvy41 _ (by omega)]) nry1
  have hpy123 := okLike.mv (ad' := ad) (g' := gvy41) (fun j h1 h2 => by rfl) (fun j h1 h2 => by rw [hfvy41 _ (by omega)]) ory1
  have hpy124 := okBld.mv (ad' := ad) (g' := gvy41) (fun j h1 h2 => by rfl) (fun j h1 h2 => by rw [hfvy41 _ (by omega)]) pry1
  have hoky125 : okWorld cs ad gvy41 (900) := okWorld.mv (fun j j1 j2 => by rw [hfvy41 _ (by omega)]) mry1
  have hrecy126 : okRec cs ad gvy41 N (t) (fp) (im) (nz) (kz) (sl) (ho) (ua) (st) (op) (ai) (fa) (mu) (tb) (tp) := ⟨hgy115, bry1, cry1, hgy116, hpy118, hpy119, gry11, hry1, ⟨_, hpy117⟩, ⟨_, hpy120⟩, hpy121, hoky42, hoky125, hpy122, hpy123, hpy124⟩
  refine z_lv (lv' := [(3, .int (zI (0))), (0, .ref (ad 0)), (1, .int (zI (z))), (2, .int (zI (z1)))]) [0, 1, 2, 3] rfl ?_
  exact lp16 _ (0) gvy41 rfl hrecy126 (fun j j1 j2 => by rw [hfvy41 _ (by omega)]) (by omega)

set_option maxRecDepth 100000 in
set_option maxHeartbeats 4000000 in
theorem c_X9_once (l : Launch) (D : va_G) (A : Nat → Prop) (cs : Nat → ClassId) (tt : Nat) (N : Nat) (ad : Nat → Nat) (g : Nat → va_E) (hN : 952 ≤ N) (t fp im nz kz sl ho ua : Int) (st op ai fa mu tb tp : Nat → Int) (hR : okRec cs ad g N t fp im nz kz sl ho ua st op ai fa mu tb tp) (hl0 : l.stackTraces = false) (z : Int) (hz : -2147483648 ≤ z ∧ z ≤ 2147483647) (z1 : Int) (hz1 : -2147483648 ≤ z1 ∧ z1 ≤ 2147483647) : zMX l yX9_once cX9_once 5 (some .int) ({ frames := 12, cells := 6, slots := 60, locals := 720 } : Room) D A cs tt N ad g [.ref (ad 0), .int (zI (z)), .int (zI (z1))] (rI0 N ad fun r g' => (-2147483648 ≤ r ∧ r ≤ 2147483647) ∧ okRec cs ad g' N t fp im nz kz sl ho ua st op ai fa mu tb tp ∧ oX g g') (fun E N' ad' g' => E = eNS ∧ N' = N ∧ ad' = ad ∧ g' = g) := by
  obtain ⟨ary1, bry1, cry1, dry1, ery1, fry1, gry11, hry1, ⟨acry1, iry1⟩, ⟨kcry1, jry1⟩, kry1, lry1, mry1, nry1, ory1, pry1⟩ := id hR
  have hay2 : zAt ad (0) (ad 0) := rfl
  have hay3 : zAt ad (1) (ad 1) := rfl
  have hay4 : zAt ad (2) (ad 2) := rfl
  have hay5 : zAt ad (4) (ad 4) := rfl
  have hay6 : zAt ad (11) (ad 11) := rfl
  have hay7 : zAt ad (447) (ad 447) := rfl
  have hay8 : zAt ad (883) (ad 883) := rfl
  have hay9 : zAt ad (890) (ad 890) := rfl
  have hay10 : zAt ad (900) (ad 900) := rfl
  have hay11 : zAt ad (910) (ad 910) := rfl
  have hay12 : zAt ad (917) (ad 917) := rfl
  have hay13 : zAt ad (919) (ad 919) := rfl
  have hay14 : zAt ad (4 + 1) (ad (4 + 1)) := rfl
  have hay15 : zAt ad (4 + 2) (ad (4 + 2)) := rfl
  have hay16 : zAt ad (4 + 3) (ad (4 + 3)) := rfl
  have hay17 : zAt ad (4 + 4) (ad (4 + 4)) := rfl
  have hay18 : zAt ad (4 + 5) (ad (4 + 5)) := rfl
  have hay19 : zAt ad (4 + 6) (ad (4 + 6)) := rfl
  obtain ⟨thcy20, zhcy20, ohcy20, rhcy20, hzhcy20, hthcy20, hwhcy20⟩ := id lry1
  obtain ⟨thcy21, zhcy21, ohcy21, rhcy21, hzhcy21, hthcy21, hwhcy21⟩ := id mry1
  obtain ⟨asy22, bsy22, csy22, dsy22, esy22, ⟨ptsy22, fsy22, gsy221⟩, hsy22, ⟨nusy22, nvsy22, nwsy22, isy22, jsy22, ksy22, lsy22, msy22, nsy22⟩, rfsy22, osy22⟩ := id iry1
  have hay23 : zAt ad (11 + 1) (ad (11 + 1)) := rfl
  have hay24 : zAt ad (11 + 11) (ad (11 + 11)) := rfl
  have hay25 : zAt ad (11 + 12) (ad (11 + 12)) := rfl
  have hay26 : zAt ad (11 + 13) (ad (11 + 13)) := rfl
  have hay27 : zAt ad (11 + 13 + 1) (ad (11 + 13 + 1)) := rfl
  have hay28 : zAt ad (11 + 13 + 2) (ad (11 + 13 + 2)) := rfl
  have hay29 : zAt ad (11 + 13 + 3) (ad (11 + 13 + 3)) := rfl
  have hay30 : zAt ad (11 + 17) (ad (11 + 17)) := rfl
  obtain ⟨uy31t, uy31z, uy31o, uy31r, uy31z4, uy31t5, uy311, ⟨uy31u, uy312, uy313⟩, uy314⟩ := id csy22
  have hay32 : zAt ad (11 + 1) (ad (11 + 1)) := rfl
  have hay33 : zAt ad (11 + 1 + 1) (ad (11 + 1 + 1)) := rfl
  obtain ⟨sloy34, hooy34, uaoy34, stoy34, opoy34, aioy34, faoy34, muoy34, tboy34, hsloy34, hhooy34, hpoy34⟩ := id kry1
  have hay35 : zAt ad (883 + 1) (ad (883 + 1)) := rfl
  have hay36 : zAt ad (883 + 2) (ad (883 + 2)) := rfl
  have hay37 : zAt ad (883 + 3) (ad (883 + 3)) := rfl
  have hay38 : zAt ad (883 + 4) (ad (883 + 4)) := rfl
  have hay39 : zAt ad (883 + 5) (ad (883 + 5)) := rfl
  have hay40 : zAt ad (883 + 6) (ad (883 + 6)) := rfl
  refine z_ofX (by decide) (Nat.le_of_ble_eq_true rfl) ?_
  intro p e s m below meth c C hr hlk hxt
  refine z_lv (lv' := [(0, .ref (ad 0)), (1, .int (zI (z))), (2, .int (zI (z1)))]) [0, 1, 2] rfl ?_
  refine z_aload_n C 0 dX9_once_0 rfl ?_
  refine z_iload_n C 1 dX9_once_1 rfl ?_
  have hrecy42 : okRec cs ad g N (t) (fp) (im) (nz) (kz) (sl) (ho) (ua) (st) (op) (ai) (fa) (mu) (tb) (tp) := ⟨ary1, bry1, cry1, dry1, ery1, fry1, gry11, hry1, ⟨_, iry1⟩, ⟨_, jry1⟩, kry1, lry1, mry1, nry1, ory1, pry1⟩
  refine z_cVX (As := [.int (zI (z))]) (rest := []) (ci := 11) C (c_X9_needSlope l D A cs tt N ad _ hN _ _ _ _ _ _ _ _ _ _ _ _ _ _ _ hrecy42 hl0 (z) (by omega)) (lt_K hN (rfl : Nat.blt (0) 952 = true)) hay2 ary1 rfl rfl mv_yX9_needSlope q_940 hd_yX9_needSlope (by decide) (Nat.le_of_ble_eq_true rfl) (by decide) dX9_once_2 rfl (fun E N' ad' g' h => by obtain ⟨rfl, rfl, rfl, rfl⟩ := h; exact z_uout C hxt hlk (by decide) (by decide) ⟨rfl, rfl, rfl, rfl⟩) (kV0 fun gvy41 hvy41 => ?_)
  obtain ⟨hvy41, rfl⟩ := hvy41
  refine z_iload_n C 2 dX9_once_5 rfl ?_
  refine z_iconst (z := 1) C dX9_once_6 rfl ?_
  refine z_cSX (As := [.int (zI (z1)), .int (zI (1))]) (rest := []) C (c_X9_needWhat l D A cs tt N ad _ hl0 (z1) (by omega) (1) (by omega)) ms_yX9_needWhat q_1220 hd_yX9_needWhat (by decide) (Nat.le_of_ble_eq_true rfl) (by decide) dX9_once_7 rfl (fun E N' ad' g' h => by obtain ⟨⟨rfl, h9⟩, rfl, rfl, rfl⟩ := h; exact z_uout C hxt hlk (by decide) (by decide) ⟨rfl, rfl, rfl, rfl⟩) (kV0 fun gvy43 hvy43 => ?_)
  obtain ⟨hvy43, rfl⟩ := hvy43
  refine z_aload_n C 0 dX9_once_10 rfl ?_
  refine z_get (v := .ref (ad 890)) C (lt_K hN (rfl : Nat.blt (0) 952 = true)) hay2 ary1 rfl inA_X9 9 (by decide) q_358 rfl rfl dX9_once_11 ?_
  refine z_aload_n C 0 dX9_once_14 rfl ?_
  refine z_get (v := .ref (ad 11)) C (lt_K hN (rfl : Nat.blt (0) 952 = true)) hay2 ary1 rfl inA_X9 5 (by decide) q_354 rfl rfl dX9_once_15 ?_
  refine z_get (v := .ref (ad (11 + 1))) C (lt_K hN (rfl : Nat.blt (11) 952 = true)) hay6 iry1.1 rfl inA_X6 0 (by decide) q_258 rfl rfl dX9_once_18 ?_
  refine z_cV (As := [.ref (ad (11 + 1))]) (rest := []) (ci := 10) C (c_X8_copyFrom l D A cs tt N ad _ (890) (by omega) lry1 (11 + 1) (by omega) csy22 (by omega)) (lt_K hN (rfl : Nat.blt (890) 952 = true)) hay9 hwhcy20.1 rfl rfl mv_yX8_copyFrom q_1228 hd_yX8_copyFrom (by decide) (Nat.le_of_ble_eq_true rfl) (by decide) dX9_once_21 rfl (kV0 fun gvy44 hvy44 => ?_)
  obtain ⟨⟨tvy44, zvy44, ovy44, rvy44, hzvy44, htvy44, -, hwvy44⟩, hfvy44⟩ := hvy44
  have hoky45 : okWorld cs ad gvy44 (890) := ⟨_, _, _, _, hzvy44, htvy44, hwvy44⟩
  obtain ⟨thcy46, zhcy46, ohcy46, rhcy46, hzhcy46, hthcy46, hwhcy46⟩ := id hoky45
  refine z_iconst (z := 0) C dX9_once_24 rfl ?_
  refine z_istore_n (lv' := [(3, .int (zI (0))), (0, .ref (ad 0)), (1, .int (zI (z))), (2, .int (zI (z1)))]) C dX9_once_25 rfl (by decide) rfl ?_
  have lp26 : ∀ (n9 : Nat) (i : Int) (g1 : Nat → va_E), (73 - i).toNat = n9 → (okRec cs ad g1 N t fp im nz kz sl ho ua st op ai fa mu tb tp) → (oX g g1) → (0 ≤ i ∧ i ≤ 73) → (0 ≤ z ∧ z < sl) → (0 ≤ z1 ∧ z1 ≤ 1) → zV p l e ({ frames := 12, cells := 6, slots := 60, locals := 720 } : Room) s m ([.ref (ad 0), .int (zI (z)), .int (zI (z1))] : List Value).toArray below meth c (vx_MQ below (zPost D A (rI0 N ad fun r g' => (-2147483648 ≤ r ∧ r ≤ 2147483647) ∧ okRec cs ad g' N t fp im nz kz sl ho ua st op ai fa mu tb tp ∧ oX g g')) (zX D A (fun E N' ad' g' => E = eNS ∧ N' = N ∧ ad' = ad ∧ g' = g)) ([.ref (ad 0), .int (zI (z)), .int (zI (z1))] : List Value).toArray s ({ frames := 12, cells := 6, slots := 60, locals := 720 } : Room).cells ({ frames := 12, cells := 6, slots := 60, locals := 720 } : Room).slots A) D A 5 (N) ad g1 (2) (12) 26 [(3, .int (zI (i))), (0, .ref (ad 0)), (1, .int (zI (z))), (2, .int (zI (z1)))] [] := by
    intro n9
    induction n9 using Nat.strongRecOn with
    | ind n9 ih_lp26 =>
      intro i g1 hm9 f1 f2 hv26_0 hv26_1 hv26_2
      obtain ⟨ary47, bry47, cry47, dry47, ery47, fry47, gry471, hry47, ⟨acry47, iry47⟩, ⟨kcry47, jry47⟩, kry47, lry47, mry47, nry47, ory47, pry47⟩ := id f1
      have hay48 : zAt ad (0) (ad 0) := rfl
      have hay49 : zAt ad (1) (ad 1) := rfl
      have hay50 : zAt ad (2) (ad 2) := rfl
      have hay51 : zAt ad (4) (ad 4) := rfl
      have hay52 : zAt ad (11) (ad 11) := rfl
      have hay53 : zAt ad (447) (ad 447) := rfl
      have hay54 : zAt ad (883) (ad 883) := rfl
      have hay55 : zAt ad (890) (ad 890) := rfl
      have hay56 : zAt ad (900) (ad 900) := rfl
      have hay57 : zAt ad (910) (ad 910) := rfl
      have hay58 : zAt ad (917) (ad 917) := rfl
      have hay59 : zAt ad (919) (ad 919) := rfl
      have hay60 : zAt ad (4 + 1) (ad (4 + 1)) := rfl
      have hay61 : zAt ad (4 + 2) (ad (4 + 2)) := rfl
      have hay62 : zAt ad (4 + 3) (ad (4 + 3)) := rfl
      have hay63 : zAt ad (4 + 4) (ad (4 + 4)) := rfl
      have hay64 : zAt ad (4 + 5) (ad (4 + 5)) := rfl
      have hay65 : zAt ad (4 + 6) (ad (4 + 6)) := rfl
      obtain ⟨thcy66, zhcy66, ohcy66, rhcy66, hzhcy66, hthcy66, hwhcy66⟩ := id lry47
      obtain ⟨thcy67, zhcy67, ohcy67, rhcy67, hzhcy67, hthcy67, hwhcy67⟩ := id mry47
      obtain ⟨asy68, bsy68, csy68, dsy68, esy68, ⟨ptsy68, fsy68, gsy681⟩, hsy68, ⟨nusy68, nvsy68, nwsy68, isy68, jsy68, ksy68, lsy68, msy68, nsy68⟩, rfsy68, osy68⟩ := id iry47
      have hay69 : zAt ad (11 + 1) (ad (11 + 1)) := rfl
      have hay70 : zAt ad (11 + 11) (ad (11 + 11)) := rfl
      have hay71 : zAt ad (11 + 12) (ad (11 + 12)) := rfl
      have hay72 : zAt ad (11 + 13) (ad (11 + 13)) := rfl
      have hay73 : zAt ad (11 + 13 + 1) (ad (11 + 13 + 1)) := rfl
      have hay74 : zAt ad (11 + 13 + 2) (ad (11 + 13 + 2)) := rfl
      have hay75 : zAt ad (11 + 13 + 3) (ad (11 + 13 + 3)) := rfl
      have hay76 : zAt ad (11 + 17) (ad (11 + 17)) := rfl
      obtain ⟨uy77t, uy77z, uy77o, uy77r, uy77z4, uy77t5, uy771, ⟨uy77u, uy772, uy773⟩, uy774⟩ := id csy68
      have hay78 : zAt ad (11 + 1) (ad (11 + 1)) := rfl
      have hay79 : zAt ad (11 + 1 + 1) (ad (11 + 1 + 1)) := rfl
      obtain ⟨sloy80, hooy80, uaoy80, stoy80, opoy80, aioy80, faoy80, muoy80, tboy80, hsloy80, hhooy80, hpoy80⟩ := id kry47
      have hay81 : zAt ad (883 + 1) (ad (883 + 1)) := rfl
      have hay82 : zAt ad (883 + 2) (ad (883 + 2)) := rfl
      have hay83 : zAt ad (883 + 3) (ad (883 + 3)) := rfl
      have hay84 : zAt ad (883 + 4) (ad (883 + 4)) := rfl
      have hay85 : zAt ad (883 + 5) (ad (883 + 5)) := rfl
      have hay86 : zAt ad (883 + 6) (ad (883 + 6)) := rfl
      refine z_iload_n C 0 dX9_once_26 rfl ?_
      refine z_bipush (z := 72) C dX9_once_27 (by decide) ?_
      refine z_icmp_gt (tgt := 98) C dX9_once_29 (by decide) (by omega) (by omega) (fun hby87 => ?_) (fun hby87 => ?_)
      · refine z_iconst (z := -1) C dX9_once_98 rfl ?_
        have hrecy88 : okRec cs ad g1 N (t) (fp) (im) (nz) (kz) (sl) (ho) (ua) (st) (op) (ai) (fa) (mu) (tb) (tp) := ⟨ary47, bry47, cry47, dry47, ery47, fry47, gry471, hry47, ⟨_, iry47⟩, ⟨_, jry47⟩, kry47, lry47, mry47, nry47, ory47, pry47⟩
        exact z_rX (z_iret C hr hlk dX9_once_99 (by decide) (by decide) ⟨-1, rfl, rfl, rfl, by omega, hrecy88, fun j j1 j2 => by exact f2 j j1 j2⟩)
      · refine z_iload_n C 3 dX9_once_32 rfl ?_
        refine z_if_ne (tgt := 48) C dX9_once_33 (by decide) (by omega) (fun hby89 => ?_) (fun hby89 => ?_)
        · refine z_aload_n C 1 dX9_once_48 rfl ?_
          refine z_get (v := .ref (ad 890)) C (lt_K hN (rfl : Nat.blt (0) 952 = true)) hay48 ary47 rfl inA_X9 9 (by decide) q_358 rfl rfl dX9_once_49 ?_
          refine z_get (v := .ref (ad (890 + 1))) C (lt_K hN (rfl : Nat.blt (890) 952 = true)) hay55 hwhcy66.1 rfl inA_X8 6 (by decide) q_191 rfl rfl dX9_once_52 ?_
          refine z_iload_n C 2 dX9_once_55 rfl ?_
          obtain ⟨uy90t, uy90z, uy90o, uy90r, uy90z4, uy90t5, uy901, ⟨uy90u, uy902, uy903⟩, uy904⟩ := id lry47
          have hay91 : zAt ad (890) (ad 890) := rfl
          have hay92 : zAt ad (890 + 1) (ad (890 + 1)) := rfl
          refine z_aald C (lt_K hN (rfl : Nat.blt (890 + 1) 952 = true)) hay92 uy902 3 rfl ((z).toNat) (by omega) (by omega) (by decide) (uy903 (z).toNat (by omega)) dX9_once_56 ?_
          have hay93 : zAt ad (890 + 2 + 2 * (z).toNat) (ad (890 + 2 + 2 * (z).toNat)) := rfl
          have hay94 : zAt ad (890 + 2 + 2 * (z).toNat + 1) (ad (890 + 2 + 2 * (z).toNat + 1)) := rfl
          have hpy95 := uy904 (z).toNat (by omega)
          have hqy96 := uy90z4 (z).toNat (by omega)
          refine z_get (v := .int (zI (uy90z (z).toNat))) C (by omega) hay93 hpy95.1 rfl inA_X3 0 (by decide) q_158 rfl rfl dX9_once_57 ?_
          refine z_if_ne (tgt := 67) C dX9_once_60 (by decide) (by omega) (fun hby97 => ?_) (fun hby97 => ?_)
          · refine z_iconst (z := 0) C dX9_once_67 rfl ?_
            refine z_istore (lv' := [(4, .int (zI (0))), (3, .int (zI (i))), (0, .ref (ad 0)), (1, .int (zI (z))), (2, .int (zI (z1)))]) C dX9_once_68 (by decide) rfl ?_
            refine z_iload C 0 dX9_once_70 rfl ?_
            refine z_if_eq (tgt := 77) C dX9_once_72 (by decide) (by omega) (fun _ => ?_) (fun h => absurd h (by omega))
            refine z_aload_n C 2 dX9_once_77 rfl ?_
            refine z_get (v := .ref (ad 890)) C (lt_K hN (rfl : Nat.blt (0) 952 = true)) hay48 ary47 rfl inA_X9 9 (by decide) q_358 rfl rfl dX9_once_78 ?_
            refine z_aload_n C 2 dX9_once_81 rfl ?_
            refine z_get (v := .ref (ad 4)) C (lt_K hN (rfl : Nat.blt (0) 952 = true)) hay48 ary47 rfl inA_X9 4 (by decide) q_353 rfl rfl dX9_once_82 ?_
            refine z_iconst (z := 1) C dX9_once_85 rfl ?_
            refine z_iload_n C 3 dX9_once_86 rfl ?_
            obtain ⟨xy98, exy99, hxy100⟩ := zI_of (zI (1) <<< (zI (z) &&& 31))
            refine z_ishl (z := xy98) C dX9_once_87 exy99 ?_
            refine z_iconst (z := 1) C dX9_once_88 rfl ?_
            refine z_cV (As := [.ref (ad 4), .int (zI (xy98)), .int (zI (1))]) (rest := []) (ci := 10) C (c_X8_hour l D A cs tt N ad _ (890) (by omega) lry47 (4) (by omega) _ _ _ _ _ _ _ _ _ ⟨fry47.1, fry47.2.1, fry47.2.2.1, fry47.2.2.2.1, fry47.2.2.2.2.1, fry47.2.2.2.2.2.1, fry47.2.2.2.2.2.2⟩ (by omega) (by omega) (by omega) (xy98) (by omega) (1) (by omega)) (lt_K hN (rfl : Nat.blt (890) 952 = true)) hay91 uy901 rfl rfl mv_yX8_hour q_435 hd_yX8_hour (by decide) (Nat.le_of_ble_eq_true rfl) (by decide) dX9_once_89 rfl (kV0 fun gvy101 hvy101 => ?_)
            obtain ⟨hkvy101, hfvy101⟩ := hvy101
            have hoky102 : okWorld cs ad gvy101 (890) := hkvy101
            obtain ⟨thcy103, zhcy103, ohcy103, rhcy103, hzhcy103, hthcy103, hwhcy103⟩ := id hoky102
            refine z_iinc (z := i + 1) (lv' := [(3, .int (zI (i + 1))), (4, .int (zI (0))), (0, .ref (ad 0)), (1, .int (zI (z))), (2, .int (zI (z1)))]) (j := 1) C dX9_once_92 rfl rfl (by decide) rfl ?_
            refine z_goto (tgt := 26) C dX9_once_95 (by decide) ?_
            have hgy104 := (hfvy101 (0) (by omega)).trans ary47
            have hgy105 := (hfvy101 (1) (by omega)).trans dry47
            have hpy106 := okState.mv (ad' := ad) (g' := gvy101) (fun j h1 h2 => by rfl) (fun j h1 h2 => by rw [hfvy101 _ (by omega)]) iry47
            have hpy107 := okRdr.mv (ad' := ad) (g' := gvy101) (fun j h1 h2 => by rfl) (fun j h1 h2 => by rw [hfvy101 _ (by omega)]) ery47
            have hpy108 := isPlan.mv (ad' := ad) (g' := gvy101) (fun j h1 h2 => by rfl) (fun j h1 h2 => by rw [hfvy101 _ (by omega)]) fry47
            have hpy109 := okState.mv (ad' := ad) (g' := gvy101) (fun j h1 h2 => by rfl) (fun j h1 h2 => by rw [hfvy101 _ (by omega)]) jry47
            have hpy110 := okPlan.mv (ad' := ad) (g' := gvy101) (fun j h1 h2 => by rfl) (fun j h1 h2 => by rw [hfvy101 _ (by omega)]) kry47
            have hpy111 := okGss.mv (ad' := ad) (g' := gvy101) (fun j h1 h2 => by rfl) (fun j h1 h2 => by rw [hfvy101 _ (by omega)]) nry47
            have hpy112 := okLike.mv (ad' := ad) (g' := gvy101) (fun j h1 h2 => by rfl) (fun j h1 h2 => by rw [hfvy101 _ (by omega)]) ory47
            have hpy113 := okBld.mv (ad' := ad) (g' := gvy101) (fun j h1 h2 => by rfl) (fun j h1 h2 => by rw [hfvy101 _ (by omega)]) pry47
            have hoky114 : okWorld cs ad gvy101 (900) := okWorld.mv (fun j j1 j2 => by rw [hfvy101 _ (by omega)]) mry47
            have hrecy115 : okRec cs ad gvy101 N (t) (fp) (im) (nz) (kz) (sl) (ho) (ua) (st) (op) (ai) (fa) (mu) (tb) (tp) := ⟨hgy104, bry47, cry47, hgy105, hpy107, hpy108, gry471, hry47, ⟨_, hpy106⟩, ⟨_, hpy109⟩, hpy110, hoky102, hoky114, hpy111, hpy112, hpy113⟩
            refine z_lv (lv' := [(3, .int (zI (i + 1))), (0, .ref (ad 0)), (1, .int (zI (z))), (2, .int (zI (z1)))]) [0, 2, 3, 4] rfl ?_
            exact ih_lp26 _ (by omega) (i + 1) gvy101 rfl hrecy115 (fun j j1 j2 => by rw [hfvy101 _ (by omega)]; exact f2 j j1 j2) (by omega) (by omega) (by omega)
          · refine z_iconst (z := 1) C dX9_once_63 rfl ?_
            refine z_goto (tgt := 68) C dX9_once_64 (by decide) ?_
            refine z_istore (lv' := [(4, .int (zI (1))), (3, .int (zI (i))), (0, .ref (ad 0)), (1, .int (zI (z))), (2, .int (zI (z1)))]) C dX9_once_68 (by decide) rfl ?_
            refine z_iload C 0 dX9_once_70 rfl ?_
            refine z_if_eq (tgt := 77) C dX9_once_72 (by decide) (by omega) (fun h => absurd h (by omega)) (fun _ => ?_)
            refine z_iload_n C 1 dX9_once_75 rfl ?_
            have hrecy116 : okRec cs ad g1 N (t) (fp) (im) (nz) (kz) (sl) (ho) (ua) (st) (op) (ai) (fa) (mu) (tb) (tp) := ⟨ary47, bry47, cry47, dry47, ery47, fry47, gry471, hry47, ⟨_, iry47⟩, ⟨_, jry47⟩, kry47, lry47, mry47, nry47, ory47, pry47⟩
            exact z_rX (z_iret C hr hlk dX9_once_76 (by decide) (by decide) ⟨i, rfl, rfl, rfl, by omega, hrecy116, fun j j1 j2 => by exact f2 j j1 j2⟩)
        · refine z_aload_n C 1 dX9_once_36 rfl ?_
          refine z_aload_n C 1 dX9_once_37 rfl ?_
          refine z_get (v := .ref (ad 890)) C (lt_K hN (rfl : Nat.blt (0) 952 = true)) hay48 ary47 rfl inA_X9 9 (by decide) q_358 rfl rfl dX9_once_38 ?_
          refine z_iload_n C 2 dX9_once_41 rfl ?_
          have hrecy118 : okRec cs ad g1 N (t) (fp) (im) (nz) (kz) (sl) (ho) (ua) (st) (op) (ai) (fa) (mu) (tb) (tp) := ⟨ary47, bry47, cry47, dry47, ery47, fry47, gry471, hry47, ⟨_, iry47⟩, ⟨_, jry47⟩, kry47, lry47, mry47, nry47, ory47, pry47⟩
          refine z_cV (As := [.ref (ad 890), .int (zI (z))]) (rest := []) (ci := 11) C (c_X9_isUnstable l D A cs tt N ad _ hN _ _ _ _ _ _ _ _ _ _ _ _ _ _ _ hrecy118 (890) (by omega) lry47 (z) (by omega)) (lt_K hN (rfl : Nat.blt (0) 952 = true)) hay48 ary47 rfl rfl mv_yX9_isUnstable q_560 hd_yX9_isUnstable (by decide) (Nat.le_of_ble_eq_true rfl) (by decide) dX9_once_42 rfl (kI0 fun vy117 gvy117 hvy117 => ?_)
          obtain ⟨hvy117, rfl⟩ := hvy117
          refine z_goto (tgt := 68) C dX9_once_45 (by decide) ?_
          refine z_istore (lv' := [(4, .int (zI (vy117))), (3, .int (zI (i))), (0, .ref (ad 0)), (1, .int (zI (z))), (2, .int (zI (z1)))]) C dX9_once_68 (by decide) rfl ?_
          refine z_iload C 0 dX9_once_70 rfl ?_
          refine z_if_eq (tgt := 77) C dX9_once_72 (by decide) (by omega) (fun hby119 => ?_) (fun hby119 => ?_)
          · refine z_aload_n C 2 dX9_once_77 rfl ?_
            refine z_get (v := .ref (ad 890)) C (lt_K hN (rfl : Nat.blt (0) 952 = true)) hay48 ary47 rfl inA_X9 9 (by decide) q_358 rfl rfl dX9_once_78 ?_
            refine z_aload_n C 2 dX9_once_81 rfl ?_
            refine z_get (v := .ref (ad 4)) C (lt_K hN (rfl : Nat.blt (0) 952 = true)) hay48 ary47 rfl inA_X9 4 (by decide) q_353 rfl rfl dX9_once_82 ?_
            refine z_iconst (z := 1) C dX9_once_85 rfl ?_
            refine z_iload_n C 3 dX9_once_86 rfl ?_
            obtain ⟨xy120, exy121, hxy122⟩ := zI_of (zI (1) <<< (zI (z) &&& 31))
            refine z_ishl (z := xy120) C dX9_once_87 exy121 ?_
            refine z_iconst (z := 1) C dX9_once_88 rfl ?_
            refine z_cV (As := [.ref (ad 4), .int (zI (xy120)), .int (zI (1))]) (rest := []) (ci := 10) C (c_X8_hour l D A cs tt N ad _ (890) (by omega) lry47 (4) (by omega) _ _ _ _ _ _ _ _ _ ⟨fry47.1, fry47.2.1, fry47.2.2.1, fry47.2.2.2.1, fry47.2.2.2.2.1, fry47.2.2.2.2.2.1, fry47.2.2.2.2.2.2⟩ (by omega) (by omega) (by omega) (xy120) (by omega) (1) (by omega)) (lt_K hN (rfl : Nat.blt (890) 952 = true)) hay55 hwhcy66.1 rfl rfl mv_yX8_hour q_435 hd_yX8_hour (by decide) (Nat.le_of_ble_eq_true rfl) (by decide) dX9_once_89 rfl (kV0 fun gvy123 hvy123 => ?_)
            obtain ⟨hkvy123, hfvy123⟩ := hvy123
            have hoky124 : okWorld cs ad gvy123 (890) := hkvy123
            obtain ⟨thcy125, zhcy125, ohcy125, rhcy125, hzhcy125, hthcy125, hwhcy125⟩ := id hoky124
            refine z_iinc (z := i + 1) (lv' := [(3, .int (zI (i + 1))), (4, .int (zI (vy117))), (0, .ref (ad 0)), (1, .int (zI (z))), (2, .int (zI (z1)))]) (j := 1) C dX9_once_92 rfl rfl (by decide) rfl ?_
            refine z_goto (tgt := 26) C dX9_once_95 (by decide) ?_
            have hgy126 := (hfvy123 (0) (by omega)).trans ary47
            have hgy127 := (hfvy123 (1) (by omega)).trans dry47
            have hpy128 := okState.mv (ad' := ad) (g' := gvy123) (fun j h1 h2 => by rfl) (fun j h1 h2 => by rw [hfvy123 _ (by omega)]) iry47
            have hpy129 := okRdr.mv (ad' := ad) (g' := gvy123) (fun j h1 h2 => by rfl) (fun j h1 h2 => by rw [hfvy123 _ (by omega)]) ery47
            have hpy130 := isPlan.mv (ad' := ad) (g' := gvy123) (fun j h1 h2 => by rfl) (fun j h1 h2 => by rw [hfvy123 _ (by omega)]) fry47
            have hpy131 := okState.mv (ad' := ad) (g' := gvy123) (fun j h1 h2 => by rfl) (fun j h1 h2 => by rw [hfvy123 _ (by omega)]) jry47
            have hpy132 := okPlan.mv (ad' := ad) (g' := gvy123) (fun j h1 h2 => by rfl) (fun j h1 h2 => by rw [hfvy123 _ (by omega)]) kry47
            have hpy133 := okGss.mv (ad' := ad) (g' := gvy123) (fun j h1 h2 => by rfl) (fun j h1 h2 => by rw [hfvy123 _ (by omega)]) nry47
            have hpy134 := okLike.mv (ad' := ad) (g' := gvy123) (fun j h1 h2 => by rfl) (fun j h1 h2 => by rw [hfvy123 _ (by omega)]) ory47
            have hpy135 := okBld.mv (ad' := ad) (g' := gvy123) (fun j h1 h2 => by rfl) (fun j h1 h2 => by rw [hfvy123 _ (by omega)]) pry47
            have hoky136 : okWorld cs ad gvy123 (900) := okWorld.mv (fun j j1 j2 => by rw [hfvy123 _ (by omega)]) mry47
            have hrecy137 : okRec cs ad gvy123 N (t) (fp) (im) (nz) (kz) (sl) (ho) (ua) (st) (op) (ai) (fa) (mu) (tb) (tp) := ⟨hgy126, bry47, cry47, hgy127, hpy129, hpy130, gry471, hry47, ⟨_, hpy128⟩, ⟨_, hpy131⟩, hpy132, hoky124, hoky136, hpy133, hpy134, hpy135⟩
            refine z_lv (lv' := [(3, .int (zI (i + 1))), (0, .ref (ad 0)), (1, .int (zI (z))), (2, .int (zI (z1)))]) [0, 2, 3, 4] rfl ?_
            exact ih_lp26 _ (by omega) (i + 1) gvy123 rfl hrecy137 (fun j j1 j2 => by rw [hfvy123 _ (by omega)]; exact f2 j j1 j2) (by omega) (by omega) (by omega)
          · refine z_iload_n C 1 dX9_once_75 rfl ?_
            have hrecy138 : okRec cs ad g1 N (t) (fp) (im) (nz) (kz) (sl) (ho) (ua) (st) (op) (ai) (fa) (mu) (tb) (tp) := ⟨ary47, bry47, cry47, dry47, ery47, fry47, gry471, hry47, ⟨_, iry47⟩, ⟨_, jry47⟩, kry47, lry47, mry47, nry47, ory47, pry47⟩
            exact z_rX (z_iret C hr hlk dX9_once_76 (by decide) (by decide) ⟨i, rfl, rfl, rfl, by omega, hrecy138, fun j j1 j2 => by exact f2 j j1 j2⟩)
  have hgy139 := (hfvy44 (0) (by omega)).trans ary1
  have hgy140 := (hfvy44 (1) (by omega)).trans dry1
  have hpy141 := okState.mv (ad' := ad) (g' := gvy44) (fun j h1 h2 => by rfl) (fun j h1 h2 => by rw [hfvy44 _ (by omega)]) iry1
  have hpy142 := okRdr.mv (ad' := ad) (g' := gvy44) (fun j h1 h2 => by rfl) (fun j h1 h2 => by rw [hfvy44 _ (by omega)]) ery1
  have hpy143 := isPlan.mv (ad' := ad) (g' := gvy44) (fun j h1 h2 => by rfl) (fun j h1 h2 => by rw [hfvy44 _ (by omega)]) fry1
  have hpy144 := okState.mv (ad' := ad) (g' := gvy44) (fun j h1 h2 => by rfl) (fun j h1 h2 => by rw [hfvy44 _ (by omega)]) jry1
  have hpy145 := okPlan.mv (ad' := ad) (g' := gvy44) (fun j h1 h2 => by rfl) (fun j h1 h2 => by rw [hfvy44 _ (by omega)]) kry1
  have hpy146 := okGss.mv (ad' := ad) (g' := gvy44) (fun j h1 h2 => by rfl) (fun j h1 h2 => by rw [hfvy44 _ (by omega)]) nry1
  have hpy147 := okLike.mv (ad' := ad) (g' := gvy44) (fun j h1 h2 => by rfl) (fun j h1 h2 => by rw [hfvy44 _ (by omega)]) ory1
  have hpy148 := okBld.mv (ad' := ad) (g' := gvy44) (fun j h1 h2 => by rfl) (fun j h1 h2 => by rw [hfvy44 _ (by omega)]) pry1
  have hoky149 : okWorld cs ad gvy44 (900) := okWorld.mv (fun j j1 j2 => by rw [hfvy44 _ (by omega)]) mry1
  have hrecy150 : okRec cs ad gvy44 N (t) (fp) (im) (nz) (kz) (sl) (ho) (ua) (st) (op) (ai) (fa) (mu) (tb) (tp) := ⟨hgy139, bry1, cry1, hgy140, hpy142, hpy143, gry11, hry1, ⟨_, hpy141⟩, ⟨_, hpy144⟩, hpy145, hoky45, hoky149, hpy146, hpy147, hpy148⟩
  refine z_lv (lv' := [(3, .int (zI (0))), (0, .ref (ad 0)), (1, .int (zI (z))), (2, .int (zI (z1)))]) [0, 1, 2, 3] rfl ?_
  exact lp26 _ (0) gvy44 rfl hrecy150 (fun j j1 j2 => by rw [hfvy44 _ (by omega)]) (by omega) (by omega) (by omega)

set_option maxRecDepth 100000 in
set_option maxHeartbeats 4000000 in
theorem c_X9_gone (l : Launch) (D : va_G) (A : Nat → Prop) (cs : Nat → ClassId) (tt : Nat) (N : Nat) (ad : Nat → Nat) (g : Nat → va_E) (hN : 952 ≤ N) (t fp im nz kz sl ho ua : Int) (st op ai fa mu tb tp : Nat → Int) (hR : okRec cs ad g N t fp im nz kz sl ho ua st op ai fa mu tb tp) (hl0 : l.stackTraces = false) (z : Int) (hz : -2147483648 ≤ z ∧ z ≤ 2147483647) : zMX l yX9_gone cX9_gone 3 (some .int) ({ frames := 12, cells := 6, slots := 60, locals := 720 } : Room) D A cs tt N ad g [.ref (ad 0), .int (zI (z))] (rI0 N ad fun r g' => (-2147483648 ≤ r ∧ r ≤ 2147483647) ∧ okRec cs ad g' N t fp im nz kz sl ho ua st op ai fa mu tb tp ∧ oX g g') (fun E N' ad' g' => E = eNS ∧ N' = N ∧ ad' = ad ∧ g' = g) := by
  obtain ⟨ary1, bry1, cry1, dry1, ery1, fry1, gry11, hry1, ⟨acry1, iry1⟩, ⟨kcry1, jry1⟩, kry1, lry1, mry1, nry1, ory1, pry1⟩ := id hR
  have hay2 : zAt ad (0) (ad 0) := rfl
  have hay3 : zAt ad (1) (ad 1) := rfl
  have hay4 : zAt ad (2) (ad 2) := rfl
  have hay5 : zAt ad (4) (ad 4) := rfl
  have hay6 : zAt ad (11) (ad 11) := rfl
  have hay7 : zAt ad (447) (ad 447) := rfl
  have hay8 : zAt ad (883) (ad 883) := rfl
  have hay9 : zAt ad (890) (ad 890) := rfl
  have hay10 : zAt ad (900) (ad 900) := rfl
  have hay11 : zAt ad (910) (ad 910) := rfl
  have hay12 : zAt ad (917) (ad 917) := rfl
  have hay13 : zAt ad (919) (ad 919) := rfl
  have hay14 : zAt ad (4 + 1) (ad (4 + 1)) := rfl
  have hay15 : zAt ad (4 + 2) (ad (4 + 2)) := rfl
  have hay16 : zAt ad (4 + 3) (ad (4 + 3)) := rfl
  have hay17 : zAt ad (4 + 4) (ad (4 + 4)) := rfl
  have hay18 : zAt ad (4 + 5) (ad (4 + 5)) := rfl
  have hay19 : zAt ad (4 + 6) (ad (4 + 6)) := rfl
  obtain ⟨thcy20, zhcy20, ohcy20, rhcy20, hzhcy20, hthcy20, hwhcy20⟩ := id lry1
  obtain ⟨thcy21, zhcy21, ohcy21, rhcy21, hzhcy21, hthcy21, hwhcy21⟩ := id mry1
  obtain ⟨asy22, bsy22, csy22, dsy22, esy22, ⟨ptsy22, fsy22, gsy221⟩, hsy22, ⟨nusy22, nvsy22, nwsy22, isy22, jsy22, ksy22, lsy22, msy22, nsy22⟩, rfsy22, osy22⟩ := id iry1
  have hay23 : zAt ad (11 + 1) (ad (11 + 1)) := rfl
  have hay24 : zAt ad (11 + 11) (ad (11 + 11)) := rfl
  have hay25 : zAt ad (11 + 12) (ad (11 + 12)) := rfl
  have hay26 : zAt ad (11 + 13) (ad (11 + 13)) := rfl
  have hay27 : zAt ad (11 + 13 + 1) (ad (11 + 13 + 1)) := rfl
  have hay28 : zAt ad (11 + 13 + 2) (ad (11 + 13 + 2)) := rfl
  have hay29 : zAt ad (11 + 13 + 3) (ad (11 + 13 + 3)) := rfl
  have hay30 : zAt ad (11 + 17) (ad (11 + 17)) := rfl
  obtain ⟨uy31t, uy31z, uy31o, uy31r, uy31z4, uy31t5, uy311, ⟨uy31u, uy312, uy313⟩, uy314⟩ := id csy22
  have hay32 : zAt ad (11 + 1) (ad (11 + 1)) := rfl
  have hay33 : zAt ad (11 + 1 + 1) (ad (11 + 1 + 1)) := rfl
  obtain ⟨sloy34, hooy34, uaoy34, stoy34, opoy34, aioy34, faoy34, muoy34, tboy34, hsloy34, hhooy34, hpoy34⟩ := id kry1
  have hay35 : zAt ad (883 + 1) (ad (883 + 1)) := rfl
  have hay36 : zAt ad (883 + 2) (ad (883 + 2)) := rfl
  have hay37 : zAt ad (883 + 3) (ad (883 + 3)) := rfl
  have hay38 : zAt ad (883 + 4) (ad (883 + 4)) := rfl
  have hay39 : zAt ad (883 + 5) (ad (883 + 5)) := rfl
  have hay40 : zAt ad (883 + 6) (ad (883 + 6)) := rfl
  refine z_ofX (by decide) (Nat.le_of_ble_eq_true rfl) ?_
  intro p e s m below meth c C hr hlk hxt
  refine z_lv (lv' := [(0, .ref (ad 0)), (1, .int (zI (z)))]) [0, 1] rfl ?_
  refine z_iload_n C 1 dX9_gone_0 rfl ?_
  refine z_if_lt (tgt := 18) C dX9_gone_1 (by decide) (by omega) (fun hby41 => ?_) (fun hby41 => ?_)
  · exact z_thrNW (cls := eNS) (text := "that name isn't given") C hl0 (ix := 13) (rx := nsB) ns0 ns1 ns2 ns5 (by decide +kernel) q_904 q_24 (by decide +kernel) at_NS gd_NS dX9_gone_18 dX9_gone_21 dX9_gone_22 dX9_gone_25 dX9_gone_28 hxt (by decide) (Nat.le_of_ble_eq_true rfl) (by decide) (by decide) hlk (by decide) (by decide) ⟨rfl, rfl, rfl, rfl⟩
  · refine z_iload_n C 1 dX9_gone_4 rfl ?_
    refine z_aload_n C 0 dX9_gone_5 rfl ?_
    refine z_get (v := .ref (ad 11)) C (lt_K hN (rfl : Nat.blt (0) 952 = true)) hay2 ary1 rfl inA_X9 5 (by decide) q_354 rfl rfl dX9_gone_6 ?_
    refine z_get (v := .ref (ad (11 + 1))) C (lt_K hN (rfl : Nat.blt (11) 952 = true)) hay6 iry1.1 rfl inA_X6 0 (by decide) q_258 rfl rfl dX9_gone_9 ?_
    refine z_get (v := .int (zI (uy31t 1))) C (lt_K hN (rfl : Nat.blt (11 + 1) 952 = true)) hay32 uy311 rfl inA_X8 1 (by decide) q_177 rfl rfl dX9_gone_12 ?_
    obtain ⟨xy42, exy43, hxy44⟩ := zI_of (zI (uy31t 1))
    rw [exy43]
    refine z_icmp_lt (tgt := 29) C dX9_gone_15 (by decide) (by omega) (by omega) (fun hby45 => ?_) (fun hby45 => ?_)
    · refine z_aload_n C 0 dX9_gone_29 rfl ?_
      refine z_get (v := .ref (ad 890)) C (lt_K hN (rfl : Nat.blt (0) 952 = true)) hay2 ary1 rfl inA_X9 9 (by decide) q_358 rfl rfl dX9_gone_30 ?_
      refine z_aload_n C 0 dX9_gone_33 rfl ?_
      refine z_get (v := .ref (ad 11)) C (lt_K hN (rfl : Nat.blt (0) 952 = true)) hay2 ary1 rfl inA_X9 5 (by decide) q_354 rfl rfl dX9_gone_34 ?_
      refine z_get (v := .ref (ad (11 + 1))) C (lt_K hN (rfl : Nat.blt (11) 952 = true)) hay6 iry1.1 rfl inA_X6 0 (by decide) q_258 rfl rfl dX9_gone_37 ?_
      refine z_cV (As := [.ref (ad (11 + 1))]) (rest := []) (ci := 10) C (c_X8_copyFrom l D A cs tt N ad _ (890) (by omega) lry1 (11 + 1) (by omega) csy22 (by omega)) (lt_K hN (rfl : Nat.blt (890) 952 = true)) hay9 hwhcy20.1 rfl rfl mv_yX8_copyFrom q_1228 hd_yX8_copyFrom (by decide) (Nat.le_of_ble_eq_true rfl) (by decide) dX9_gone_40 rfl (kV0 fun gvy46 hvy46 => ?_)
      obtain ⟨⟨tvy46, zvy46, ovy46, rvy46, hzvy46, htvy46, -, hwvy46⟩, hfvy46⟩ := hvy46
      have hoky47 : okWorld cs ad gvy46 (890) := ⟨_, _, _, _, hzvy46, htvy46, hwvy46⟩
      obtain ⟨thcy48, zhcy48, ohcy48, rhcy48, hzhcy48, hthcy48, hwhcy48⟩ := id hoky47
      refine z_iconst (z := 0) C dX9_gone_43 rfl ?_
      refine z_istore_n (lv' := [(2, .int (zI (0))), (0, .ref (ad 0)), (1, .int (zI (z)))]) C dX9_gone_44 rfl (by decide) rfl ?_
      have lp45 : ∀ (n9 : Nat) (i : Int) (g1 : Nat → va_E), (73 - i).toNat = n9 → (okRec cs ad g1 N t fp im nz kz sl ho ua st op ai fa mu tb tp) → (oX g g1) → (0 ≤ i ∧ i ≤ 73) → zV p l e ({ frames := 12, cells := 6, slots := 60, locals := 720 } : Room) s m ([.ref (ad 0), .int (zI (z))] : List Value).toArray below meth c (vx_MQ below (zPost D A (rI0 N ad fun r g' => (-2147483648 ≤ r ∧ r ≤ 2147483647) ∧ okRec cs ad g' N t fp im nz kz sl ho ua st op ai fa mu tb tp ∧ oX g g')) (zX D A (fun E N' ad' g' => E = eNS ∧ N' = N ∧ ad' = ad ∧ g' = g)) ([.ref (ad 0), .int (zI (z))] : List Value).toArray s ({ frames := 12, cells := 6, slots := 60, locals := 720 } : Room).cells ({ frames := 12, cells := 6, slots := 60, locals := 720 } : Room).slots A) D A 3 (N) ad g1 (0) (0) 45 [(2, .int (zI (i))), (0, .ref (ad 0)), (1, .int (zI (z)))] [] := by
        intro n9
        induction n9 using Nat.strongRecOn with
        | ind n9 ih_lp45 =>
          intro i g1 hm9 f1 f2 hv45_0
          obtain ⟨ary49, bry49, cry49, dry49, ery49, fry49, gry491, hry49, ⟨acry49, iry49⟩, ⟨kcry49, jry49⟩, kry49, lry49, mry49, nry49, ory49, pry49⟩ := id f1
          have hay50 : zAt ad (0) (ad 0) := rfl
          have hay51 : zAt ad (1) (ad 1) := rfl
          have hay52 : zAt ad (2) (ad 2) := rfl
          have hay53 : zAt ad (4) (ad 4) := rfl
          have hay54 : zAt ad (11) (ad 11) := rfl
          have hay55 : zAt ad (447) (ad 447) := rfl
          have hay56 : zAt ad (883) (ad 883) := rfl
          have hay57 : zAt ad (890) (ad 890) := rfl
          have hay58 : zAt ad (900) (ad 900) := rfl
          have hay59 : zAt ad (910) (ad 910) := rfl
          have hay60 : zAt ad (917) (ad 917) := rfl
          have hay61 : zAt ad (919) (ad 919) := rfl
          have hay62 : zAt ad (4 + 1) (ad (4 + 1)) := rfl
          have hay63 : zAt ad (4 + 2) (ad (4 + 2)) := rfl
          have hay64 : zAt ad (4 + 3) (ad (4 + 3)) := rfl
          have hay65 : zAt ad (4 + 4) (ad (4 + 4)) := rfl
          have hay66 : zAt ad (4 + 5) (ad (4 + 5)) := rfl
          have hay67 : zAt ad (4 + 6) (ad (4 + 6)) := rfl
          obtain ⟨thcy68, zhcy68, ohcy68, rhcy68, hzhcy68, hthcy68, hwhcy68⟩ := id lry49
          obtain ⟨thcy69, zhcy69, ohcy69, rhcy69, hzhcy69, hthcy69, hwhcy69⟩ := id mry49
          obtain ⟨asy70, bsy70, csy70, dsy70, esy70, ⟨ptsy70, fsy70, gsy701⟩, hsy70, ⟨nusy70, nvsy70, nwsy70, isy70, jsy70, ksy70, lsy70, msy70, nsy70⟩, rfsy70, osy70⟩ := id iry49
          have hay71 : zAt ad (11 + 1) (ad (11 + 1)) := rfl
          have hay72 : zAt ad (11 + 11) (ad (11 + 11)) := rfl
          have hay73 : zAt ad (11 + 12) (ad (11 + 12)) := rfl
          have hay74 : zAt ad (11 + 13) (ad (11 + 13)) := rfl
          have hay75 : zAt ad (11 + 13 + 1) (ad (11 + 13 + 1)) := rfl
          have hay76 : zAt ad (11 + 13 + 2) (ad (11 + 13 + 2)) := rfl
          have hay77 : zAt ad (11 + 13 + 3) (ad (11 + 13 + 3)) := rfl
          have hay78 : zAt ad (11 + 17) (ad (11 + 17)) := rfl
          obtain ⟨uy79t, uy79z, uy79o, uy79r, uy79z4, uy79t5, uy791, ⟨uy79u, uy792, uy793⟩, uy794⟩ := id csy70
          have hay80 : zAt ad (11 + 1) (ad (11 + 1)) := rfl
          have hay81 : zAt ad (11 + 1 + 1) (ad (11 + 1 + 1)) := rfl
          obtain ⟨sloy82, hooy82, uaoy82, stoy82, opoy82, aioy82, faoy82, muoy82, tboy82, hsloy82, hhooy82, hpoy82⟩ := id kry49
          have hay83 : zAt ad (883 + 1) (ad (883 + 1)) := rfl
          have hay84 : zAt ad (883 + 2) (ad (883 + 2)) := rfl
          have hay85 : zAt ad (883 + 3) (ad (883 + 3)) := rfl
          have hay86 : zAt ad (883 + 4) (ad (883 + 4)) := rfl
          have hay87 : zAt ad (883 + 5) (ad (883 + 5)) := rfl
          have hay88 : zAt ad (883 + 6) (ad (883 + 6)) := rfl
          refine z_iload_n C 0 dX9_gone_45 rfl ?_
          refine z_bipush (z := 72) C dX9_gone_46 (by decide) ?_
          refine z_icmp_gt (tgt := 89) C dX9_gone_48 (by decide) (by omega) (by omega) (fun hby89 => ?_) (fun hby89 => ?_)
          · refine z_iconst (z := -1) C dX9_gone_89 rfl ?_
            have hrecy90 : okRec cs ad g1 N (t) (fp) (im) (nz) (kz) (sl) (ho) (ua) (st) (op) (ai) (fa) (mu) (tb) (tp) := ⟨ary49, bry49, cry49, dry49, ery49, fry49, gry491, hry49, ⟨_, iry49⟩, ⟨_, jry49⟩, kry49, lry49, mry49, nry49, ory49, pry49⟩
            exact z_rX (z_iret C hr hlk dX9_gone_90 (by decide) (by decide) ⟨-1, rfl, rfl, rfl, by omega, hrecy90, fun j j1 j2 => by exact f2 j j1 j2⟩)
          · refine z_aload_n C 1 dX9_gone_51 rfl ?_
            refine z_get (v := .ref (ad 890)) C (lt_K hN (rfl : Nat.blt (0) 952 = true)) hay50 ary49 rfl inA_X9 9 (by decide) q_358 rfl rfl dX9_gone_52 ?_
            refine z_iload_n C 2 dX9_gone_55 rfl ?_
            refine z_cV (As := [.int (zI (z))]) (rest := []) (ci := 10) C (c_X8_has l D A cs tt N ad _ (890) (by omega) lry49 (z) (by omega)) (lt_K hN (rfl : Nat.blt (890) 952 = true)) hay57 hwhcy68.1 rfl rfl mv_yX8_has q_1248 hd_yX8_has (by decide) (Nat.le_of_ble_eq_true rfl) (by decide) dX9_gone_56 rfl (kI0 fun vy91 gvy91 hvy91 => ?_)
            obtain ⟨hvy91, rfl⟩ := hvy91
            refine z_if_ne (tgt := 64) C dX9_gone_59 (by decide) (by omega) (fun hby92 => ?_) (fun hby92 => ?_)
            · refine z_aload_n C 1 dX9_gone_64 rfl ?_
              refine z_get (v := .ref (ad 890)) C (lt_K hN (rfl : Nat.blt (0) 952 = true)) hay50 ary49 rfl inA_X9 9 (by decide) q_358 rfl rfl dX9_gone_65 ?_
              refine z_aload_n C 1 dX9_gone_68 rfl ?_
              refine z_get (v := .ref (ad 4)) C (lt_K hN (rfl : Nat.blt (0) 952 = true)) hay50 ary49 rfl inA_X9 4 (by decide) q_353 rfl rfl dX9_gone_69 ?_
              refine z_aload_n C 1 dX9_gone_72 rfl ?_
              refine z_get (v := .ref (ad 4)) C (lt_K hN (rfl : Nat.blt (0) 952 = true)) hay50 ary49 rfl inA_X9 4 (by decide) q_353 rfl rfl dX9_gone_73 ?_
              refine z_cV (As := []) (rest := [.ref (ad 4), .ref (ad 890)]) (ci := 7) C (c_X5_allSlopes l D A cs tt N ad _ (4) (by omega) _ _ _ _ _ _ _ _ _ ⟨fry49.1, fry49.2.1, fry49.2.2.1, fry49.2.2.2.1, fry49.2.2.2.2.1, fry49.2.2.2.2.2.1, fry49.2.2.2.2.2.2⟩) (lt_K hN (rfl : Nat.blt (4) 952 = true)) hay53 fry49.1 rfl rfl mv_yX5_allSlopes q_431 hd_yX5_allSlopes (by decide) (Nat.le_of_ble_eq_true rfl) (by decide) dX9_gone_76 rfl (kI0 fun vy93 gvy93 hvy93 => ?_)
              obtain ⟨hvy93, rfl⟩ := hvy93
              refine z_iconst (z := 1) C dX9_gone_79 rfl ?_
              refine z_cV (As := [.ref (ad 4), .int (zI (vy93)), .int (zI (1))]) (rest := []) (ci := 10) C (c_X8_hour l D A cs tt N ad _ (890) (by omega) lry49 (4) (by omega) _ _ _ _ _ _ _ _ _ ⟨fry49.1, fry49.2.1, fry49.2.2.1, fry49.2.2.2.1, fry49.2.2.2.2.1, fry49.2.2.2.2.2.1, fry49.2.2.2.2.2.2⟩ (by omega) (by omega) (by omega) (vy93) (by omega) (1) (by omega)) (lt_K hN (rfl : Nat.blt (890) 952 = true)) hay57 hwhcy68.1 rfl rfl mv_yX8_hour q_435 hd_yX8_hour (by decide) (Nat.le_of_ble_eq_true rfl) (by decide) dX9_gone_80 rfl (kV0 fun gvy94 hvy94 => ?_)
              obtain ⟨hkvy94, hfvy94⟩ := hvy94
              have hoky95 : okWorld cs ad gvy94 (890) := hkvy94
              obtain ⟨thcy96, zhcy96, ohcy96, rhcy96, hzhcy96, hthcy96, hwhcy96⟩ := id hoky95
              refine z_iinc (z := i + 1) (lv' := [(2, .int (zI (i + 1))), (0, .ref (ad 0)), (1, .int (zI (z)))]) (j := 0) C dX9_gone_83 rfl rfl (by decide) rfl ?_
              refine z_goto (tgt := 45) C dX9_gone_86 (by decide) ?_
              have hgy97 := (hfvy94 (0) (by omega)).trans ary49
              have hgy98 := (hfvy94 (1) (by omega)).trans dry49
              have hpy99 := okState.mv (ad' := ad) (g' := gvy94) (fun j h1 h2 => by rfl) (fun j h1 h2 => by rw [hfvy94 _ (by omega)]) iry49
              have hpy100 := okRdr.mv (ad' := ad) (g' := gvy94) (fun j h1 h2 => by rfl) (fun j h1 h2 => by rw [hfvy94 _ (by omega)]) ery49
              have hpy101 := isPlan.mv (ad' := ad) (g' := gvy94) (fun j h1 h2 => by rfl) (fun j h1 h2 => by rw [hfvy94 _ (by omega)]) fry49
              have hpy102 := okState.mv (ad' := ad) (g' := gvy94) (fun j h1 h2 => by rfl) (fun j h1 h2 => by rw [hfvy94 _ (by omega)]) jry49
              have hpy103 := okPlan.mv (ad' := ad) (g' := gvy94) (fun j h1 h2 => by rfl) (fun j h1 h2 => by rw [hfvy94 _ (by omega)]) kry49
              have hpy104 := okGss.mv (ad' := ad) (g' := gvy94) (fun j h1 h2 => by rfl) (fun j h1 h2 => by rw [hfvy94 _ (by omega)]) nry49
              have hpy105 := okLike.mv (ad' := ad) (g' := gvy94) (fun j h1 h2 => by rfl) (fun j h1 h2 => by rw [hfvy94 _ (by omega)]) ory49
              have hpy106 := okBld.mv (ad' := ad) (g' := gvy94) (fun j h1 h2 => by rfl) (fun j h1 h2 => by rw [hfvy94 _ (by omega)]) pry49
              have hoky107 : okWorld cs ad gvy94 (900) := okWorld.mv (fun j j1 j2 => by rw [hfvy94 _ (by omega)]) mry49
              have hrecy108 : okRec cs ad gvy94 N (t) (fp) (im) (nz) (kz) (sl) (ho) (ua) (st) (op) (ai) (fa) (mu) (tb) (tp) := ⟨hgy97, bry49, cry49, hgy98, hpy100, hpy101, gry491, hry49, ⟨_, hpy99⟩, ⟨_, hpy102⟩, hpy103, hoky95, hoky107, hpy104, hpy105, hpy106⟩
              refine z_lv (lv' := [(2, .int (zI (i + 1))), (0, .ref (ad 0)), (1, .int (zI (z)))]) [0, 1, 2] rfl ?_
              exact ih_lp45 _ (by omega) (i + 1) gvy94 rfl hrecy108 (fun j j1 j2 => by rw [hfvy94 _ (by omega)]; exact f2 j j1 j2) (by omega)
            · refine z_iload_n C 0 dX9_gone_62 rfl ?_
              have hrecy109 : okRec cs ad g1 N (t) (fp) (im) (nz) (kz) (sl) (ho) (ua) (st) (op) (ai) (fa) (mu) (tb) (tp) := ⟨ary49, bry49, cry49, dry49, ery49, fry49, gry491, hry49, ⟨_, iry49⟩, ⟨_, jry49⟩, kry49, lry49, mry49, nry49, ory49, pry49⟩
              exact z_rX (z_iret C hr hlk dX9_gone_63 (by decide) (by decide) ⟨i, rfl, rfl, rfl, by omega, hrecy109, fun j j1 j2 => by exact f2 j j1 j2⟩)
      have hgy110 := (hfvy46 (0) (by omega)).trans ary1
      have hgy111 := (hfvy46 (1) (by omega)).trans dry1
      have hpy112 := okState.mv (ad' := ad) (g' := gvy46) (fun j h1 h2 => by rfl) (fun j h1 h2 => by rw [hfvy46 _ (by omega)]) iry1
      have hpy113 := okRdr.mv (ad' := ad) (g' := gvy46) (fun j h1 h2 => by rfl) (fun j h1 h2 => by rw [hfvy46 _ (by omega)]) ery1
      have hpy114 := isPlan.mv (ad' := ad) (g' := gvy46) (fun j h1 h2 => by rfl) (fun j h1 h2 => by rw [hfvy46 _ (by omega)]) fry1
      have hpy115 := okState.mv (ad' := ad) (g' := gvy46) (fun j h1 h2 => by rfl) (fun j h1 h2 => by rw [hfvy46 _ (by omega)]) jry1
      have hpy116 := okPlan.mv (ad' := ad) (g' := gvy46) (fun j h1 h2 => by rfl) (fun j h1 h2 => by rw [hfvy46 _ (by omega)]) kry1
      have hpy117 := okGss.mv (ad' := ad) (g' := gvy46) (fun j h1 h2 => by rfl) (fun j h1 h2 => by rw [hfvy46 _ (by omega)]) nry1
      have hpy118 := okLike.mv (ad' := ad) (g' := gvy46) (fun j h1 h2 => by rfl) (fun j h1 h2 => by rw [hfvy46 _ (by omega)]) ory1
      have hpy119 := okBld.mv (ad' := ad) (g' := gvy46) (fun j h1 h2 => by rfl) (fun j h1 h2 => by rw [hfvy46 _ (by omega)]) pry1
      have hoky120 : okWorld cs ad gvy46 (900) := okWorld.mv (fun j j1 j2 => by rw [hfvy46 _ (by omega)]) mry1
      have hrecy121 : okRec cs ad gvy46 N (t) (fp) (im) (nz) (kz) (sl) (ho) (ua) (st) (op) (ai) (fa) (mu) (tb) (tp) := ⟨hgy110, bry1, cry1, hgy111, hpy113, hpy114, gry11, hry1, ⟨_, hpy112⟩, ⟨_, hpy115⟩, hpy116, hoky47, hoky120, hpy117, hpy118, hpy119⟩
      refine z_lv (lv' := [(2, .int (zI (0))), (0, .ref (ad 0)), (1, .int (zI (z)))]) [0, 1, 2] rfl ?_
      exact lp45 _ (0) gvy46 rfl hrecy121 (fun j j1 j2 => by rw [hfvy46 _ (by omega)]) (by omega)
    · exact z_thrNW (cls := eNS) (text := "that name isn't given") C hl0 (ix := 13) (rx := nsB) ns0 ns1 ns2 ns5 (by decide +kernel) q_904 q_24 (by decide +kernel) at_NS gd_NS dX9_gone_18 dX9_gone_21 dX9_gone_22 dX9_gone_25 dX9_gone_28 hxt (by decide) (Nat.le_of_ble_eq_true rfl) (by decide) (by decide) hlk (by decide) (by decide) ⟨rfl, rfl, rfl, rfl⟩

set_option maxRecDepth 100000 in
set_option maxHeartbeats 4000000 in
theorem c_X9_then (l : Launch) (D : va_G) (A : Nat → Prop) (cs : Nat → ClassId) (tt : Nat) (N : Nat) (ad : Nat → Nat) (g : Nat → va_E) (hN : 952 ≤ N) (t fp im nz kz sl ho ua : Int) (st op ai fa mu tb tp : Nat → Int) (hR : okRec cs ad g N t fp im nz kz sl ho ua st op ai fa mu tb tp) (hl0 : l.stackTraces = false) (z : Int) (hz : -2147483648 ≤ z ∧ z ≤ 2147483647) (z1 : Int) (hz1 : -2147483648 ≤ z1 ∧ z1 ≤ 2147483647) (z2 : Int) (hz2 : -2147483648 ≤ z2 ∧ z2 ≤ 2147483647) : zMX l yX9_then cX9_then 6 (some .int) ({ frames := 12, cells := 6, slots := 60, locals := 720 } : Room) D A cs tt N ad g [.ref (ad 0), .int (zI (z)), .int (zI (z1)), .int (zI (z2))] (rI0 N ad fun r g' => (-2147483648 ≤ r ∧ r ≤ 2147483647) ∧ okRec cs ad g' N t fp im nz kz sl ho ua st op ai fa mu tb tp ∧ oX g g') (fun E N' ad' g' => (E = eNS ∨ E = eIA) ∧ N' = N ∧ ad' = ad ∧ g' = g) := by
  obtain ⟨ary1, bry1, cry1, dry1, ery1, fry1, gry11, hry1, ⟨acry1, iry1⟩, ⟨kcry1, jry1⟩, kry1, lry1, mry1, nry1, ory1, pry1⟩ := id hR
  have hay2 : zAt ad (0) (ad 0) := rfl
  have hay3 : zAt ad (1) (ad 1) := rfl
  have hay4 : zAt ad (2) (ad 2) := rfl
  have hay5 : zAt ad (4) (ad 4) := rfl
  have hay6 : zAt ad (11) (ad 11) := rfl
  have hay7 : zAt ad (447) (ad 447) := rfl
  have hay8 : zAt ad (883) (ad 883) := rfl
  have hay9 : zAt ad (890) (ad 890) := rfl
  have hay10 : zAt ad (900) (ad 900) := rfl
  have hay11 : zAt ad (910) (ad 910) := rfl
  have hay12 : zAt ad (917) (ad 917) := rfl
  have hay13 : zAt ad (919) (ad 919) := rfl
  have hay14 : zAt ad (4 + 1) (ad (4 + 1)) := rfl
  have hay15 : zAt ad (4 + 2) (ad (4 + 2)) := rfl
  have hay16 : zAt ad (4 + 3) (ad (4 + 3)) := rfl
  have hay17 : zAt ad (4 + 4) (ad (4 + 4)) := rfl
  have hay18 : zAt ad (4 + 5) (ad (4 + 5)) := rfl
  have hay19 : zAt ad (4 + 6) (ad (4 + 6)) := rfl
  obtain ⟨thcy20, zhcy20, ohcy20, rhcy20, hzhcy20, hthcy20, hwhcy20⟩ := id lry1
  obtain ⟨thcy21, zhcy21, ohcy21, rhcy21, hzhcy21, hthcy21, hwhcy21⟩ := id mry1
  obtain ⟨asy22, bsy22, csy22, dsy22, esy22, ⟨ptsy22, fsy22, gsy221⟩, hsy22, ⟨nusy22, nvsy22, nwsy22, isy22, jsy22, ksy22, lsy22, msy22, nsy22⟩, rfsy22, osy22⟩ := id iry1
  have hay23 : zAt ad (11 + 1) (ad (11 + 1)) := rfl
  have hay24 : zAt ad (11 + 11) (ad (11 + 11)) := rfl
  have hay25 : zAt ad (11 + 12) (ad (11 + 12)) := rfl
  have hay26 : zAt ad (11 + 13) (ad (11 + 13)) := rfl
  have hay27 : zAt ad (11 + 13 + 1) (ad (11 + 13 + 1)) := rfl
  have hay28 : zAt ad (11 + 13 + 2) (ad (11 + 13 + 2)) := rfl
  have hay29 : zAt ad (11 + 13 + 3) (ad (11 + 13 + 3)) := rfl
  have hay30 : zAt ad (11 + 17) (ad (11 + 17)) := rfl
  obtain ⟨uy31t, uy31z, uy31o, uy31r, uy31z4, uy31t5, uy311, ⟨uy31u, uy312, uy313⟩, uy314⟩ := id csy22
  have hay32 : zAt ad (11 + 1) (ad (11 + 1)) := rfl
  have hay33 : zAt ad (11 + 1 + 1) (ad (11 + 1 + 1)) := rfl
  obtain ⟨sloy34, hooy34, uaoy34, stoy34, opoy34, aioy34, faoy34, muoy34, tboy34, hsloy34, hhooy34, hpoy34⟩ := id kry1
  have hay35 : zAt ad (883 + 1) (ad (883 + 1)) := rfl
  have hay36 : zAt ad (883 + 2) (ad (883 + 2)) := rfl
  have hay37 : zAt ad (883 + 3) (ad (883 + 3)) := rfl
  have hay38 : zAt ad (883 + 4) (ad (883 + 4)) := rfl
  have hay39 : zAt ad (883 + 5) (ad (883 + 5)) := rfl
  have hay40 : zAt ad (883 + 6) (ad (883 + 6)) := rfl
  refine z_ofX (by decide) (Nat.le_of_ble_eq_true rfl) ?_
  intro p e s m below meth c C hr hlk hxt
  refine z_lv (lv' := [(0, .ref (ad 0)), (1, .int (zI (z))), (2, .int (zI (z1))), (3, .int (zI (z2)))]) [0, 1, 2, 3] rfl ?_
  refine z_aload_n C 0 dX9_then_0 rfl ?_
  refine z_iload_n C 1 dX9_then_1 rfl ?_
  have hrecy42 : okRec cs ad g N (t) (fp) (im) (nz) (kz) (sl) (ho) (ua) (st) (op) (ai) (fa) (mu) (tb) (tp) := ⟨ary1, bry1, cry1, dry1, ery1, fry1, gry11, hry1, ⟨_, iry1⟩, ⟨_, jry1⟩, kry1, lry1, mry1, nry1, ory1, pry1⟩
  refine z_cVX (As := [.int (zI (z))]) (rest := []) (ci := 11) C (c_X9_needSlope l D A cs tt N ad _ hN _ _ _ _ _ _ _ _ _ _ _ _ _ _ _ hrecy42 hl0 (z) (by omega)) (lt_K hN (rfl : Nat.blt (0) 952 = true)) hay2 ary1 rfl rfl mv_yX9_needSlope q_940 hd_yX9_needSlope (by decide) (Nat.le_of_ble_eq_true rfl) (by decide) dX9_then_2 rfl (fun E N' ad' g' h => by obtain ⟨rfl, rfl, rfl, rfl⟩ := h; exact z_uout C hxt hlk (by decide) (by decide) ⟨Or.inl rfl, rfl, rfl, rfl⟩) (kV0 fun gvy41 hvy41 => ?_)
  obtain ⟨hvy41, rfl⟩ := hvy41
  refine z_iload_n C 3 dX9_then_5 rfl ?_
  refine z_bipush (z := 6) C dX9_then_6 (by decide) ?_
  refine z_cSX (As := [.int (zI (z2)), .int (zI (6))]) (rest := []) C (c_X9_needWhat l D A cs tt N ad _ hl0 (z2) (by omega) (6) (by omega)) ms_yX9_needWhat q_1220 hd_yX9_needWhat (by decide) (Nat.le_of_ble_eq_true rfl) (by decide) dX9_then_8 rfl (fun E N' ad' g' h => by obtain ⟨⟨rfl, h9⟩, rfl, rfl, rfl⟩ := h; exact z_uout C hxt hlk (by decide) (by decide) ⟨Or.inl rfl, rfl, rfl, rfl⟩) (kV0 fun gvy43 hvy43 => ?_)
  obtain ⟨hvy43, rfl⟩ := hvy43
  refine z_iload_n C 2 dX9_then_11 rfl ?_
  refine z_iconst (z := 0) C dX9_then_12 rfl ?_
  refine z_bipush (z := 72) C dX9_then_13 (by decide) ?_
  refine z_cSX (As := [.int (zI (z1)), .int (zI (0)), .int (zI (72))]) (rest := []) C (c_X9_needHours l D A cs tt N ad _ hl0 (z1) (by omega) (0) (by omega) (72) (by omega)) ms_yX9_needHours q_1224 hd_yX9_needHours (by decide) (Nat.le_of_ble_eq_true rfl) (by decide) dX9_then_15 rfl (fun E N' ad' g' h => by obtain ⟨⟨rfl, h9⟩, rfl, rfl, rfl⟩ := h; exact z_uout C hxt hlk (by decide) (by decide) ⟨Or.inr rfl, rfl, rfl, rfl⟩) (kV0 fun gvy44 hvy44 => ?_)
  obtain ⟨hvy44, rfl⟩ := hvy44
  refine z_aload_n C 0 dX9_then_18 rfl ?_
  refine z_get (v := .ref (ad 890)) C (lt_K hN (rfl : Nat.blt (0) 952 = true)) hay2 ary1 rfl inA_X9 9 (by decide) q_358 rfl rfl dX9_then_19 ?_
  refine z_aload_n C 0 dX9_then_22 rfl ?_
  refine z_get (v := .ref (ad 11)) C (lt_K hN (rfl : Nat.blt (0) 952 = true)) hay2 ary1 rfl inA_X9 5 (by decide) q_354 rfl rfl dX9_then_23 ?_
  refine z_get (v := .ref (ad (11 + 1))) C (lt_K hN (rfl : Nat.blt (11) 952 = true)) hay6 iry1.1 rfl inA_X6 0 (by decide) q_258 rfl rfl dX9_then_26 ?_
  refine z_cV (As := [.ref (ad (11 + 1))]) (rest := []) (ci := 10) C (c_X8_copyFrom l D A cs tt N ad _ (890) (by omega) lry1 (11 + 1) (by omega) csy22 (by omega)) (lt_K hN (rfl : Nat.blt (890) 952 = true)) hay9 hwhcy20.1 rfl rfl mv_yX8_copyFrom q_1228 hd_yX8_copyFrom (by decide) (Nat.le_of_ble_eq_true rfl) (by decide) dX9_then_29 rfl (kV0 fun gvy45 hvy45 => ?_)
  obtain ⟨⟨tvy45, zvy45, ovy45, rvy45, hzvy45, htvy45, -, hwvy45⟩, hfvy45⟩ := hvy45
  have hoky46 : okWorld cs ad gvy45 (890) := ⟨_, _, _, _, hzvy45, htvy45, hwvy45⟩
  obtain ⟨thcy47, zhcy47, ohcy47, rhcy47, hzhcy47, hthcy47, hwhcy47⟩ := id hoky46
  refine z_iconst (z := 0) C dX9_then_32 rfl ?_
  refine z_istore (lv' := [(4, .int (zI (0))), (0, .ref (ad 0)), (1, .int (zI (z))), (2, .int (zI (z1))), (3, .int (zI (z2)))]) C dX9_then_33 (by decide) rfl ?_
  have lp35 : ∀ (n9 : Nat) (i : Int) (g1 : Nat → va_E), (72 - i).toNat = n9 → (okRec cs ad g1 N t fp im nz kz sl ho ua st op ai fa mu tb tp) → (oX g g1) → (0 ≤ i ∧ i ≤ 72) → (0 ≤ z ∧ z < sl) → (0 ≤ z2 ∧ z2 ≤ 6) → (0 ≤ z1 ∧ z1 ≤ 72) → zV p l e ({ frames := 12, cells := 6, slots := 60, locals := 720 } : Room) s m ([.ref (ad 0), .int (zI (z)), .int (zI (z1)), .int (zI (z2))] : List Value).toArray below meth c (vx_MQ below (zPost D A (rI0 N ad fun r g' => (-2147483648 ≤ r ∧ r ≤ 2147483647) ∧ okRec cs ad g' N t fp im nz kz sl ho ua st op ai fa mu tb tp ∧ oX g g')) (zX D A (fun E N' ad' g' => (E = eNS ∨ E = eIA) ∧ N' = N ∧ ad' = ad ∧ g' = g)) ([.ref (ad 0), .int (zI (z)), .int (zI (z1)), .int (zI (z2))] : List Value).toArray s ({ frames := 12, cells := 6, slots := 60, locals := 720 } : Room).cells ({ frames := 12, cells := 6, slots := 60, locals := 720 } : Room).slots A) D A 6 (N) ad g1 (3) (18) 35 [(4, .int (zI (i))), (0, .ref (ad 0)), (1, .int (zI (z))), (2, .int (zI (z1))), (3, .int (zI (z2)))] [] := by
    intro n9
    induction n9 using Nat.strongRecOn with
    | ind n9 ih_lp35 =>
      intro i g1 hm9 f1 f2 hv35_0 hv35_1 hv35_2 hv35_3
      obtain ⟨ary48, bry48, cry48, dry48, ery48, fry48, gry481, hry48, ⟨acry48, iry48⟩, ⟨kcry48, jry48⟩, kry48, lry48, mry48, nry48, ory48, pry48⟩ := id f1
      have hay49 : zAt ad (0) (ad 0) := rfl
      have hay50 : zAt ad (1) (ad 1) := rfl
      have hay51 : zAt ad (2) (ad 2) := rfl
      have hay52 : zAt ad (4) (ad 4) := rfl
      have hay53 : zAt ad (11) (ad 11) := rfl
      have hay54 : zAt ad (447) (ad 447) := rfl
      have hay55 : zAt ad (883) (ad 883) := rfl
      have hay56 : zAt ad (890) (ad 890) := rfl
      have hay57 : zAt ad (900) (ad 900) := rfl
      have hay58 : zAt ad (910) (ad 910) := rfl
      have hay59 : zAt ad (917) (ad 917) := rfl
      have hay60 : zAt ad (919) (ad 919) := rfl
      have hay61 : zAt ad (4 + 1) (ad (4 + 1)) := rfl
      have hay62 : zAt ad (4 + 2) (ad (4 + 2)) := rfl
      have hay63 : zAt ad (4 + 3) (ad (4 + 3)) := rfl
      have hay64 : zAt ad (4 + 4) (ad (4 + 4)) := rfl
      have hay65 : zAt ad (4 + 5) (ad (4 + 5)) := rfl
      have hay66 : zAt ad (4 + 6) (ad (4 + 6)) := rfl
      obtain ⟨thcy67, zhcy67, ohcy67, rhcy67, hzhcy67, hthcy67, hwhcy67⟩ := id lry48
      obtain ⟨thcy68, zhcy68, ohcy68, rhcy68, hzhcy68, hthcy68, hwhcy68⟩ := id mry48
      obtain ⟨asy69, bsy69, csy69, dsy69, esy69, ⟨ptsy69, fsy69, gsy691⟩, hsy69, ⟨nusy69, nvsy69, nwsy69, isy69, jsy69, ksy69, lsy69, msy69, nsy69⟩, rfsy69, osy69⟩ := id iry48
      have hay70 : zAt ad (11 + 1) (ad (11 + 1)) := rfl
      have hay71 : zAt ad (11 + 11) (ad (11 + 11)) := rfl
      have hay72 : zAt ad (11 + 12) (ad (11 + 12)) := rfl
      have hay73 : zAt ad (11 + 13) (ad (11 + 13)) := rfl
      have hay74 : zAt ad (11 + 13 + 1) (ad (11 + 13 + 1)) := rfl
      have hay75 : zAt ad (11 + 13 + 2) (ad (11 + 13 + 2)) := rfl
      have hay76 : zAt ad (11 + 13 + 3) (ad (11 + 13 + 3)) := rfl
      have hay77 : zAt ad (11 + 17) (ad (11 + 17)) := rfl
      obtain ⟨uy78t, uy78z, uy78o, uy78r, uy78z4, uy78t5, uy781, ⟨uy78u, uy782, uy783⟩, uy784⟩ := id csy69
      have hay79 : zAt ad (11 + 1) (ad (11 + 1)) := rfl
      have hay80 : zAt ad (11 + 1 + 1) (ad (11 + 1 + 1)) := rfl
      obtain ⟨sloy81, hooy81, uaoy81, stoy81, opoy81, aioy81, faoy81, muoy81, tboy81, hsloy81, hhooy81, hpoy81⟩ := id kry48
      have hay82 : zAt ad (883 + 1) (ad (883 + 1)) := rfl
      have hay83 : zAt ad (883 + 2) (ad (883 + 2)) := rfl
      have hay84 : zAt ad (883 + 3) (ad (883 + 3)) := rfl
      have hay85 : zAt ad (883 + 4) (ad (883 + 4)) := rfl
      have hay86 : zAt ad (883 + 5) (ad (883 + 5)) := rfl
      have hay87 : zAt ad (883 + 6) (ad (883 + 6)) := rfl
      refine z_iload C 0 dX9_then_35 rfl ?_
      refine z_iload_n C 3 dX9_then_37 rfl ?_
      refine z_icmp_ge (tgt := 66) C dX9_then_38 (by decide) (by omega) (by omega) (fun hby88 => ?_) (fun hby88 => ?_)
      · refine z_aload_n C 1 dX9_then_66 rfl ?_
        refine z_get (v := .ref (ad 890)) C (lt_K hN (rfl : Nat.blt (0) 952 = true)) hay49 ary48 rfl inA_X9 9 (by decide) q_358 rfl rfl dX9_then_67 ?_
        refine z_get (v := .ref (ad (890 + 1))) C (lt_K hN (rfl : Nat.blt (890) 952 = true)) hay56 hwhcy67.1 rfl inA_X8 6 (by decide) q_191 rfl rfl dX9_then_70 ?_
        refine z_iload_n C 2 dX9_then_73 rfl ?_
        obtain ⟨uy89t, uy89z, uy89o, uy89r, uy89z4, uy89t5, uy891, ⟨uy89u, uy892, uy893⟩, uy894⟩ := id lry48
        have hay90 : zAt ad (890) (ad 890) := rfl
        have hay91 : zAt ad (890 + 1) (ad (890 + 1)) := rfl
        refine z_aald C (lt_K hN (rfl : Nat.blt (890 + 1) 952 = true)) hay91 uy892 3 rfl ((z).toNat) (by omega) (by omega) (by decide) (uy893 (z).toNat (by omega)) dX9_then_74 ?_
        have hay92 : zAt ad (890 + 2 + 2 * (z).toNat) (ad (890 + 2 + 2 * (z).toNat)) := rfl
        have hay93 : zAt ad (890 + 2 + 2 * (z).toNat + 1) (ad (890 + 2 + 2 * (z).toNat + 1)) := rfl
        have hpy94 := uy894 (z).toNat (by omega)
        have hqy95 := uy89z4 (z).toNat (by omega)
        refine z_astore (lv' := [(4, .ref (ad (890 + 2 + 2 * (z).toNat))), (0, .ref (ad 0)), (1, .int (zI (z))), (2, .int (zI (z1))), (3, .int (zI (z2)))]) C dX9_then_75 (by decide) rfl ?_
        refine z_aload_n C 1 dX9_then_77 rfl ?_
        refine z_get (v := .ref (ad 4)) C (lt_K hN (rfl : Nat.blt (0) 952 = true)) hay49 ary48 rfl inA_X9 4 (by decide) q_353 rfl rfl dX9_then_78 ?_
        refine z_get (v := .ref (ad (4 + 1))) C (lt_K hN (rfl : Nat.blt (4) 952 = true)) hay52 fry48.1 rfl inA_X5 3 (by decide) q_98 rfl rfl dX9_then_81 ?_
        refine z_iload_n C 2 dX9_then_84 rfl ?_
        refine z_iald C (lt_K hN (rfl : Nat.blt (4 + 1) 952 = true)) hay61 fry48.2.1 ((z).toNat) (by omega) (by omega) (by decide) dX9_then_85 ?_
        refine z_istore (lv' := [(5, .int (zI (st ((z).toNat)))), (4, .ref (ad (890 + 2 + 2 * (z).toNat))), (0, .ref (ad 0)), (1, .int (zI (z))), (2, .int (zI (z1))), (3, .int (zI (z2)))]) C dX9_then_86 (by decide) rfl ?_
        refine z_iload_n C 5 dX9_then_88 rfl ?_
        by_cases hsy96 : z2 ≠ 0 ∧ z2 ≠ 1 ∧ z2 ≠ 2 ∧ z2 ≠ 3 ∧ z2 ≠ 4 ∧ z2 ≠ 5
        · refine z_tout (tgt := 187) C dX9_then_89 (by omega) (by omega) (by decide) ?_
          refine z_aload C 1 dX9_then_187 rfl ?_
          refine z_get (v := .int (zI (uy89o (z).toNat))) C (by omega) hay92 hpy94.1 rfl inA_X3 1 (by decide) q_161 rfl rfl dX9_then_189 ?_
          obtain ⟨xy97, exy98, hxy99⟩ := zI_of (zI (uy89o (z).toNat))
          rw [exy98]
          have hrecy100 : okRec cs ad g1 N (t) (fp) (im) (nz) (kz) (sl) (ho) (ua) (st) (op) (ai) (fa) (mu) (tb) (tp) := ⟨ary48, bry48, cry48, dry48, ery48, fry48, gry481, hry48, ⟨_, iry48⟩, ⟨_, jry48⟩, kry48, lry48, mry48, nry48, ory48, pry48⟩
          exact z_rX (z_iret C hr hlk dX9_then_192 (by decide) (by decide) ⟨xy97, rfl, rfl, rfl, by omega, hrecy100, fun j j1 j2 => by exact f2 j j1 j2⟩)
        · rcases (show z2 = 0 ∨ z2 = 1 ∨ z2 = 2 ∨ z2 = 3 ∨ z2 = 4 ∨ z2 = 5 by omega) with rfl | rfl | rfl | rfl | rfl | rfl
          · refine z_tin (off := 39) (tgt := 128) C dX9_then_89 (by omega) (by omega) (by omega) rfl (by decide) ?_
            refine z_aload C 1 dX9_then_128 rfl ?_
            refine z_bipush (z := 36) C dX9_then_130 (by decide) ?_
            refine z_cV (As := [.int (zI (36))]) (rest := []) (ci := 5) C (c_X3_sum l D A cs tt N ad _ (890 + 2 + 2 * (z).toNat) (by omega) _ _ _ (by omega) ⟨hpy94.1, hpy94.2⟩  (36) (by omega)) (by omega) hay92 hpy94.1 rfl rfl mv_yX3_sum q_945 hd_yX3_sum (by decide) (Nat.le_of_ble_eq_true rfl) (by decide) dX9_then_132 rfl (kI0 fun vy101 gvy101 hvy101 => ?_)
            obtain ⟨hvy101, rfl⟩ := hvy101
            have hrecy102 : okRec cs ad g1 N (t) (fp) (im) (nz) (kz) (sl) (ho) (ua) (st) (op) (ai) (fa) (mu) (tb) (tp) := ⟨ary48, bry48, cry48, dry48, ery48, fry48, gry481, hry48, ⟨_, iry48⟩, ⟨_, jry48⟩, kry48, lry48, mry48, nry48, ory48, pry48⟩
            exact z_rX (z_iret C hr hlk dX9_then_135 (by decide) (by decide) ⟨vy101, rfl, rfl, rfl, by omega, hrecy102, fun j j1 j2 => by exact f2 j j1 j2⟩)
          · refine z_tin (off := 47) (tgt := 136) C dX9_then_89 (by omega) (by omega) (by omega) rfl (by decide) ?_
            refine z_aload C 1 dX9_then_136 rfl ?_
            refine z_bipush (z := 12) C dX9_then_138 (by decide) ?_
            refine z_cV (As := [.int (zI (12))]) (rest := []) (ci := 5) C (c_X3_sum l D A cs tt N ad _ (890 + 2 + 2 * (z).toNat) (by omega) _ _ _ (by omega) ⟨hpy94.1, hpy94.2⟩  (12) (by omega)) (by omega) hay92 hpy94.1 rfl rfl mv_yX3_sum q_945 hd_yX3_sum (by decide) (Nat.le_of_ble_eq_true rfl) (by decide) dX9_then_140 rfl (kI0 fun vy103 gvy103 hvy103 => ?_)
            obtain ⟨hvy103, rfl⟩ := hvy103
            have hrecy104 : okRec cs ad g1 N (t) (fp) (im) (nz) (kz) (sl) (ho) (ua) (st) (op) (ai) (fa) (mu) (tb) (tp) := ⟨ary48, bry48, cry48, dry48, ery48, fry48, gry481, hry48, ⟨_, iry48⟩, ⟨_, jry48⟩, kry48, lry48, mry48, nry48, ory48, pry48⟩
            exact z_rX (z_iret C hr hlk dX9_then_143 (by decide) (by decide) ⟨vy103, rfl, rfl, rfl, by omega, hrecy104, fun j j1 j2 => by exact f2 j j1 j2⟩)
          · refine z_tin (off := 55) (tgt := 144) C dX9_then_89 (by omega) (by omega) (by omega) rfl (by decide) ?_
            refine z_aload C 1 dX9_then_144 rfl ?_
            refine z_bipush (z := 24) C dX9_then_146 (by decide) ?_
            refine z_cV (As := [.int (zI (24))]) (rest := []) (ci := 5) C (c_X3_sum l D A cs tt N ad _ (890 + 2 + 2 * (z).toNat) (by omega) _ _ _ (by omega) ⟨hpy94.1, hpy94.2⟩  (24) (by omega)) (by omega) hay92 hpy94.1 rfl rfl mv_yX3_sum q_945 hd_yX3_sum (by decide) (Nat.le_of_ble_eq_true rfl) (by decide) dX9_then_148 rfl (kI0 fun vy105 gvy105 hvy105 => ?_)
            obtain ⟨hvy105, rfl⟩ := hvy105
            have hrecy106 : okRec cs ad g1 N (t) (fp) (im) (nz) (kz) (sl) (ho) (ua) (st) (op) (ai) (fa) (mu) (tb) (tp) := ⟨ary48, bry48, cry48, dry48, ery48, fry48, gry481, hry48, ⟨_, iry48⟩, ⟨_, jry48⟩, kry48, lry48, mry48, nry48, ory48, pry48⟩
            exact z_rX (z_iret C hr hlk dX9_then_151 (by decide) (by decide) ⟨vy105, rfl, rfl, rfl, by omega, hrecy106, fun j j1 j2 => by exact f2 j j1 j2⟩)
          · refine z_tin (off := 63) (tgt := 152) C dX9_then_89 (by omega) (by omega) (by omega) rfl (by decide) ?_
            refine z_aload C 1 dX9_then_152 rfl ?_
            refine z_get (v := .int (zI (uy89z (z).toNat))) C (by omega) hay92 hpy94.1 rfl inA_X3 0 (by decide) q_158 rfl rfl dX9_then_154 ?_
            have hrecy107 : okRec cs ad g1 N (t) (fp) (im) (nz) (kz) (sl) (ho) (ua) (st) (op) (ai) (fa) (mu) (tb) (tp) := ⟨ary48, bry48, cry48, dry48, ery48, fry48, gry481, hry48, ⟨_, iry48⟩, ⟨_, jry48⟩, kry48, lry48, mry48, nry48, ory48, pry48⟩
            exact z_rX (z_iret C hr hlk dX9_then_157 (by decide) (by decide) ⟨uy89z (z).toNat, rfl, rfl, rfl, by omega, hrecy107, fun j j1 j2 => by exact f2 j j1 j2⟩)
          · refine z_tin (off := 69) (tgt := 158) C dX9_then_89 (by omega) (by omega) (by omega) rfl (by decide) ?_
            refine z_aload C 1 dX9_then_158 rfl ?_
            refine z_iload C 0 dX9_then_160 rfl ?_
            refine z_aload_n C 2 dX9_then_162 rfl ?_
            refine z_get (v := .ref (ad 4)) C (lt_K hN (rfl : Nat.blt (0) 952 = true)) hay49 ary48 rfl inA_X9 4 (by decide) q_353 rfl rfl dX9_then_163 ?_
            obtain ⟨xy108, exy109, hxy110⟩ := zI_of (zI (st ((z).toNat)))
            rw [exy109]
            refine z_cV (As := [.int (zI (xy108)), .ref (ad 4)]) (rest := []) (ci := 5) C (c_X3_leastRatio l D A cs tt N ad _ (890 + 2 + 2 * (z).toNat) (by omega) _ _ _ (by omega) ⟨hpy94.1, hpy94.2⟩ (4) (by omega) _ _ _ _ _ _ _ _ _ ⟨fry48.1, fry48.2.1, fry48.2.2.1, fry48.2.2.2.1, fry48.2.2.2.2.1, fry48.2.2.2.2.2.1, fry48.2.2.2.2.2.2⟩ (xy108) (by omega)) (by omega) hay92 hpy94.1 rfl rfl mv_yX3_leastRatio q_898 hd_yX3_leastRatio (by decide) (Nat.le_of_ble_eq_true rfl) (by decide) dX9_then_166 rfl (kI0 fun vy111 gvy111 hvy111 => ?_)
            obtain ⟨hvy111, rfl⟩ := hvy111
            have hrecy112 : okRec cs ad g1 N (t) (fp) (im) (nz) (kz) (sl) (ho) (ua) (st) (op) (ai) (fa) (mu) (tb) (tp) := ⟨ary48, bry48, cry48, dry48, ery48, fry48, gry481, hry48, ⟨_, iry48⟩, ⟨_, jry48⟩, kry48, lry48, mry48, nry48, ory48, pry48⟩
            exact z_rX (z_iret C hr hlk dX9_then_169 (by decide) (by decide) ⟨vy111, rfl, rfl, rfl, by omega, hrecy112, fun j j1 j2 => by exact f2 j j1 j2⟩)
          · refine z_tin (off := 81) (tgt := 170) C dX9_then_89 (by omega) (by omega) (by omega) rfl (by decide) ?_
            refine z_aload C 1 dX9_then_170 rfl ?_
            refine z_aload C 1 dX9_then_172 rfl ?_
            refine z_iload C 0 dX9_then_174 rfl ?_
            refine z_aload_n C 2 dX9_then_176 rfl ?_
            refine z_get (v := .ref (ad 4)) C (lt_K hN (rfl : Nat.blt (0) 952 = true)) hay49 ary48 rfl inA_X9 4 (by decide) q_353 rfl rfl dX9_then_177 ?_
            obtain ⟨xy113, exy114, hxy115⟩ := zI_of (zI (st ((z).toNat)))
            rw [exy114]
            refine z_cV (As := [.int (zI (xy113)), .ref (ad 4)]) (rest := [.ref (ad (890 + 2 + 2 * (z).toNat))]) (ci := 5) C (c_X3_weakest l D A cs tt N ad _ (890 + 2 + 2 * (z).toNat) (by omega) _ _ _ (by omega) ⟨hpy94.1, hpy94.2⟩ (4) (by omega) _ _ _ _ _ _ _ _ _ ⟨fry48.1, fry48.2.1, fry48.2.2.1, fry48.2.2.2.1, fry48.2.2.2.2.1, fry48.2.2.2.2.2.1, fry48.2.2.2.2.2.2⟩ (xy113) (by omega)) (by omega) hay92 hpy94.1 rfl rfl mv_yX3_weakest q_946 hd_yX3_weakest (by decide) (Nat.le_of_ble_eq_true rfl) (by decide) dX9_then_180 rfl (kI0 fun vy116 gvy116 hvy116 => ?_)
            obtain ⟨hvy116, rfl⟩ := hvy116
            refine z_cV (As := [.int (zI (vy116))]) (rest := []) (ci := 5) C (c_X3_nameOf l D A cs tt N ad _ (890 + 2 + 2 * (z).toNat) (by omega) _ _ _ (by omega) ⟨hpy94.1, hpy94.2⟩  (vy116) (by omega)) (by omega) hay92 hpy94.1 rfl rfl mv_yX3_nameOf q_1229 hd_yX3_nameOf (by decide) (Nat.le_of_ble_eq_true rfl) (by decide) dX9_then_183 rfl (kI0 fun vy117 gvy117 hvy117 => ?_)
            obtain ⟨hvy117, rfl⟩ := hvy117
            have hrecy118 : okRec cs ad g1 N (t) (fp) (im) (nz) (kz) (sl) (ho) (ua) (st) (op) (ai) (fa) (mu) (tb) (tp) := ⟨ary48, bry48, cry48, dry48, ery48, fry48, gry481, hry48, ⟨_, iry48⟩, ⟨_, jry48⟩, kry48, lry48, mry48, nry48, ory48, pry48⟩
            exact z_rX (z_iret C hr hlk dX9_then_186 (by decide) (by decide) ⟨vy117, rfl, rfl, rfl, by omega, hrecy118, fun j j1 j2 => by exact f2 j j1 j2⟩)
      · refine z_aload_n C 1 dX9_then_41 rfl ?_
        refine z_get (v := .ref (ad 890)) C (lt_K hN (rfl : Nat.blt (0) 952 = true)) hay49 ary48 rfl inA_X9 9 (by decide) q_358 rfl rfl dX9_then_42 ?_
        refine z_aload_n C 1 dX9_then_45 rfl ?_
        refine z_get (v := .ref (ad 4)) C (lt_K hN (rfl : Nat.blt (0) 952 = true)) hay49 ary48 rfl inA_X9 4 (by decide) q_353 rfl rfl dX9_then_46 ?_
        refine z_aload_n C 1 dX9_then_49 rfl ?_
        refine z_get (v := .ref (ad 4)) C (lt_K hN (rfl : Nat.blt (0) 952 = true)) hay49 ary48 rfl inA_X9 4 (by decide) q_353 rfl rfl dX9_then_50 ?_
        refine z_cV (As := []) (rest := [.ref (ad 4), .ref (ad 890)]) (ci := 7) C (c_X5_allSlopes l D A cs tt N ad _ (4) (by omega) _ _ _ _ _ _ _ _ _ ⟨fry48.1, fry48.2.1, fry48.2.2.1, fry48.2.2.2.1, fry48.2.2.2.2.1, fry48.2.2.2.2.2.1, fry48.2.2.2.2.2.2⟩) (lt_K hN (rfl : Nat.blt (4) 952 = true)) hay52 fry48.1 rfl rfl mv_yX5_allSlopes q_431 hd_yX5_allSlopes (by decide) (Nat.le_of_ble_eq_true rfl) (by decide) dX9_then_53 rfl (kI0 fun vy119 gvy119 hvy119 => ?_)
        obtain ⟨hvy119, rfl⟩ := hvy119
        refine z_iconst (z := 1) C dX9_then_56 rfl ?_
        refine z_cV (As := [.ref (ad 4), .int (zI (vy119)), .int (zI (1))]) (rest := []) (ci := 10) C (c_X8_hour l D A cs tt N ad _ (890) (by omega) lry48 (4) (by omega) _ _ _ _ _ _ _ _ _ ⟨fry48.1, fry48.2.1, fry48.2.2.1, fry48.2.2.2.1, fry48.2.2.2.2.1, fry48.2.2.2.2.2.1, fry48.2.2.2.2.2.2⟩ (by omega) (by omega) (by omega) (vy119) (by omega) (1) (by omega)) (lt_K hN (rfl : Nat.blt (890) 952 = true)) hay56 hwhcy67.1 rfl rfl mv_yX8_hour q_435 hd_yX8_hour (by decide) (Nat.le_of_ble_eq_true rfl) (by decide) dX9_then_57 rfl (kV0 fun gvy120 hvy120 => ?_)
        obtain ⟨hkvy120, hfvy120⟩ := hvy120
        have hoky121 : okWorld cs ad gvy120 (890) := hkvy120
        obtain ⟨thcy122, zhcy122, ohcy122, rhcy122, hzhcy122, hthcy122, hwhcy122⟩ := id hoky121
        refine z_iinc (z := i + 1) (lv' := [(4, .int (zI (i + 1))), (0, .ref (ad 0)), (1, .int (zI (z))), (2, .int (zI (z1))), (3, .int (zI (z2)))]) (j := 0) C dX9_then_60 rfl rfl (by decide) rfl ?_
        refine z_goto (tgt := 35) C dX9_then_63 (by decide) ?_
        have hgy123 := (hfvy120 (0) (by omega)).trans ary48
        have hgy124 := (hfvy120 (1) (by omega)).trans dry48
        have hpy125 := okState.mv (ad' := ad) (g' := gvy120) (fun j h1 h2 => by rfl) (fun j h1 h2 => by rw [hfvy120 _ (by omega)]) iry48
        have hpy126 := okRdr.mv (ad' := ad) (g' := gvy120) (fun j h1 h2 => by rfl) (fun j h1 h2 => by rw [hfvy120 _ (by omega)]) ery48
        have hpy127 := isPlan.mv (ad' := ad) (g' := gvy120) (fun j h1 h2 => by rfl) (fun j h1 h2 => by rw [hfvy120 _ (by omega)]) fry48
        have hpy128 := okState.mv (ad' := ad) (g' := gvy120) (fun j h1 h2 => by rfl) (fun j h1 h2 => by rw [hfvy120 _ (by omega)]) jry48
        have hpy129 := okPlan.mv (ad' := ad) (g' := gvy120) (fun j h1 h2 => by rfl) (fun j h1 h2 => by rw [hfvy120 _ (by omega)]) kry48
        have hpy130 := okGss.mv (ad' := ad) (g' := gvy120) (fun j h1 h2 => by rfl) (fun j h1 h2 => by rw [hfvy120 _ (by omega)]) nry48
        have hpy131 := okLike.mv (ad' := ad) (g' := gvy120) (fun j h1 h2 => by rfl) (fun j h1 h2 => by rw [hfvy120 _ (by omega)]) ory48
        have hpy132 := okBld.mv (ad' := ad) (g' := gvy120) (fun j h1 h2 => by rfl) (fun j h1 h2 => by rw [hfvy120 _ (by omega)]) pry48
        have hoky133 : okWorld cs ad gvy120 (900) := okWorld.mv (fun j j1 j2 => by rw [hfvy120 _ (by omega)]) mry48
        have hrecy134 : okRec cs ad gvy120 N (t) (fp) (im) (nz) (kz) (sl) (ho) (ua) (st) (op) (ai) (fa) (mu) (tb) (tp) := ⟨hgy123, bry48, cry48, hgy124, hpy126, hpy127, gry481, hry48, ⟨_, hpy125⟩, ⟨_, hpy128⟩, hpy129, hoky121, hoky133, hpy130, hpy131, hpy132⟩
        refine z_lv (lv' := [(4, .int (zI (i + 1))), (0, .ref (ad 0)), (1, .int (zI (z))), (2, .int (zI (z1))), (3, .int (zI (z2)))]) [0, 1, 2, 3, 4] rfl ?_
        exact ih_lp35 _ (by omega) (i + 1) gvy120 rfl hrecy134 (fun j j1 j2 => by rw [hfvy120 _ (by omega)]; exact f2 j j1 j2) (by omega) (by omega) (by omega) (by omega)
  have hgy135 := (hfvy45 (0) (by omega)).trans ary1
  have hgy136 := (hfvy45 (1) (by omega)).trans dry1
  have hpy137 := okState.mv (ad' := ad) (g' := gvy45) (fun j h1 h2 => by rfl) (fun j h1 h2 => by rw [hfvy45 _ (by omega)]) iry1
  have hpy138 := okRdr.mv (ad' := ad) (g' := gvy45) (fun j h1 h2 => by rfl) (fun j h1 h2 => by rw [hfvy45 _ (by omega)]) ery1
  have hpy139 := isPlan.mv (ad' := ad) (g' := gvy45) (fun j h1 h2 => by rfl) (fun j h1 h2 => by rw [hfvy45 _ (by omega)]) fry1
  have hpy140 := okState.mv (ad' := ad) (g' := gvy45) (fun j h1 h2 => by rfl) (fun j h1 h2 => by rw [hfvy45 _ (by omega)]) jry1
  have hpy141 := okPlan.mv (ad' := ad) (g' := gvy45) (fun j h1 h2 => by rfl) (fun j h1 h2 => by rw [hfvy45 _ (by omega)]) kry1
  have hpy142 := okGss.mv (ad' := ad) (g' := gvy45) (fun j h1 h2 => by rfl) (fun j h1 h2 => by rw [hfvy45 _ (by omega)]) nry1
  have hpy143 := okLike.mv (ad' := ad) (g' := gvy45) (fun j h1 h2 => by rfl) (fun j h1 h2 => by rw [hfvy45 _ (by omega)]) ory1
  have hpy144 := okBld.mv (ad' := ad) (g' := gvy45) (fun j h1 h2 => by rfl) (fun j h1 h2 => by rw [hfvy45 _ (by omega)]) pry1
  have hoky145 : okWorld cs ad gvy45 (900) := okWorld.mv (fun j j1 j2 => by rw [hfvy45 _ (by omega)]) mry1
  have hrecy146 : okRec cs ad gvy45 N (t) (fp) (im) (nz) (kz) (sl) (ho) (ua) (st) (op) (ai) (fa) (mu) (tb) (tp) := ⟨hgy135, bry1, cry1, hgy136, hpy138, hpy139, gry11, hry1, ⟨_, hpy137⟩, ⟨_, hpy140⟩, hpy141, hoky46, hoky145, hpy142, hpy143, hpy144⟩
  refine z_lv (lv' := [(4, .int (zI (0))), (0, .ref (ad 0)), (1, .int (zI (z))), (2, .int (zI (z1))), (3, .int (zI (z2)))]) [0, 1, 2, 3, 4] rfl ?_
  exact lp35 _ (0) gvy45 rfl hrecy146 (fun j j1 j2 => by rw [hfvy45 _ (by omega)]) (by omega) (by omega) (by omega) (by omega)

set_option maxRecDepth 100000 in
set_option maxHeartbeats 4000000 in
theorem c_X9_toWarm (l : Launch) (D : va_G) (A : Nat → Prop) (cs : Nat → ClassId) (tt : Nat) (N : Nat) (ad : Nat → Nat) (g : Nat → va_E) (hN : 952 ≤ N) (t fp im nz kz sl ho ua : Int) (st op ai fa mu tb tp : Nat → Int) (hR : okRec cs ad g N t fp im nz kz sl ho ua st op ai fa mu tb tp) (hl0 : l.stackTraces = false) (z : Int) (hz : -2147483648 ≤ z ∧ z ≤ 2147483647) (z1 : Int) (hz1 : -2147483648 ≤ z1 ∧ z1 ≤ 2147483647) : zMX l yX9_toWarm cX9_toWarm 4 (some .int) ({ frames := 12, cells := 6, slots := 60, locals := 720 } : Room) D A cs tt N ad g [.ref (ad 0), .int (zI (z)), .int (zI (z1))] (rI0 N ad fun r g' => (-2147483648 ≤ r ∧ r ≤ 2147483647) ∧ okRec cs ad g' N t fp im nz kz sl ho ua st op ai fa mu tb tp ∧ oX g g') (fun E N' ad' g' => (E = eNS ∨ E = eIA) ∧ N' = N ∧ ad' = ad ∧ g' = g) := by
  obtain ⟨ary1, bry1, cry1, dry1, ery1, fry1, gry11, hry1, ⟨acry1, iry1⟩, ⟨kcry1, jry1⟩, kry1, lry1, mry1, nry1, ory1, pry1⟩ := id hR
  have hay2 : zAt ad (0) (ad 0) := rfl
  have hay3 : zAt ad (1) (ad 1) := rfl
  have hay4 : zAt ad (2) (ad 2) := rfl
  have hay5 : zAt ad (4) (ad 4) := rfl
  have hay6 : zAt ad (11) (ad 11) := rfl
  have hay7 : zAt ad (447) (ad 447) := rfl
  have hay8 : zAt ad (883) (ad 883) := rfl
  have hay9 : zAt ad (890) (ad 890) := rfl
  have hay10 : zAt ad (900) (ad 900) := rfl
  have hay11 : zAt ad (910) (ad 910) := rfl
  have hay12 : zAt ad (917) (ad 917) := rfl
  have hay13 : zAt ad (919) (ad 919) := rfl
  have hay14 : zAt ad (4 + 1) (ad (4 + 1)) := rfl
  have hay15 : zAt ad (4 + 2) (ad (4 + 2)) := rfl
  have hay16 : zAt ad (4 + 3) (ad (4 + 3)) := rfl
  have hay17 : zAt ad (4 + 4) (ad (4 + 4)) := rfl
  have hay18 : zAt ad (4 + 5) (ad (4 + 5)) := rfl
  have hay19 : zAt ad (4 + 6) (ad (4 + 6)) := rfl
  obtain ⟨thcy20, zhcy20, ohcy20, rhcy20, hzhcy20, hthcy20, hwhcy20⟩ := id lry1
  obtain ⟨thcy21, zhcy21, ohcy21, rhcy21, hzhcy21, hthcy21, hwhcy21⟩ := id mry1
  obtain ⟨asy22, bsy22, csy22, dsy22, esy22, ⟨ptsy22, fsy22, gsy221⟩, hsy22, ⟨nusy22, nvsy22, nwsy22, isy22, jsy22, ksy22, lsy22, msy22, nsy22⟩, rfsy22, osy22⟩ := id iry1
  have hay23 : zAt ad (11 + 1) (ad (11 + 1)) := rfl
  have hay24 : zAt ad (11 + 11) (ad (11 + 11)) := rfl
  have hay25 : zAt ad (11 + 12) (ad (11 + 12)) := rfl
  have hay26 : zAt ad (11 + 13) (ad (11 + 13)) := rfl
  have hay27 : zAt ad (11 + 13 + 1) (ad (11 + 13 + 1)) := rfl
  have hay28 : zAt ad (11 + 13 + 2) (ad (11 + 13 + 2)) := rfl
  have hay29 : zAt ad (11 + 13 + 3) (ad (11 + 13 + 3)) := rfl
  have hay30 : zAt ad (11 + 17) (ad (11 + 17)) := rfl
  obtain ⟨uy31t, uy31z, uy31o, uy31r, uy31z4, uy31t5, uy311, ⟨uy31u, uy312, uy313⟩, uy314⟩ := id csy22
  have hay32 : zAt ad (11 + 1) (ad (11 + 1)) := rfl
  have hay33 : zAt ad (11 + 1 + 1) (ad (11 + 1 + 1)) := rfl
  obtain ⟨sloy34, hooy34, uaoy34, stoy34, opoy34, aioy34, faoy34, muoy34, tboy34, hsloy34, hhooy34, hpoy34⟩ := id kry1
  have hay35 : zAt ad (883 + 1) (ad (883 + 1)) := rfl
  have hay36 : zAt ad (883 + 2) (ad (883 + 2)) := rfl
  have hay37 : zAt ad (883 + 3) (ad (883 + 3)) := rfl
  have hay38 : zAt ad (883 + 4) (ad (883 + 4)) := rfl
  have hay39 : zAt ad (883 + 5) (ad (883 + 5)) := rfl
  have hay40 : zAt ad (883 + 6) (ad (883 + 6)) := rfl
  refine z_ofX (by decide) (Nat.le_of_ble_eq_true rfl) ?_
  intro p e s m below meth c C hr hlk hxt
  refine z_lv (lv' := [(0, .ref (ad 0)), (1, .int (zI (z))), (2, .int (zI (z1)))]) [0, 1, 2] rfl ?_
  refine z_aload_n C 0 dX9_toWarm_0 rfl ?_
  refine z_iload_n C 1 dX9_toWarm_1 rfl ?_
  have hrecy42 : okRec cs ad g N (t) (fp) (im) (nz) (kz) (sl) (ho) (ua) (st) (op) (ai) (fa) (mu) (tb) (tp) := ⟨ary1, bry1, cry1, dry1, ery1, fry1, gry11, hry1, ⟨_, iry1⟩, ⟨_, jry1⟩, kry1, lry1, mry1, nry1, ory1, pry1⟩
  refine z_cVX (As := [.int (zI (z))]) (rest := []) (ci := 11) C (c_X9_needSlope l D A cs tt N ad _ hN _ _ _ _ _ _ _ _ _ _ _ _ _ _ _ hrecy42 hl0 (z) (by omega)) (lt_K hN (rfl : Nat.blt (0) 952 = true)) hay2 ary1 rfl rfl mv_yX9_needSlope q_940 hd_yX9_needSlope (by decide) (Nat.le_of_ble_eq_true rfl) (by decide) dX9_toWarm_2 rfl (fun E N' ad' g' h => by obtain ⟨rfl, rfl, rfl, rfl⟩ := h; exact z_uout C hxt hlk (by decide) (by decide) ⟨Or.inl rfl, rfl, rfl, rfl⟩) (kV0 fun gvy41 hvy41 => ?_)
  obtain ⟨hvy41, rfl⟩ := hvy41
  refine z_iload_n C 2 dX9_toWarm_5 rfl ?_
  refine z_iconst (z := 1) C dX9_toWarm_6 rfl ?_
  refine z_bipush (z := 24) C dX9_toWarm_7 (by decide) ?_
  refine z_cSX (As := [.int (zI (z1)), .int (zI (1)), .int (zI (24))]) (rest := []) C (c_X9_needHours l D A cs tt N ad _ hl0 (z1) (by omega) (1) (by omega) (24) (by omega)) ms_yX9_needHours q_1224 hd_yX9_needHours (by decide) (Nat.le_of_ble_eq_true rfl) (by decide) dX9_toWarm_9 rfl (fun E N' ad' g' h => by obtain ⟨⟨rfl, h9⟩, rfl, rfl, rfl⟩ := h; exact z_uout C hxt hlk (by decide) (by decide) ⟨Or.inr rfl, rfl, rfl, rfl⟩) (kV0 fun gvy43 hvy43 => ?_)
  obtain ⟨hvy43, rfl⟩ := hvy43
  refine z_iconst (z := 1) C dX9_toWarm_12 rfl ?_
  refine z_istore_n (lv' := [(3, .int (zI (1))), (0, .ref (ad 0)), (1, .int (zI (z))), (2, .int (zI (z1)))]) C dX9_toWarm_13 rfl (by decide) rfl ?_
  have lp14 : ∀ (n9 : Nat) (i : Int) (g1 : Nat → va_E), (51 - i).toNat = n9 → (okRec cs ad g1 N t fp im nz kz sl ho ua st op ai fa mu tb tp) → (oX g g1) → (1 ≤ i ∧ i ≤ 51) → (0 ≤ z ∧ z < sl) → (1 ≤ z1 ∧ z1 ≤ 24) → zV p l e ({ frames := 12, cells := 6, slots := 60, locals := 720 } : Room) s m ([.ref (ad 0), .int (zI (z)), .int (zI (z1))] : List Value).toArray below meth c (vx_MQ below (zPost D A (rI0 N ad fun r g' => (-2147483648 ≤ r ∧ r ≤ 2147483647) ∧ okRec cs ad g' N t fp im nz kz sl ho ua st op ai fa mu tb tp ∧ oX g g')) (zX D A (fun E N' ad' g' => (E = eNS ∨ E = eIA) ∧ N' = N ∧ ad' = ad ∧ g' = g)) ([.ref (ad 0), .int (zI (z)), .int (zI (z1))] : List Value).toArray s ({ frames := 12, cells := 6, slots := 60, locals := 720 } : Room).cells ({ frames := 12, cells := 6, slots := 60, locals := 720 } : Room).slots A) D A 4 (N) ad g1 (2) (12) 14 [(3, .int (zI (i))), (0, .ref (ad 0)), (1, .int (zI (z))), (2, .int (zI (z1)))] [] := by
    intro n9
    induction n9 using Nat.strongRecOn with
    | ind n9 ih_lp14 =>
      intro i g1 hm9 f1 f2 hv14_0 hv14_1 hv14_2
      obtain ⟨ary44, bry44, cry44, dry44, ery44, fry44, gry441, hry44, ⟨acry44, iry44⟩, ⟨kcry44, jry44⟩, kry44, lry44, mry44, nry44, ory44, pry44⟩ := id f1
      have hay45 : zAt ad (0) (ad 0) := rfl
      have hay46 : zAt ad (1) (ad 1) := rfl
      have hay47 : zAt ad (2) (ad 2) := rfl
      have hay48 : zAt ad (4) (ad 4) := rfl
      have hay49 : zAt ad (11) (ad 11) := rfl
      have hay50 : zAt ad (447) (ad 447) := rfl
      have hay51 : zAt ad (883) (ad 883) := rfl
      have hay52 : zAt ad (890) (ad 890) := rfl
      have hay53 : zAt ad (900) (ad 900) := rfl
      have hay54 : zAt ad (910) (ad 910) := rfl
      have hay55 : zAt ad (917) (ad 917) := rfl
      have hay56 : zAt ad (919) (ad 919) := rfl
      have hay57 : zAt ad (4 + 1) (ad (4 + 1)) := rfl
      have hay58 : zAt ad (4 + 2) (ad (4 + 2)) := rfl
      have hay59 : zAt ad (4 + 3) (ad (4 + 3)) := rfl
      have hay60 : zAt ad (4 + 4) (ad (4 + 4)) := rfl
      have hay61 : zAt ad (4 + 5) (ad (4 + 5)) := rfl
      have hay62 : zAt ad (4 + 6) (ad (4 + 6)) := rfl
      obtain ⟨thcy63, zhcy63, ohcy63, rhcy63, hzhcy63, hthcy63, hwhcy63⟩ := id lry44
      obtain ⟨thcy64, zhcy64, ohcy64, rhcy64, hzhcy64, hthcy64, hwhcy64⟩ := id mry44
      obtain ⟨asy65, bsy65, csy65, dsy65, esy65, ⟨ptsy65, fsy65, gsy651⟩, hsy65, ⟨nusy65, nvsy65, nwsy65, isy65, jsy65, ksy65, lsy65, msy65, nsy65⟩, rfsy65, osy65⟩ := id iry44
      have hay66 : zAt ad (11 + 1) (ad (11 + 1)) := rfl
      have hay67 : zAt ad (11 + 11) (ad (11 + 11)) := rfl
      have hay68 : zAt ad (11 + 12) (ad (11 + 12)) := rfl
      have hay69 : zAt ad (11 + 13) (ad (11 + 13)) := rfl
      have hay70 : zAt ad (11 + 13 + 1) (ad (11 + 13 + 1)) := rfl
      have hay71 : zAt ad (11 + 13 + 2) (ad (11 + 13 + 2)) := rfl
      have hay72 : zAt ad (11 + 13 + 3) (ad (11 + 13 + 3)) := rfl
      have hay73 : zAt ad (11 + 17) (ad (11 + 17)) := rfl
      obtain ⟨uy74t, uy74z, uy74o, uy74r, uy74z4, uy74t5, uy741, ⟨uy74u, uy742, uy743⟩, uy744⟩ := id csy65
      have hay75 : zAt ad (11 + 1) (ad (11 + 1)) := rfl
      have hay76 : zAt ad (11 + 1 + 1) (ad (11 + 1 + 1)) := rfl
      obtain ⟨sloy77, hooy77, uaoy77, stoy77, opoy77, aioy77, faoy77, muoy77, tboy77, hsloy77, hhooy77, hpoy77⟩ := id kry44
      have hay78 : zAt ad (883 + 1) (ad (883 + 1)) := rfl
      have hay79 : zAt ad (883 + 2) (ad (883 + 2)) := rfl
      have hay80 : zAt ad (883 + 3) (ad (883 + 3)) := rfl
      have hay81 : zAt ad (883 + 4) (ad (883 + 4)) := rfl
      have hay82 : zAt ad (883 + 5) (ad (883 + 5)) := rfl
      have hay83 : zAt ad (883 + 6) (ad (883 + 6)) := rfl
      refine z_iload_n C 0 dX9_toWarm_14 rfl ?_
      refine z_bipush (z := 50) C dX9_toWarm_15 (by decide) ?_
      refine z_icmp_gt (tgt := 56) C dX9_toWarm_17 (by decide) (by omega) (by omega) (fun hby84 => ?_) (fun hby84 => ?_)
      · refine z_iconst (z := -1) C dX9_toWarm_56 rfl ?_
        have hrecy85 : okRec cs ad g1 N (t) (fp) (im) (nz) (kz) (sl) (ho) (ua) (st) (op) (ai) (fa) (mu) (tb) (tp) := ⟨ary44, bry44, cry44, dry44, ery44, fry44, gry441, hry44, ⟨_, iry44⟩, ⟨_, jry44⟩, kry44, lry44, mry44, nry44, ory44, pry44⟩
        exact z_rX (z_iret C hr hlk dX9_toWarm_57 (by decide) (by decide) ⟨-1, rfl, rfl, rfl, by omega, hrecy85, fun j j1 j2 => by exact f2 j j1 j2⟩)
      · refine z_aload_n C 1 dX9_toWarm_20 rfl ?_
        refine z_get (v := .ref (ad 883)) C (lt_K hN (rfl : Nat.blt (0) 952 = true)) hay45 ary44 rfl inA_X9 8 (by decide) q_357 rfl rfl dX9_toWarm_21 ?_
        refine z_aload_n C 1 dX9_toWarm_24 rfl ?_
        refine z_get (v := .ref (ad 4)) C (lt_K hN (rfl : Nat.blt (0) 952 = true)) hay45 ary44 rfl inA_X9 4 (by decide) q_353 rfl rfl dX9_toWarm_25 ?_
        refine z_cV (As := [.ref (ad 4)]) (rest := []) (ci := 7) C (c_X5_copyFrom l D A cs tt N ad _ 883 (by omega) _ _ _ _ _ _ _ _ _ ⟨hpoy77.1, hpoy77.2.1, hpoy77.2.2.1, hpoy77.2.2.2.1, hpoy77.2.2.2.2.1, hpoy77.2.2.2.2.2.1, hpoy77.2.2.2.2.2.2⟩ (4) (by omega) _ _ _ _ _ _ _ _ _ ⟨fry44.1, fry44.2.1, fry44.2.2.1, fry44.2.2.2.1, fry44.2.2.2.2.1, fry44.2.2.2.2.2.1, fry44.2.2.2.2.2.2⟩ (by omega)) (lt_K hN (rfl : Nat.blt (883) 952 = true)) hay51 hpoy77.1 rfl rfl mv_yX5_copyFrom q_862 hd_yX5_copyFrom (by decide) (Nat.le_of_ble_eq_true rfl) (by decide) dX9_toWarm_28 rfl (kV0 fun gvy86 hvy86 => ?_)
        obtain ⟨hpvy86, hfvy86⟩ := hvy86
        have hopy87 : okPlan cs ad gvy86 883 := ⟨_, _, _, _, _, _, _, _, _, by omega, by omega, hpvy86⟩
        obtain ⟨sloy88, hooy88, uaoy88, stoy88, opoy88, aioy88, faoy88, muoy88, tboy88, hsloy88, hhooy88, hpoy88⟩ := id hopy87
        refine z_aload_n C 1 dX9_toWarm_31 rfl ?_
        have hgy89 := (hfvy86 (0) (by omega)).trans ary44
        refine z_get (v := .ref (ad 883)) C (lt_K hN (rfl : Nat.blt (0) 952 = true)) hay45 hgy89 rfl inA_X9 8 (by decide) q_357 rfl rfl dX9_toWarm_32 ?_
        refine z_iload_n C 0 dX9_toWarm_35 rfl ?_
        refine z_cV (As := [.int (zI (i))]) (rest := []) (ci := 7) C (c_X5_warm l D A cs tt N ad _ 883 (by omega) _ _ _ _ _ _ _ _ _ ⟨hpoy88.1, hpoy88.2.1, hpoy88.2.2.1, hpoy88.2.2.2.1, hpoy88.2.2.2.2.1, hpoy88.2.2.2.2.2.1, hpoy88.2.2.2.2.2.2⟩ (by omega) (by omega) (i) (by omega)) (lt_K hN (rfl : Nat.blt (883) 952 = true)) hay51 hpoy88.1 rfl rfl mv_yX5_warm q_1288 hd_yX5_warm (by decide) (Nat.le_of_ble_eq_true rfl) (by decide) dX9_toWarm_36 rfl (kV0 fun gvy90 hvy90 => ?_)
        obtain ⟨hpvy90, hfvy90⟩ := hvy90
        have hopy91 : okPlan cs ad gvy90 883 := hpvy90
        obtain ⟨sloy92, hooy92, uaoy92, stoy92, opoy92, aioy92, faoy92, muoy92, tboy92, hsloy92, hhooy92, hpoy92⟩ := id hopy91
        refine z_aload_n C 1 dX9_toWarm_39 rfl ?_
        refine z_iload_n C 2 dX9_toWarm_40 rfl ?_
        refine z_iload_n C 3 dX9_toWarm_41 rfl ?_
        have hgy94 := (hfvy90 (0) (by omega)).trans hgy89
        have hgy95 := (hfvy86 (1) (by omega)).trans dry44
        have hgy96 := (hfvy90 (1) (by omega)).trans hgy95
        have hpy97 := okState.mv (ad' := ad) (g' := gvy90) (fun j h1 h2 => by rfl) (fun j h1 h2 => by rw [hfvy90 _ (by omega)]; rw [hfvy86 _ (by omega)]) iry44
        have hpy98 := okRdr.mv (ad' := ad) (g' := gvy90) (fun j h1 h2 => by rfl) (fun j h1 h2 => by rw [hfvy90 _ (by omega)]; rw [hfvy86 _ (by omega)]) ery44
        have hpy99 := isPlan.mv (ad' := ad) (g' := gvy90) (fun j h1 h2 => by rfl) (fun j h1 h2 => by rw [hfvy90 _ (by omega)]; rw [hfvy86 _ (by omega)]) fry44
        have hpy100 := okState.mv (ad' := ad) (g' := gvy90) (fun j h1 h2 => by rfl) (fun j h1 h2 => by rw [hfvy90 _ (by omega)]; rw [hfvy86 _ (by omega)]) jry44
        have hpy101 := okGss.mv (ad' := ad) (g' := gvy90) (fun j h1 h2 => by rfl) (fun j h1 h2 => by rw [hfvy90 _ (by omega)]; rw [hfvy86 _ (by omega)]) nry44
        have hpy102 := okLike.mv (ad' := ad) (g' := gvy90) (fun j h1 h2 => by rfl) (fun j h1 h2 => by rw [hfvy90 _ (by omega)]; rw [hfvy86 _ (by omega)]) ory44
        have hpy103 := okBld.mv (ad' := ad) (g' := gvy90) (fun j h1 h2 => by rfl) (fun j h1 h2 => by rw [hfvy90 _ (by omega)]; rw [hfvy86 _ (by omega)]) pry44
        have hoky104 : okWorld cs ad gvy90 (890) := okWorld.mv (fun j j1 j2 => by rw [hfvy90 _ (by omega)]; rw [hfvy86 _ (by omega)]) lry44
        have hoky105 : okWorld cs ad gvy90 (900) := okWorld.mv (fun j j1 j2 => by rw [hfvy90 _ (by omega)]; rw [hfvy86 _ (by omega)]) mry44
        have hrecy106 : okRec cs ad gvy90 N (t) (fp) (im) (nz) (kz) (sl) (ho) (ua) (st) (op) (ai) (fa) (mu) (tb) (tp) := ⟨hgy94, bry44, cry44, hgy96, hpy98, hpy99, gry441, hry44, ⟨_, hpy97⟩, ⟨_, hpy100⟩, hopy91, hoky104, hoky105, hpy101, hpy102, hpy103⟩
        refine z_cV (As := [.int (zI (z)), .int (zI (z1))]) (rest := []) (ci := 11) C (c_X9_isOnceUnstable l D A cs tt N ad _ hN _ _ _ _ _ _ _ _ _ _ _ _ _ _ _ hrecy106 (z) (by omega) (z1) (by omega)) (lt_K hN (rfl : Nat.blt (0) 952 = true)) hay45 hgy94 rfl rfl mv_yX9_isOnceUnstable q_1293 hd_yX9_isOnceUnstable (by decide) (Nat.le_of_ble_eq_true rfl) (by decide) dX9_toWarm_42 rfl (kI0 fun vy93 gvy93 hvy93 => ?_)
        obtain ⟨hrvy93, hkvy93, hfvy93⟩ := hvy93
        obtain ⟨ary107, bry107, cry107, dry107, ery107, fry107, gry1071, hry107, ⟨acry107, iry107⟩, ⟨kcry107, jry107⟩, kry107, lry107, mry107, nry107, ory107, pry107⟩ := id hkvy93
        obtain ⟨thcy108, zhcy108, ohcy108, rhcy108, hzhcy108, hthcy108, hwhcy108⟩ := id lry107
        obtain ⟨thcy109, zhcy109, ohcy109, rhcy109, hzhcy109, hthcy109, hwhcy109⟩ := id mry107
        obtain ⟨asy110, bsy110, csy110, dsy110, esy110, ⟨ptsy110, fsy110, gsy1101⟩, hsy110, ⟨nusy110, nvsy110, nwsy110, isy110, jsy110, ksy110, lsy110, msy110, nsy110⟩, rfsy110, osy110⟩ := id iry107
        obtain ⟨uy111t, uy111z, uy111o, uy111r, uy111z4, uy111t5, uy1111, ⟨uy111u, uy1112, uy1113⟩, uy1114⟩ := id csy110
        have hay112 : zAt ad (11 + 1) (ad (11 + 1)) := rfl
        have hay113 : zAt ad (11 + 1 + 1) (ad (11 + 1 + 1)) := rfl
        obtain ⟨sloy114, hooy114, uaoy114, stoy114, opoy114, aioy114, faoy114, muoy114, tboy114, hsloy114, hhooy114, hpoy114⟩ := id kry107
        refine z_if_eq (tgt := 50) C dX9_toWarm_45 (by decide) (by omega) (fun hby115 => ?_) (fun hby115 => ?_)
        · refine z_iinc (z := i + 1) (lv' := [(3, .int (zI (i + 1))), (0, .ref (ad 0)), (1, .int (zI (z))), (2, .int (zI (z1)))]) (j := 0) C dX9_toWarm_50 rfl rfl (by decide) rfl ?_
          refine z_goto (tgt := 14) C dX9_toWarm_53 (by decide) ?_
          have hrecy116 : okRec cs ad gvy93 N (t) (fp) (im) (nz) (kz) (sl) (ho) (ua) (st) (op) (ai) (fa) (mu) (tb) (tp) := ⟨ary107, bry107, cry107, dry107, ery107, fry107, gry1071, hry107, ⟨_, iry107⟩, ⟨_, jry107⟩, kry107, lry107, mry107, nry107, ory107, pry107⟩
          refine z_lv (lv' := [(3, .int (zI (i + 1))), (0, .ref (ad 0)), (1, .int (zI (z))), (2, .int (zI (z1)))]) [0, 1, 2, 3] rfl ?_
          exact ih_lp14 _ (by omega) (i + 1) gvy93 rfl hrecy116 (fun j j1 j2 => by rw [hfvy93 _ (by omega) (by omega)]; rw [hfvy90 _ (by omega)]; rw [hfvy86 _ (by omega)]; exact f2 j j1 j2) (by omega) (by omega) (by omega)
        · refine z_iload_n C 0 dX9_toWarm_48 rfl ?_
          have hrecy117 : okRec cs ad gvy93 N (t) (fp) (im) (nz) (kz) (sl) (ho) (ua) (st) (op) (ai) (fa) (mu) (tb) (tp) := ⟨ary107, bry107, cry107, dry107, ery107, fry107, gry1071, hry107, ⟨_, iry107⟩, ⟨_, jry107⟩, kry107, lry107, mry107, nry107, ory107, pry107⟩
          exact z_rX (z_iret C hr hlk dX9_toWarm_49 (by decide) (by decide) ⟨i, rfl, rfl, rfl, by omega, hrecy117, fun j j1 j2 => by rw [hfvy93 _ (by omega) (by omega)]; rw [hfvy90 _ (by omega)]; rw [hfvy86 _ (by omega)]; exact f2 j j1 j2⟩)
  have hrecy118 : okRec cs ad g N (t) (fp) (im) (nz) (kz) (sl) (ho) (ua) (st) (op) (ai) (fa) (mu) (tb) (tp) := ⟨ary1, bry1, cry1, dry1, ery1, fry1, gry11, hry1, ⟨_, iry1⟩, ⟨_, jry1⟩, kry1, lry1, mry1, nry1, ory1, pry1⟩
  refine z_lv (lv' := [(3, .int (zI (1))), (0, .ref (ad 0)), (1, .int (zI (z))), (2, .int (zI (z1)))]) [0, 1, 2, 3] rfl ?_
  exact lp14 _ (1) g rfl hrecy118 (fun j j1 j2 => by rfl) (by omega) (by omega) (by omega)

