set_option maxRecDepth 100000 in
set_option maxHeartbeats 4000000 in
theorem c_X9_worst (l : Launch) (D : va_G) (A : Nat → Prop) (cs : Nat → ClassId) (tt : Nat) (N : Nat) (ad : Nat → Nat) (g : Nat → va_E) (i : Nat) (hN : i + 921 ≤ N) (hR : isRec cs ad g i) : zM l yX9_worst cX9_worst 5 (some .int) ({ frames := 1, cells := 0, slots := 0, locals := 60 } : Room) D A cs tt N ad g [.ref (ad i)] (rI0 N ad fun r g' => r = -1 ∧ g' = g) := by
  obtain ⟨r1, r2, r3, r4, r5, r6, r7, r8, r9, r10, r11, r12⟩ := id hR
  have ha1 : zAt ad (i) (ad i) := rfl
  have ha2 : zAt ad (i + 4) (ad (i + 4)) := rfl
  refine z_of (by decide) (Nat.le_of_ble_eq_true rfl) ?_
  intro p e s m below meth c C hr hlk hnm
  refine z_lv (lv' := [(0, .ref (ad i))]) [0] rfl ?_
  refine z_iconst (z := -1) C dX9_worst_0 rfl ?_
  refine z_istore_n (lv' := [(1, .int (zI (-1))), (0, .ref (ad i))]) C dX9_worst_1 rfl (by decide) rfl ?_
  refine z_iconst (z := 0) C dX9_worst_2 rfl ?_
  refine z_istore_n (lv' := [(2, .int (zI (0))), (1, .int (zI (-1))), (0, .ref (ad i))]) C dX9_worst_3 rfl (by decide) rfl ?_
  refine z_iconst (z := 0) C dX9_worst_4 rfl ?_
  refine z_istore_n (lv' := [(3, .int (zI (0))), (2, .int (zI (0))), (1, .int (zI (-1))), (0, .ref (ad i))]) C dX9_worst_5 rfl (by decide) rfl ?_
  refine z_iload_n C 0 dX9_worst_6 rfl ?_
  refine z_aload_n C 3 dX9_worst_7 rfl ?_
  refine z_get (v := .ref (ad (i + 4))) C (by omega) ha1 r1 rfl inA_X9 4 (by decide) q_353 rfl rfl dX9_worst_8 ?_
  refine z_get (v := .int (zI (0))) C (by omega) ha2 r4.1 rfl inA_X5 0 (by decide) q_90 rfl rfl dX9_worst_11 ?_
  refine z_icmp_ge (tgt := 69) C dX9_worst_14 (by decide) (by omega) (by omega) (fun _ => ?_) (fun h => absurd h (by omega))
  refine z_iload_n C 2 dX9_worst_69 rfl ?_
  exact z_iret C hr hlk dX9_worst_70 (by decide) (by decide) ⟨-1, rfl, rfl, rfl, rfl, rfl⟩

set_option maxRecDepth 100000 in
set_option maxHeartbeats 4000000 in
theorem c_X9_count (l : Launch) (D : va_G) (A : Nat → Prop) (cs : Nat → ClassId) (tt : Nat) (N : Nat) (ad : Nat → Nat) (g : Nat → va_E) (i : Nat) (hN : i + 921 ≤ N) (hR : isRec cs ad g i) (hl0 : l.stackTraces = false) (z : Int) (hz : -2147483648 ≤ z ∧ z ≤ 2147483647) : zMX l yX9_count cX9_count 3 (some .int) ({ frames := 8, cells := 1, slots := 6, locals := 480 } : Room) D A cs tt N ad g [.ref (ad i), .int (zI z)] (rI0 N ad fun r g' => 0 ≤ z ∧ z ≤ 17 ∧ r = (if z = 10 then -1 else 0) ∧ oR i g g') (fun E N' ad' g' => E = eNS ∧ N' = N ∧ ad' = ad ∧ g' = g ∧ (z < 0 ∨ 17 < z)) := by
  obtain ⟨r1, r2, r3, r4, r5, r6, r7, r8, r9, r10, r11, r12⟩ := id hR
  have ha1 : zAt ad (i) (ad i) := rfl
  have ha2 : zAt ad (i + 4) (ad (i + 4)) := rfl
  have ha3 : zAt ad (i + 11) (ad (i + 11)) := rfl
  have ha4 : zAt ad (i + 11 + 1) (ad (i + 11 + 1)) := rfl
  have ha5 : zAt ad (i + 11 + 17) (ad (i + 11 + 17)) := rfl
  have ha6 : zAt ad (i + 11 + 13) (ad (i + 11 + 13)) := rfl
  refine z_ofX (by decide) (Nat.le_of_ble_eq_true rfl) ?_
  intro p e s m below meth c C hr hlk hxt
  refine z_lv (lv' := [(0, .ref (ad i)), (1, .int (zI (z)))]) [0, 1] rfl ?_
  refine z_aload_n C 0 dX9_count_0 rfl ?_
  refine z_get (v := .ref (ad (i + 11))) C (by omega) ha1 r1 rfl inA_X9 5 (by decide) q_354 rfl rfl dX9_count_1 ?_
  refine z_get (v := .ref (ad (i + 11 + 1))) C (by omega) ha3 r5.1 rfl inA_X6 0 (by decide) q_258 rfl rfl dX9_count_4 ?_
  refine z_astore_n (lv' := [(2, .ref (ad (i + 11 + 1))), (0, .ref (ad i)), (1, .int (zI (z)))]) C dX9_count_7 rfl (by decide) rfl ?_
  refine z_iload_n C 2 dX9_count_8 rfl ?_
  by_cases hsw : z < 0 ∨ 17 < z
  · refine z_tout (tgt := 225) C dX9_count_9 (by omega) hsw (by decide) ?_
    exact z_thrN (cls := eNS) (text := "no such count") C hl0 (ix := 13) (rx := nsB) ns0 ns1 ns2 ns5 (by decide +kernel) q_904 q_24 (by decide +kernel) at_NS gd_NS dX9_count_225 dX9_count_228 dX9_count_229 dX9_count_231 dX9_count_234 hxt (by decide) (Nat.le_of_ble_eq_true rfl) (by decide) (by decide) hlk (by decide) (by decide) ⟨rfl, rfl, rfl, rfl, hsw⟩
  · rcases (show z = 0 ∨ z = 1 ∨ z = 2 ∨ z = 3 ∨ z = 4 ∨ z = 5 ∨ z = 6 ∨ z = 7 ∨ z = 8 ∨ z = 9 ∨ z = 10 ∨ z = 11 ∨ z = 12 ∨ z = 13 ∨ z = 14 ∨ z = 15 ∨ z = 16 ∨ z = 17 by omega) with rfl | rfl | rfl | rfl | rfl | rfl | rfl | rfl | rfl | rfl | rfl | rfl | rfl | rfl | rfl | rfl | rfl | rfl
    · refine z_tin (off := 87) (tgt := 96) C dX9_count_9 (by omega) (by omega) (by omega) rfl (by decide) ?_
      refine z_aload_n C 1 dX9_count_96 rfl ?_
      refine z_get (v := .ref (ad (i + 4))) C (by omega) ha1 r1 rfl inA_X9 4 (by decide) q_353 rfl rfl dX9_count_97 ?_
      refine z_get (v := .int (zI (0))) C (by omega) ha2 r4.1 rfl inA_X5 0 (by decide) q_90 rfl rfl dX9_count_100 ?_
      exact z_rX (z_iret C hr hlk dX9_count_103 (by decide) (by decide) ⟨0, rfl, rfl, rfl, by decide, by decide, rfl, fun j h1 => rfl⟩)
    · refine z_tin (off := 95) (tgt := 104) C dX9_count_9 (by omega) (by omega) (by omega) rfl (by decide) ?_
      refine z_aload_n C 1 dX9_count_104 rfl ?_
      refine z_get (v := .ref (ad (i + 4))) C (by omega) ha1 r1 rfl inA_X9 4 (by decide) q_353 rfl rfl dX9_count_105 ?_
      refine z_get (v := .int (zI (0))) C (by omega) ha2 r4.1 rfl inA_X5 1 (by decide) q_93 rfl rfl dX9_count_108 ?_
      exact z_rX (z_iret C hr hlk dX9_count_111 (by decide) (by decide) ⟨0, rfl, rfl, rfl, by decide, by decide, rfl, fun j h1 => rfl⟩)
    · refine z_tin (off := 103) (tgt := 112) C dX9_count_9 (by omega) (by omega) (by omega) rfl (by decide) ?_
      refine z_aload_n C 0 dX9_count_112 rfl ?_
      refine z_get (v := .int (zI (0))) C (by omega) ha4 r5.2.1.1 rfl inA_X8 0 (by decide) q_174 rfl rfl dX9_count_113 ?_
      exact z_rX (z_iret C hr hlk dX9_count_116 (by decide) (by decide) ⟨0, rfl, rfl, rfl, by decide, by decide, rfl, fun j h1 => rfl⟩)
    · refine z_tin (off := 108) (tgt := 117) C dX9_count_9 (by omega) (by omega) (by omega) rfl (by decide) ?_
      refine z_aload_n C 0 dX9_count_117 rfl ?_
      refine z_cV (As := []) (rest := []) (ci := 10) C (c_X8_layers0 l D A cs tt N ad _ (i + 11 + 1) (by omega) r5.2.1) (by omega) ha4 r5.2.1.1 rfl rfl mv_yX8_layers q_878 hd_yX8_layers (by decide) (Nat.le_of_ble_eq_true rfl) (by decide) dX9_count_118 rfl (kI0 fun r0x g0x h0x => ?_)
      obtain ⟨rfl, rfl⟩ := h0x
      exact z_rX (z_iret C hr hlk dX9_count_121 (by decide) (by decide) ⟨0, rfl, rfl, rfl, by decide, by decide, rfl, fun j h1 => rfl⟩)
    · refine z_tin (off := 113) (tgt := 122) C dX9_count_9 (by omega) (by omega) (by omega) rfl (by decide) ?_
      refine z_aload_n C 0 dX9_count_122 rfl ?_
      refine z_get (v := .int (zI (0))) C (by omega) ha4 r5.2.1.1 rfl inA_X8 1 (by decide) q_177 rfl rfl dX9_count_123 ?_
      exact z_rX (z_iret C hr hlk dX9_count_126 (by decide) (by decide) ⟨0, rfl, rfl, rfl, by decide, by decide, rfl, fun j h1 => rfl⟩)
    · refine z_tin (off := 118) (tgt := 127) C dX9_count_9 (by omega) (by omega) (by omega) rfl (by decide) ?_
      refine z_aload_n C 0 dX9_count_127 rfl ?_
      refine z_cV (As := []) (rest := []) (ci := 10) C (c_X8_runoff0 l D A cs tt N ad _ (i + 11 + 1) (by omega) r5.2.1) (by omega) ha4 r5.2.1.1 rfl rfl mv_yX8_runoff q_882 hd_yX8_runoff (by decide) (Nat.le_of_ble_eq_true rfl) (by decide) dX9_count_128 rfl (kI0 fun r0x g0x h0x => ?_)
      obtain ⟨rfl, rfl⟩ := h0x
      exact z_rX (z_iret C hr hlk dX9_count_131 (by decide) (by decide) ⟨0, rfl, rfl, rfl, by decide, by decide, rfl, fun j h1 => rfl⟩)
    · refine z_tin (off := 123) (tgt := 132) C dX9_count_9 (by omega) (by omega) (by omega) rfl (by decide) ?_
      refine z_aload_n C 0 dX9_count_132 rfl ?_
      refine z_get (v := .int (zI (0))) C (by omega) ha4 r5.2.1.1 rfl inA_X8 2 (by decide) q_180 rfl rfl dX9_count_133 ?_
      exact z_rX (z_iret C hr hlk dX9_count_136 (by decide) (by decide) ⟨0, rfl, rfl, rfl, by decide, by decide, rfl, fun j h1 => rfl⟩)
    · refine z_tin (off := 128) (tgt := 137) C dX9_count_9 (by omega) (by omega) (by omega) rfl (by decide) ?_
      refine z_aload_n C 0 dX9_count_137 rfl ?_
      refine z_get (v := .int (zI (0))) C (by omega) ha4 r5.2.1.1 rfl inA_X8 3 (by decide) q_182 rfl rfl dX9_count_138 ?_
      exact z_rX (z_iret C hr hlk dX9_count_141 (by decide) (by decide) ⟨0, rfl, rfl, rfl, by decide, by decide, rfl, fun j h1 => rfl⟩)
    · refine z_tin (off := 133) (tgt := 142) C dX9_count_9 (by omega) (by omega) (by omega) rfl (by decide) ?_
      refine z_aload_n C 0 dX9_count_142 rfl ?_
      refine z_get (v := .int (zI (0))) C (by omega) ha4 r5.2.1.1 rfl inA_X8 4 (by decide) q_184 rfl rfl dX9_count_143 ?_
      exact z_rX (z_iret C hr hlk dX9_count_146 (by decide) (by decide) ⟨0, rfl, rfl, rfl, by decide, by decide, rfl, fun j h1 => rfl⟩)
    · refine z_tin (off := 138) (tgt := 147) C dX9_count_9 (by omega) (by omega) (by omega) rfl (by decide) ?_
      refine z_aload_n C 0 dX9_count_147 rfl ?_
      refine z_bipush (z := 12) C dX9_count_148 (by decide) ?_
      refine z_cV (As := [.int (zI (12))]) (rest := []) (ci := 10) C (c_X8_sum0 l D A cs tt N ad _ (i + 11 + 1) (by omega) r5.2.1 12) (by omega) ha4 r5.2.1.1 rfl rfl mv_yX8_sum q_886 hd_yX8_sum (by decide) (Nat.le_of_ble_eq_true rfl) (by decide) dX9_count_150 rfl (kI0 fun r12x g12x h12x => ?_)
      obtain ⟨rfl, rfl⟩ := h12x
      refine z_aload_n C 0 dX9_count_153 rfl ?_
      refine z_bipush (z := 24) C dX9_count_154 (by decide) ?_
      refine z_cV (As := [.int (zI (24))]) (rest := [.int (zI (0))]) (ci := 10) C (c_X8_sum0 l D A cs tt N ad _ (i + 11 + 1) (by omega) r5.2.1 24) (by omega) ha4 r5.2.1.1 rfl rfl mv_yX8_sum q_886 hd_yX8_sum (by decide) (Nat.le_of_ble_eq_true rfl) (by decide) dX9_count_156 rfl (kI0 fun r24x g24x h24x => ?_)
      obtain ⟨rfl, rfl⟩ := h24x
      refine z_iadd C dX9_count_159 ?_
      exact z_rX (z_iret C hr hlk dX9_count_160 (by decide) (by decide) ⟨0, rfl, rfl, rfl, by decide, by decide, rfl, fun j h1 => rfl⟩)
    · refine z_tin (off := 152) (tgt := 161) C dX9_count_9 (by omega) (by omega) (by omega) rfl (by decide) ?_
      refine z_aload_n C 1 dX9_count_161 rfl ?_
      refine z_cV (As := []) (rest := []) (ci := 11) C (c_X9_worst l D A cs tt N ad _ i hN hR) (by omega) ha1 r1 rfl rfl mv_yX9_worst q_894 hd_yX9_worst (by decide) (Nat.le_of_ble_eq_true rfl) (by decide) dX9_count_162 rfl (kI0 fun r0x g0x h0x => ?_)
      obtain ⟨rfl, rfl⟩ := h0x
      exact z_rX (z_iret C hr hlk dX9_count_165 (by decide) (by decide) ⟨-1, rfl, rfl, rfl, by decide, by decide, rfl, fun j h1 => rfl⟩)
    · refine z_tin (off := 157) (tgt := 166) C dX9_count_9 (by omega) (by omega) (by omega) rfl (by decide) ?_
      refine z_aload_n C 0 dX9_count_166 rfl ?_
      refine z_get (v := .int (zI (0))) C (by omega) ha4 r5.2.1.1 rfl inA_X8 5 (by decide) q_186 rfl rfl dX9_count_167 ?_
      exact z_rX (z_iret C hr hlk dX9_count_170 (by decide) (by decide) ⟨0, rfl, rfl, rfl, by decide, by decide, rfl, fun j h1 => rfl⟩)
    · refine z_tin (off := 162) (tgt := 171) C dX9_count_9 (by omega) (by omega) (by omega) rfl (by decide) ?_
      refine z_aload_n C 1 dX9_count_171 rfl ?_
      refine z_get (v := .ref (ad (i + 11))) C (by omega) ha1 r1 rfl inA_X9 5 (by decide) q_354 rfl rfl dX9_count_172 ?_
      refine z_get (v := .int (zI (0))) C (by omega) ha3 r5.1 rfl inA_X6 2 (by decide) q_261 rfl rfl dX9_count_175 ?_
      exact z_rX (z_iret C hr hlk dX9_count_178 (by decide) (by decide) ⟨0, rfl, rfl, rfl, by decide, by decide, rfl, fun j h1 => rfl⟩)
    · refine z_tin (off := 170) (tgt := 179) C dX9_count_9 (by omega) (by omega) (by omega) rfl (by decide) ?_
      refine z_aload_n C 1 dX9_count_179 rfl ?_
      refine z_get (v := .ref (ad (i + 11))) C (by omega) ha1 r1 rfl inA_X9 5 (by decide) q_354 rfl rfl dX9_count_180 ?_
      refine z_get (v := .ref (ad (i + 11 + 13))) C (by omega) ha3 r5.1 rfl inA_X6 4 (by decide) q_265 rfl rfl dX9_count_183 ?_
      refine z_get (v := .int (zI (0))) C (by omega) ha6 r5.2.2.2.2.1.1 rfl inA_X2 0 (by decide) q_218 rfl rfl dX9_count_186 ?_
      exact z_rX (z_iret C hr hlk dX9_count_189 (by decide) (by decide) ⟨0, rfl, rfl, rfl, by decide, by decide, rfl, fun j h1 => rfl⟩)
    · refine z_tin (off := 181) (tgt := 190) C dX9_count_9 (by omega) (by omega) (by omega) rfl (by decide) ?_
      refine z_aload_n C 1 dX9_count_190 rfl ?_
      refine z_get (v := .int (zI (0))) C (by omega) ha1 r1 rfl inA_X9 1 (by decide) q_350 rfl rfl dX9_count_191 ?_
      exact z_rX (z_iret C hr hlk dX9_count_194 (by decide) (by decide) ⟨0, rfl, rfl, rfl, by decide, by decide, rfl, fun j h1 => rfl⟩)
    · refine z_tin (off := 186) (tgt := 195) C dX9_count_9 (by omega) (by omega) (by omega) rfl (by decide) ?_
      refine z_aload_n C 1 dX9_count_195 rfl ?_
      refine z_get (v := .ref (ad (i + 11))) C (by omega) ha1 r1 rfl inA_X9 5 (by decide) q_354 rfl rfl dX9_count_196 ?_
      refine z_get (v := .ref (ad (i + 11 + 17))) C (by omega) ha3 r5.1 rfl inA_X6 5 (by decide) q_267 rfl rfl dX9_count_199 ?_
      refine z_iconst (z := 0) C dX9_count_202 rfl ?_
      refine z_iald C (by omega) ha5 r5.2.2.2.2.2.1 (0) (by omega) (by omega) (by decide) dX9_count_203 ?_
      exact z_rX (z_iret C hr hlk dX9_count_204 (by decide) (by decide) ⟨0, rfl, rfl, rfl, by decide, by decide, rfl, fun j h1 => rfl⟩)
    · refine z_tin (off := 196) (tgt := 205) C dX9_count_9 (by omega) (by omega) (by omega) rfl (by decide) ?_
      refine z_aload_n C 1 dX9_count_205 rfl ?_
      refine z_get (v := .ref (ad (i + 11))) C (by omega) ha1 r1 rfl inA_X9 5 (by decide) q_354 rfl rfl dX9_count_206 ?_
      refine z_get (v := .ref (ad (i + 11 + 17))) C (by omega) ha3 r5.1 rfl inA_X6 5 (by decide) q_267 rfl rfl dX9_count_209 ?_
      refine z_iconst (z := 1) C dX9_count_212 rfl ?_
      refine z_iald C (by omega) ha5 r5.2.2.2.2.2.1 (1) (by omega) (by omega) (by decide) dX9_count_213 ?_
      exact z_rX (z_iret C hr hlk dX9_count_214 (by decide) (by decide) ⟨0, rfl, rfl, rfl, by decide, by decide, rfl, fun j h1 => rfl⟩)
    · refine z_tin (off := 206) (tgt := 215) C dX9_count_9 (by omega) (by omega) (by omega) rfl (by decide) ?_
      refine z_aload_n C 1 dX9_count_215 rfl ?_
      refine z_get (v := .ref (ad (i + 11))) C (by omega) ha1 r1 rfl inA_X9 5 (by decide) q_354 rfl rfl dX9_count_216 ?_
      refine z_get (v := .ref (ad (i + 11 + 17))) C (by omega) ha3 r5.1 rfl inA_X6 5 (by decide) q_267 rfl rfl dX9_count_219 ?_
      refine z_iconst (z := 2) C dX9_count_222 rfl ?_
      refine z_iald C (by omega) ha5 r5.2.2.2.2.2.1 (2) (by omega) (by omega) (by decide) dX9_count_223 ?_
      exact z_rX (z_iret C hr hlk dX9_count_224 (by decide) (by decide) ⟨0, rfl, rfl, rfl, by decide, by decide, rfl, fun j h1 => rfl⟩)

