section ZST2
variable {p : Program} {l : Launch} {e : Env} {R : Room} {s : State} {m : MethodId} {args : Array Value} {below : List Frame} {meth : Method} {c : Code} {Q : State → Prop} {D : va_G} {A : Nat → Prop} {cs : Nat → ClassId} {tt : Nat} {cc : ByteArray} {nL : Nat} {own : String} {N : Nat} {ad : Nat → Nat} {g : Nat → va_E} {k n pc : Nat} {lv lv' : List (Nat × Value)} {rest : List Value} {q : String × String × Nat × List Int32}
theorem z_stlen (C : zC p s m args c cc nL own D A cs tt) (hq : q ∈ STL) {L : Nat} (hL : q.2.2.2.length = L) (hdg : decode cc pc = .ok (.arraylength, 1)) (kk : zV p l e R s m args below meth c Q D A nL N ad g k n (pc + 1) (lv) (.int (zI (L : Int)) :: rest)) : zV p l e R s m args below meth c Q D A nL N ad g k n (pc) (lv) (.ref (cs (300 + q.2.2.1)) :: rest) := fun H locs ls hP hD hS hl => by
  subst hL
  exact va_tlen C.1 C.2.1 (C.S.2.1 q hq).2 hS (zI_nat _) hdg (kk H locs ls hP hD hS hl)
end ZST2
def RD (F : Nat → Int) : Prop := (0 ≤ F 32 ∧ F 32 ≤ F 34 ∧ F 34 ≤ 900) ∧ (0 ≤ F 33 ∧ F 33 ≤ 900) ∧ (0 ≤ F 35 ∧ F 35 ≤ 4) ∧ (-2147483648 ≤ F 36 ∧ F 36 ≤ 2147483647) ∧ (F 35 = 2 → 0 ≤ F 36 ∧ F 36 ≤ 99999) ∧ (-2147483648 ≤ F 37 ∧ F 37 ≤ 2147483647) ∧ (0 ≤ F 38 ∧ F 38 ≤ 5)

set_option maxRecDepth 100000 in
set_option maxHeartbeats 4000000 in
theorem c_X10_byteAt (l : Launch) (D : va_G) (A : Nat → Prop) (cs : Nat → ClassId) (tt : Nat) (N : Nat) (ad : Nat → Nat) (g : Nat → va_E) (i : Nat) (hN : i + 30 ≤ N) (F : Nat → Int) (hg : g i = mC ad i F) (tp : Nat → Int) (ha13 : g (i + 13) = iA cs 900 tp) (htp : ∀ k, k < 900 → 0 ≤ tp k ∧ tp k ≤ 255) (h34 : 0 ≤ F 34 ∧ F 34 ≤ 900) (z : Int) (hz : 0 ≤ z ∧ z ≤ 2000) : zM l yX10_byteAt cX10_byteAt 2 (some .int) ({ frames := 1, cells := 0, slots := 0, locals := 60 } : Room) D A cs tt N ad g [.ref (ad i), .int (zI (z))] (rI0 N ad fun r g' => (0 ≤ r ∧ r ≤ 255) ∧ ((z < F 34 ∧ r = tp z.toNat) ∨ (F 34 ≤ z ∧ r = 0)) ∧ g = g') := by
  have hay1 : zAt ad (i) (ad i) := rfl
  have hay2 : zAt ad (i + 13) (ad (i + 13)) := rfl
  refine z_of (by decide) (Nat.le_of_ble_eq_true rfl) ?_
  intro pZ eZ sZ mZ below meth cZ C hr hlk hnm
  refine z_lv (lv' := [(0, .ref (ad i)), (1, .int (zI (z)))]) [0, 1] rfl ?_
  refine z_iload_n C 1 dX10_byteAt_0 rfl ?_
  refine z_aload_n C 0 dX10_byteAt_1 rfl ?_
  refine z_get (v := .int (zI (F 34))) C (by omega) hay1 hg rfl inA_X10 34 (by decide) q_1493 rfl (fv (F := F) (f := 34) rfl) dX10_byteAt_2 ?_
  refine z_icmp_ge (tgt := 17) C dX10_byteAt_5 (by decide) (by omega) (by omega) (fun hby3 => ?_) (fun hby3 => ?_)
  · refine z_iconst (z := 0) C dX10_byteAt_17 rfl ?_
    exact z_iret C hr hlk dX10_byteAt_18 (by decide) (by decide) ⟨0, rfl, rfl, rfl, by omega, by omega, rfl⟩
  · refine z_aload_n C 0 dX10_byteAt_8 rfl ?_
    refine z_get (v := .ref (ad (i + 13))) C (by omega) hay1 hg rfl inA_X10 22 (by decide) q_1481 rfl rfl dX10_byteAt_9 ?_
    refine z_iload_n C 1 dX10_byteAt_12 rfl ?_
    refine z_iald C (by omega) hay2 ha13 ((z).toNat) (by omega) (by omega) (by decide) dX10_byteAt_13 ?_
    have hrfy4 := htp ((z).toNat) (by omega)
    refine z_goto (tgt := 18) C dX10_byteAt_14 (by decide) ?_
    exact z_iret C hr hlk dX10_byteAt_18 (by decide) (by decide) ⟨tp ((z).toNat), rfl, rfl, rfl, by omega, by omega, rfl⟩

set_option maxRecDepth 100000 in
set_option maxHeartbeats 4000000 in
theorem c_X10_wordFrom (l : Launch) (D : va_G) (A : Nat → Prop) (cs : Nat → ClassId) (tt : Nat) (N : Nat) (ad : Nat → Nat) (g : Nat → va_E) (i : Nat) (hN : i + 30 ≤ N) (F : Nat → Int) (hg : g i = mC ad i F) (tp : Nat → Int) (ha13 : g (i + 13) = iA cs 900 tp) (htp : ∀ k, k < 900 → 0 ≤ tp k ∧ tp k ≤ 255) (h34 : 0 ≤ F 34 ∧ F 34 ≤ 900) (z : Int) (hz : 0 ≤ z ∧ z ≤ 900) (z1 : Int) (hz1 : 0 ≤ z1 ∧ z1 ≤ 900) : zM l yX10_wordFrom cX10_wordFrom 7 (some .int) ({ frames := 2, cells := 0, slots := 0, locals := 120 } : Room) D A cs tt N ad g [.ref (ad i), .int (zI (z)), .int (zI (z1))] (rI0 N ad fun r g' => (-2147483648 ≤ r ∧ r ≤ 2147483647) ∧ g = g') := by
  have hay1 : zAt ad (i) (ad i) := rfl
  have hay2 : zAt ad (i + 13) (ad (i + 13)) := rfl
  refine z_of (by decide) (Nat.le_of_ble_eq_true rfl) ?_
  intro pZ eZ sZ mZ below meth cZ C hr hlk hnm
  refine z_lv (lv' := [(0, .ref (ad i)), (1, .int (zI (z))), (2, .int (zI (z1)))]) [0, 1, 2] rfl ?_
  have lp : ∀ (n9 : Nat) (wh9 : Int) (k9 : Int) (so : Int) (ii : Int) (g1 : Nat → va_E), (78 - ii).toNat = n9 → (g1 = g) → (0 ≤ wh9 ∧ wh9 ≤ ii) → (0 ≤ k9 ∧ k9 ≤ 900 + ii) → (0 ≤ so ∧ so ≤ 1) → (0 ≤ ii ∧ ii ≤ 78) → zV pZ l eZ ({ frames := 2, cells := 0, slots := 0, locals := 120 } : Room) sZ mZ ([.ref (ad i), .int (zI (z)), .int (zI (z1))] : List Value).toArray below meth cZ (MQ below (zPost D A (rI0 N ad fun r g' => (-2147483648 ≤ r ∧ r ≤ 2147483647) ∧ g = g')) ([.ref (ad i), .int (zI (z)), .int (zI (z1))] : List Value).toArray sZ ({ frames := 2, cells := 0, slots := 0, locals := 120 } : Room).cells ({ frames := 2, cells := 0, slots := 0, locals := 120 } : Room).slots A) D A 7 (N) ad g1 (0) (0) 11 [(0, .ref (ad i)), (1, .int (zI (z))), (2, .int (zI (z1))), (3, .int (zI (wh9))), (4, .int (zI (k9))), (5, .int (zI (so))), (6, .int (zI (ii)))] [] := by
    intro n9
    induction n9 using Nat.strongRecOn with
    | ind n9 ih =>
      intro wh9 k9 so ii g1 hm9 hg1 hv0 hv1 hv2 hv3
      subst hg1
      refine z_iload C 6 dX10_wordFrom_11 rfl ?_
      refine z_getSt C stm0 q_1667 dX10_wordFrom_13 ?_
      refine z_stlen (L := 78) C stm0 stl0 dX10_wordFrom_16 ?_
      refine z_icmp_ge (tgt := 98) C dX10_wordFrom_17 (by decide) (by omega) (by omega) (fun hby3 => ?_) (fun hby3 => ?_)
      · refine z_iconst (z := -1) C dX10_wordFrom_98 rfl ?_
        exact z_iret C hr hlk dX10_wordFrom_99 (by decide) (by decide) ⟨-1, rfl, rfl, rfl, by omega, rfl⟩
      · refine z_getSt C stm0 q_1667 dX10_wordFrom_20 ?_
        refine z_iload C 6 dX10_wordFrom_23 rfl ?_
        obtain ⟨yy4, eyy4, hyy4⟩ := zI_of (sq0.2.2.2.getD ((ii).toNat) 0)
        refine z_stbald (y := yy4) C stm0 ((ii).toNat) (by omega) (by rw [stl0]; omega) (by rw [stl0]; decide) eyy4 dX10_wordFrom_25 ?_
        refine z_bipush (z := 32) C dX10_wordFrom_26 (by decide) ?_
        refine z_icmp_ne (tgt := 56) C dX10_wordFrom_28 (by decide) (by omega) (by omega) (fun hby5 => ?_) (fun hby5 => ?_)
        · refine z_iload C 5 dX10_wordFrom_56 rfl ?_
          refine z_if_eq (tgt := 86) C dX10_wordFrom_58 (by decide) (by omega) (fun hby6 => ?_) (fun hby6 => ?_)
          · refine z_iconst (z := 0) C dX10_wordFrom_86 rfl ?_
            refine z_istore (lv' := [(5, .int (zI (0))), (0, .ref (ad i)), (1, .int (zI (z))), (2, .int (zI (z1))), (3, .int (zI (wh9))), (4, .int (zI (k9))), (6, .int (zI (ii)))]) C dX10_wordFrom_87 (by decide) rfl ?_
            refine z_iinc (z := k9 + 1) (lv' := [(4, .int (zI (k9 + 1))), (5, .int (zI (0))), (0, .ref (ad i)), (1, .int (zI (z))), (2, .int (zI (z1))), (3, .int (zI (wh9))), (6, .int (zI (ii)))]) (j := 5) C dX10_wordFrom_89 rfl rfl (by decide) rfl ?_
            refine z_iinc (z := ii + 1) (lv' := [(6, .int (zI (ii + 1))), (4, .int (zI (k9 + 1))), (5, .int (zI (0))), (0, .ref (ad i)), (1, .int (zI (z))), (2, .int (zI (z1))), (3, .int (zI (wh9)))]) (j := 6) C dX10_wordFrom_92 rfl rfl (by decide) rfl ?_
            refine z_goto (tgt := 11) C dX10_wordFrom_95 (by decide) ?_
            refine z_lv (lv' := [(0, .ref (ad i)), (1, .int (zI (z))), (2, .int (zI (z1))), (3, .int (zI (wh9))), (4, .int (zI (k9 + 1))), (5, .int (zI (0))), (6, .int (zI (ii + 1)))]) [3, 4, 5, 6, 1, 2, 0] rfl ?_
            exact ih _ (by omega) (wh9) (k9 + 1) (0) (ii + 1) _ rfl rfl (by omega) (by omega) (by omega) (by omega)
          · refine z_iload C 4 dX10_wordFrom_61 rfl ?_
            refine z_iload_n C 2 dX10_wordFrom_63 rfl ?_
            refine z_icmp_ge (tgt := 86) C dX10_wordFrom_64 (by decide) (by omega) (by omega) (fun hby7 => ?_) (fun hby7 => ?_)
            · refine z_iconst (z := 0) C dX10_wordFrom_86 rfl ?_
              refine z_istore (lv' := [(5, .int (zI (0))), (0, .ref (ad i)), (1, .int (zI (z))), (2, .int (zI (z1))), (3, .int (zI (wh9))), (4, .int (zI (k9))), (6, .int (zI (ii)))]) C dX10_wordFrom_87 (by decide) rfl ?_
              refine z_iinc (z := k9 + 1) (lv' := [(4, .int (zI (k9 + 1))), (5, .int (zI (0))), (0, .ref (ad i)), (1, .int (zI (z))), (2, .int (zI (z1))), (3, .int (zI (wh9))), (6, .int (zI (ii)))]) (j := 5) C dX10_wordFrom_89 rfl rfl (by decide) rfl ?_
              refine z_iinc (z := ii + 1) (lv' := [(6, .int (zI (ii + 1))), (4, .int (zI (k9 + 1))), (5, .int (zI (0))), (0, .ref (ad i)), (1, .int (zI (z))), (2, .int (zI (z1))), (3, .int (zI (wh9)))]) (j := 6) C dX10_wordFrom_92 rfl rfl (by decide) rfl ?_
              refine z_goto (tgt := 11) C dX10_wordFrom_95 (by decide) ?_
              refine z_lv (lv' := [(0, .ref (ad i)), (1, .int (zI (z))), (2, .int (zI (z1))), (3, .int (zI (wh9))), (4, .int (zI (k9 + 1))), (5, .int (zI (0))), (6, .int (zI (ii + 1)))]) [3, 4, 5, 6, 1, 2, 0] rfl ?_
              exact ih _ (by omega) (wh9) (k9 + 1) (0) (ii + 1) _ rfl rfl (by omega) (by omega) (by omega) (by omega)
            · refine z_aload_n C 0 dX10_wordFrom_67 rfl ?_
              refine z_iload C 4 dX10_wordFrom_68 rfl ?_
              have h34y9 : F 34 = F 34 := rfl
              refine z_cV (As := [.int (zI (k9))]) (rest := []) (ci := 12) C (c_X10_byteAt l D A cs tt N ad _ i hN _ hg _ ha13 htp (by omega) (k9) (by omega)) (by omega) hay1 hg rfl rfl mv_yX10_byteAt q_1656 hd_yX10_byteAt (by decide) (Nat.le_of_ble_eq_true rfl) (by decide) dX10_wordFrom_70 rfl (kI0 fun vy8 gvy8 hvy8 => ?_)
              rw [h34y9] at hvy8
              obtain ⟨hrvy8, hqvy8, rfl⟩ := hvy8
              refine z_getSt C stm0 q_1667 dX10_wordFrom_73 ?_
              refine z_iload C 6 dX10_wordFrom_76 rfl ?_
              obtain ⟨yy10, eyy10, hyy10⟩ := zI_of (sq0.2.2.2.getD ((ii).toNat) 0)
              refine z_stbald (y := yy10) C stm0 ((ii).toNat) (by omega) (by rw [stl0]; omega) (by rw [stl0]; decide) eyy10 dX10_wordFrom_78 ?_
              refine z_icmp_ne (tgt := 86) C dX10_wordFrom_79 (by decide) (by omega) (by omega) (fun hby11 => ?_) (fun hby11 => ?_)
              · refine z_iconst (z := 0) C dX10_wordFrom_86 rfl ?_
                refine z_istore (lv' := [(5, .int (zI (0))), (0, .ref (ad i)), (1, .int (zI (z))), (2, .int (zI (z1))), (3, .int (zI (wh9))), (4, .int (zI (k9))), (6, .int (zI (ii)))]) C dX10_wordFrom_87 (by decide) rfl ?_
                refine z_iinc (z := k9 + 1) (lv' := [(4, .int (zI (k9 + 1))), (5, .int (zI (0))), (0, .ref (ad i)), (1, .int (zI (z))), (2, .int (zI (z1))), (3, .int (zI (wh9))), (6, .int (zI (ii)))]) (j := 5) C dX10_wordFrom_89 rfl rfl (by decide) rfl ?_
                refine z_iinc (z := ii + 1) (lv' := [(6, .int (zI (ii + 1))), (4, .int (zI (k9 + 1))), (5, .int (zI (0))), (0, .ref (ad i)), (1, .int (zI (z))), (2, .int (zI (z1))), (3, .int (zI (wh9)))]) (j := 6) C dX10_wordFrom_92 rfl rfl (by decide) rfl ?_
                refine z_goto (tgt := 11) C dX10_wordFrom_95 (by decide) ?_
                refine z_lv (lv' := [(0, .ref (ad i)), (1, .int (zI (z))), (2, .int (zI (z1))), (3, .int (zI (wh9))), (4, .int (zI (k9 + 1))), (5, .int (zI (0))), (6, .int (zI (ii + 1)))]) [3, 4, 5, 6, 1, 2, 0] rfl ?_
                exact ih _ (by omega) (wh9) (k9 + 1) (0) (ii + 1) _ rfl rfl (by omega) (by omega) (by omega) (by omega)
              · refine z_iconst (z := 1) C dX10_wordFrom_82 rfl ?_
                refine z_goto (tgt := 87) C dX10_wordFrom_83 (by decide) ?_
                refine z_istore (lv' := [(5, .int (zI (1))), (0, .ref (ad i)), (1, .int (zI (z))), (2, .int (zI (z1))), (3, .int (zI (wh9))), (4, .int (zI (k9))), (6, .int (zI (ii)))]) C dX10_wordFrom_87 (by decide) rfl ?_
                refine z_iinc (z := k9 + 1) (lv' := [(4, .int (zI (k9 + 1))), (5, .int (zI (1))), (0, .ref (ad i)), (1, .int (zI (z))), (2, .int (zI (z1))), (3, .int (zI (wh9))), (6, .int (zI (ii)))]) (j := 5) C dX10_wordFrom_89 rfl rfl (by decide) rfl ?_
                refine z_iinc (z := ii + 1) (lv' := [(6, .int (zI (ii + 1))), (4, .int (zI (k9 + 1))), (5, .int (zI (1))), (0, .ref (ad i)), (1, .int (zI (z))), (2, .int (zI (z1))), (3, .int (zI (wh9)))]) (j := 6) C dX10_wordFrom_92 rfl rfl (by decide) rfl ?_
                refine z_goto (tgt := 11) C dX10_wordFrom_95 (by decide) ?_
                refine z_lv (lv' := [(0, .ref (ad i)), (1, .int (zI (z))), (2, .int (zI (z1))), (3, .int (zI (wh9))), (4, .int (zI (k9 + 1))), (5, .int (zI (1))), (6, .int (zI (ii + 1)))]) [3, 4, 5, 6, 1, 2, 0] rfl ?_
                exact ih _ (by omega) (wh9) (k9 + 1) (1) (ii + 1) _ rfl rfl (by omega) (by omega) (by omega) (by omega)
        · refine z_iload C 5 dX10_wordFrom_31 rfl ?_
          refine z_if_eq (tgt := 44) C dX10_wordFrom_33 (by decide) (by omega) (fun hby12 => ?_) (fun hby12 => ?_)
          · refine z_iinc (z := wh9 + 1) (lv' := [(3, .int (zI (wh9 + 1))), (0, .ref (ad i)), (1, .int (zI (z))), (2, .int (zI (z1))), (4, .int (zI (k9))), (5, .int (zI (so))), (6, .int (zI (ii)))]) (j := 3) C dX10_wordFrom_44 rfl rfl (by decide) rfl ?_
            refine z_iload_n C 2 dX10_wordFrom_47 rfl ?_
            refine z_istore (lv' := [(4, .int (zI (z))), (3, .int (zI (wh9 + 1))), (0, .ref (ad i)), (1, .int (zI (z))), (2, .int (zI (z1))), (5, .int (zI (so))), (6, .int (zI (ii)))]) C dX10_wordFrom_48 (by decide) rfl ?_
            refine z_iconst (z := 1) C dX10_wordFrom_50 rfl ?_
            refine z_istore (lv' := [(5, .int (zI (1))), (4, .int (zI (z))), (3, .int (zI (wh9 + 1))), (0, .ref (ad i)), (1, .int (zI (z))), (2, .int (zI (z1))), (6, .int (zI (ii)))]) C dX10_wordFrom_51 (by decide) rfl ?_
            refine z_goto (tgt := 92) C dX10_wordFrom_53 (by decide) ?_
            refine z_iinc (z := ii + 1) (lv' := [(6, .int (zI (ii + 1))), (5, .int (zI (1))), (4, .int (zI (z))), (3, .int (zI (wh9 + 1))), (0, .ref (ad i)), (1, .int (zI (z))), (2, .int (zI (z1)))]) (j := 6) C dX10_wordFrom_92 rfl rfl (by decide) rfl ?_
            refine z_goto (tgt := 11) C dX10_wordFrom_95 (by decide) ?_
            refine z_lv (lv' := [(0, .ref (ad i)), (1, .int (zI (z))), (2, .int (zI (z1))), (3, .int (zI (wh9 + 1))), (4, .int (zI (z))), (5, .int (zI (1))), (6, .int (zI (ii + 1)))]) [4, 5, 6, 3, 2, 1, 0] rfl ?_
            exact ih _ (by omega) (wh9 + 1) (z) (1) (ii + 1) _ rfl rfl (by omega) (by omega) (by omega) (by omega)
          · refine z_iload C 4 dX10_wordFrom_36 rfl ?_
            refine z_iload_n C 2 dX10_wordFrom_38 rfl ?_
            refine z_icmp_ne (tgt := 44) C dX10_wordFrom_39 (by decide) (by omega) (by omega) (fun hby13 => ?_) (fun hby13 => ?_)
            · refine z_iinc (z := wh9 + 1) (lv' := [(3, .int (zI (wh9 + 1))), (0, .ref (ad i)), (1, .int (zI (z))), (2, .int (zI (z1))), (4, .int (zI (k9))), (5, .int (zI (so))), (6, .int (zI (ii)))]) (j := 3) C dX10_wordFrom_44 rfl rfl (by decide) rfl ?_
              refine z_iload_n C 2 dX10_wordFrom_47 rfl ?_
              refine z_istore (lv' := [(4, .int (zI (z))), (3, .int (zI (wh9 + 1))), (0, .ref (ad i)), (1, .int (zI (z))), (2, .int (zI (z1))), (5, .int (zI (so))), (6, .int (zI (ii)))]) C dX10_wordFrom_48 (by decide) rfl ?_
              refine z_iconst (z := 1) C dX10_wordFrom_50 rfl ?_
              refine z_istore (lv' := [(5, .int (zI (1))), (4, .int (zI (z))), (3, .int (zI (wh9 + 1))), (0, .ref (ad i)), (1, .int (zI (z))), (2, .int (zI (z1))), (6, .int (zI (ii)))]) C dX10_wordFrom_51 (by decide) rfl ?_
              refine z_goto (tgt := 92) C dX10_wordFrom_53 (by decide) ?_
              refine z_iinc (z := ii + 1) (lv' := [(6, .int (zI (ii + 1))), (5, .int (zI (1))), (4, .int (zI (z))), (3, .int (zI (wh9 + 1))), (0, .ref (ad i)), (1, .int (zI (z))), (2, .int (zI (z1)))]) (j := 6) C dX10_wordFrom_92 rfl rfl (by decide) rfl ?_
              refine z_goto (tgt := 11) C dX10_wordFrom_95 (by decide) ?_
              refine z_lv (lv' := [(0, .ref (ad i)), (1, .int (zI (z))), (2, .int (zI (z1))), (3, .int (zI (wh9 + 1))), (4, .int (zI (z))), (5, .int (zI (1))), (6, .int (zI (ii + 1)))]) [4, 5, 6, 3, 2, 1, 0] rfl ?_
              exact ih _ (by omega) (wh9 + 1) (z) (1) (ii + 1) _ rfl rfl (by omega) (by omega) (by omega) (by omega)
            · refine z_iload_n C 3 dX10_wordFrom_42 rfl ?_
              exact z_iret C hr hlk dX10_wordFrom_43 (by decide) (by decide) ⟨wh9, rfl, rfl, rfl, by omega, rfl⟩
  refine z_iconst (z := 0) C dX10_wordFrom_0 rfl ?_
  refine z_istore_n (lv' := [(3, .int (zI (0))), (0, .ref (ad i)), (1, .int (zI (z))), (2, .int (zI (z1)))]) C dX10_wordFrom_1 rfl (by decide) rfl ?_
  refine z_iload_n C 2 dX10_wordFrom_2 rfl ?_
  refine z_istore (lv' := [(4, .int (zI (z))), (3, .int (zI (0))), (0, .ref (ad i)), (1, .int (zI (z))), (2, .int (zI (z1)))]) C dX10_wordFrom_3 (by decide) rfl ?_
  refine z_iconst (z := 1) C dX10_wordFrom_5 rfl ?_
  refine z_istore (lv' := [(5, .int (zI (1))), (4, .int (zI (z))), (3, .int (zI (0))), (0, .ref (ad i)), (1, .int (zI (z))), (2, .int (zI (z1)))]) C dX10_wordFrom_6 (by decide) rfl ?_
  refine z_iconst (z := 0) C dX10_wordFrom_8 rfl ?_
  refine z_istore (lv' := [(6, .int (zI (0))), (5, .int (zI (1))), (4, .int (zI (z))), (3, .int (zI (0))), (0, .ref (ad i)), (1, .int (zI (z))), (2, .int (zI (z1)))]) C dX10_wordFrom_9 (by decide) rfl ?_
  refine z_lv (lv' := [(0, .ref (ad i)), (1, .int (zI (z))), (2, .int (zI (z1))), (3, .int (zI (0))), (4, .int (zI (z))), (5, .int (zI (1))), (6, .int (zI (0)))]) [4, 5, 6, 3, 2, 1, 0] rfl ?_
  exact lp _ (0) (z) (1) (0) _ rfl rfl (by omega) (by omega) (by omega) (by omega)

set_option maxRecDepth 100000 in
set_option maxHeartbeats 4000000 in
theorem c_X10_go (l : Launch) (D : va_G) (A : Nat → Prop) (cs : Nat → ClassId) (tt : Nat) (N : Nat) (ad : Nat → Nat) (g : Nat → va_E) (i : Nat) (hN : i + 30 ≤ N) (F : Nat → Int) (hg : g i = mC ad i F) (tp : Nat → Int) (ha13 : g (i + 13) = iA cs 900 tp) (htp : ∀ k, k < 900 → 0 ≤ tp k ∧ tp k ≤ 255) (hRD : RD F) : zM l yX10_go cX10_go 2 none ({ frames := 3, cells := 0, slots := 0, locals := 180 } : Room) D A cs tt N ad g [.ref (ad i)] (rV0 N ad fun g' => (∃ F' : Nat → Int, g' i = mC ad i F' ∧ RD F' ∧ F 32 ≤ F' 32 ∧ (F' 35 = 0 ∨ F 32 < F' 32) ∧ (∀ f, f ≠ 32 → f ≠ 33 → f ≠ 35 → f ≠ 36 → f ≠ 37 → F' f = F f)) ∧ ∀ j, j ≠ i → g' j = g j) := by
  have hay1 : zAt ad (i) (ad i) := rfl
  have hay2 : zAt ad (i + 13) (ad (i + 13)) := rfl
  obtain ⟨d32, d33, d35, d36, d2, d37, d38⟩ := id hRD
  refine z_of (by decide) (Nat.le_of_ble_eq_true rfl) ?_
  intro pZ eZ sZ mZ below meth cZ C hr hlk hnm
  refine z_lv (lv' := [(0, .ref (ad i))]) [0] rfl ?_
  have lp0 : ∀ (n9 : Nat) (nx : Int) (F9 : Nat → Int) (g1 : Nat → va_E), (900 - nx).toNat = n9 → (g1 i = mC ad i F9) → (∀ j, j ≠ i → g1 j = g j) → (F9 32 = nx) → (∀ f, f ≠ 32 → F9 f = F f) → (F 32 ≤ nx ∧ nx ≤ F 34) → zV pZ l eZ ({ frames := 3, cells := 0, slots := 0, locals := 180 } : Room) sZ mZ ([.ref (ad i)] : List Value).toArray below meth cZ (MQ below (zPost D A (rV0 N ad fun g' => (∃ F' : Nat → Int, g' i = mC ad i F' ∧ RD F' ∧ F 32 ≤ F' 32 ∧ (F' 35 = 0 ∨ F 32 < F' 32) ∧ (∀ f, f ≠ 32 → f ≠ 33 → f ≠ 35 → f ≠ 36 → f ≠ 37 → F' f = F f)) ∧ ∀ j, j ≠ i → g' j = g j)) ([.ref (ad i)] : List Value).toArray sZ ({ frames := 3, cells := 0, slots := 0, locals := 180 } : Room).cells ({ frames := 3, cells := 0, slots := 0, locals := 180 } : Room).slots A) D A 2 (N) ad g1 (0) (0) 0 [(0, .ref (ad i))] [] := by
    intro n9
    induction n9 using Nat.strongRecOn with
    | ind n9 ih_lp0 =>
      intro nx F9 g1 hm9 f2 f3 fx0 f4 hv
      have hay3 : zAt ad (i) (ad i) := rfl
      have hay4 : zAt ad (i + 13) (ad (i + 13)) := rfl
      refine z_aload_n C 0 dX10_go_0 rfl ?_
      refine z_get (v := .int (zI (nx))) C (by omega) hay3 f2 rfl inA_X10 32 (by decide) q_1491 rfl (fv (F := F9) (f := 32) fx0) dX10_go_1 ?_
      refine z_aload_n C 0 dX10_go_4 rfl ?_
      refine z_get (v := .int (zI (F 34))) C (by omega) hay3 f2 rfl inA_X10 34 (by decide) q_1493 rfl (fv (F := F9) (f := 34) (f4 34 (by decide))) dX10_go_5 ?_
      refine z_icmp_ge (tgt := 50) C dX10_go_8 (by decide) (by omega) (by omega) (fun hby5 => ?_) (fun hby5 => ?_)
      · refine z_aload_n C 0 dX10_go_50 rfl ?_
        refine z_aload_n C 0 dX10_go_51 rfl ?_
        refine z_get (v := .int (zI (nx))) C (by omega) hay3 f2 rfl inA_X10 32 (by decide) q_1491 rfl (fv (F := F9) (f := 32) fx0) dX10_go_52 ?_
        refine z_put (fs' := mF ad (i) (uZ F9 33 (nx))) C (by omega) hay3 f2 tyX10 tyX10_ok nmX10 rfl inA_X10 33 (by decide) q_1492 rfl rfl rfl rfl (Nat.le_of_ble_eq_true rfl) rfl dX10_go_55 (fun gy6 egy7 => ?_)
        have hgy8 := up_s egy7
        refine z_aload_n C 0 dX10_go_58 rfl ?_
        refine z_aload_n C 0 dX10_go_59 rfl ?_
        refine z_get (v := .int (zI (nx))) C (by omega) hay3 hgy8 rfl inA_X10 32 (by decide) q_1491 rfl (fv (F := (uZ F9 33 (nx))) (f := 32) (fn fx0 (by decide))) dX10_go_60 ?_
        have hgy10 := up_n egy7 ((f3 _ (by omega)).trans ha13) (ne_o (i := i) (c := 13) (d := 0) rfl)
        have h34y11 : (uZ F9 33 (nx)) 34 = F 34 := (fn (f4 34 (by decide)) (by decide))
        refine z_cV (As := [.int (zI (nx))]) (rest := []) (ci := 12) C (c_X10_byteAt l D A cs tt N ad _ i hN _ hgy8 _ hgy10 htp (by omega) (nx) (by omega)) (by omega) hay3 hgy8 rfl rfl mv_yX10_byteAt q_1656 hd_yX10_byteAt (by decide) (Nat.le_of_ble_eq_true rfl) (by decide) dX10_go_63 rfl (kI0 fun vy9 gvy9 hvy9 => ?_)
        rw [h34y11] at hvy9
        obtain ⟨hrvy9, hqvy9, rfl⟩ := hvy9
        refine z_istore_n (lv' := [(1, .int (zI (vy9))), (0, .ref (ad i))]) C dX10_go_66 rfl (by decide) rfl ?_
        refine z_aload_n C 1 dX10_go_67 rfl ?_
        refine z_iconst (z := -1) C dX10_go_68 rfl ?_
        refine z_put (fs' := mF ad (i) (uZ (uZ F9 33 (nx)) 37 (-1))) C (by omega) hay3 hgy8 tyX10 tyX10_ok nmX10 rfl inA_X10 37 (by decide) q_1496 rfl rfl rfl rfl (Nat.le_of_ble_eq_true rfl) rfl dX10_go_69 (fun gy12 egy13 => ?_)
        have hgy14 := up_s egy13
        refine z_aload_n C 1 dX10_go_72 rfl ?_
        refine z_iconst (z := 0) C dX10_go_73 rfl ?_
        refine z_put (fs' := mF ad (i) (uZ (uZ (uZ F9 33 (nx)) 37 (-1)) 36 (0))) C (by omega) hay3 hgy14 tyX10 tyX10_ok nmX10 rfl inA_X10 36 (by decide) q_1495 rfl rfl rfl rfl (Nat.le_of_ble_eq_true rfl) rfl dX10_go_74 (fun gy15 egy16 => ?_)
        have hgy17 := up_s egy16
        refine z_aload_n C 1 dX10_go_77 rfl ?_
        refine z_get (v := .int (zI (nx))) C (by omega) hay3 hgy17 rfl inA_X10 32 (by decide) q_1491 rfl (fv (F := (uZ (uZ (uZ F9 33 (nx)) 37 (-1)) 36 (0))) (f := 32) (fn (fn (fn fx0 (by decide)) (by decide)) (by decide))) dX10_go_78 ?_
        refine z_aload_n C 1 dX10_go_81 rfl ?_
        refine z_get (v := .int (zI (F 34))) C (by omega) hay3 hgy17 rfl inA_X10 34 (by decide) q_1493 rfl (fv (F := (uZ (uZ (uZ F9 33 (nx)) 37 (-1)) 36 (0))) (f := 34) (fn (fn (fn (f4 34 (by decide)) (by decide)) (by decide)) (by decide))) dX10_go_82 ?_
        refine z_icmp_lt (tgt := 96) C dX10_go_85 (by decide) (by omega) (by omega) (fun hby18 => ?_) (fun hby18 => ?_)
        · refine z_iload_n C 0 dX10_go_96 rfl ?_
          refine z_cS (As := [.int (zI (vy9))]) (rest := []) C (c_X10_isLetter l D A cs tt N ad _ (vy9) (by omega)) ms_yX10_isLetter q_1660 hd_yX10_isLetter (by decide) (Nat.le_of_ble_eq_true rfl) (by decide) dX10_go_97 rfl (kI0 fun vy19 gvy19 hvy19 => ?_)
          obtain ⟨hvy19, rfl⟩ := hvy19
          refine z_if_eq (tgt := 154) C dX10_go_100 (by decide) (by omega) (fun hby20 => ?_) (fun hby20 => ?_)
          · refine z_iload_n C 0 dX10_go_154 rfl ?_
            refine z_bipush (z := 48) C dX10_go_155 (by decide) ?_
            refine z_icmp_lt (tgt := 255) C dX10_go_157 (by decide) (by omega) (by omega) (fun hby21 => ?_) (fun hby21 => ?_)
            · refine z_aload_n C 1 dX10_go_255 rfl ?_
              refine z_dup C dX10_go_256 rfl ?_
              refine z_get (v := .int (zI (nx))) C (by omega) hay3 hgy17 rfl inA_X10 32 (by decide) q_1491 rfl (fv (F := (uZ (uZ (uZ F9 33 (nx)) 37 (-1)) 36 (0))) (f := 32) (fn (fn (fn fx0 (by decide)) (by decide)) (by decide))) dX10_go_257 ?_
              refine z_iconst (z := 1) C dX10_go_260 rfl ?_
              refine z_iadd C dX10_go_261 ?_
              refine z_put (fs' := mF ad (i) (uZ (uZ (uZ (uZ F9 33 (nx)) 37 (-1)) 36 (0)) 32 (nx + 1))) C (by omega) hay3 hgy17 tyX10 tyX10_ok nmX10 rfl inA_X10 32 (by decide) q_1491 rfl rfl rfl rfl (Nat.le_of_ble_eq_true rfl) rfl dX10_go_262 (fun gy22 egy23 => ?_)
              have hgy24 := up_s egy23
              refine z_aload_n C 1 dX10_go_265 rfl ?_
              refine z_iload_n C 0 dX10_go_266 rfl ?_
              refine z_bipush (z := 59) C dX10_go_267 (by decide) ?_
              refine z_icmp_eq (tgt := 278) C dX10_go_269 (by decide) (by omega) (by omega) (fun hby25 => ?_) (fun hby25 => ?_)
              · refine z_iconst (z := 3) C dX10_go_278 rfl ?_
                refine z_goto (tgt := 283) C dX10_go_279 (by decide) ?_
                refine z_put (fs' := mF ad (i) (uZ (uZ (uZ (uZ (uZ F9 33 (nx)) 37 (-1)) 36 (0)) 32 (nx + 1)) 35 (3))) C (by omega) hay3 hgy24 tyX10 tyX10_ok nmX10 rfl inA_X10 35 (by decide) q_1494 rfl rfl rfl rfl (Nat.le_of_ble_eq_true rfl) rfl dX10_go_283 (fun gy26 egy27 => ?_)
                have hgy28 := up_s egy27
                refine z_aload_n C 1 dX10_go_286 rfl ?_
                refine z_iload_n C 0 dX10_go_287 rfl ?_
                refine z_put (fs' := mF ad (i) (uZ (uZ (uZ (uZ (uZ (uZ F9 33 (nx)) 37 (-1)) 36 (0)) 32 (nx + 1)) 35 (3)) 36 (vy9))) C (by omega) hay3 hgy28 tyX10 tyX10_ok nmX10 rfl inA_X10 36 (by decide) q_1495 rfl rfl rfl rfl (Nat.le_of_ble_eq_true rfl) rfl dX10_go_288 (fun gy29 egy30 => ?_)
                have hgy31 := up_s egy30
                have hFy32 : ∀ f, f ≠ 32 → f ≠ 33 → f ≠ 35 → f ≠ 36 → f ≠ 37 → (uZ (uZ (uZ (uZ (uZ (uZ F9 33 (nx)) 37 (-1)) 36 (0)) 32 (nx + 1)) 35 (3)) 36 (vy9)) f = F f := fun f n32 n33 n35 n36 n37 => ((uZ_n _ _ n36).trans ((uZ_n _ _ n35).trans ((uZ_n _ _ n32).trans ((uZ_n _ _ n36).trans ((uZ_n _ _ n37).trans ((uZ_n _ _ n33).trans (f4 f n32)))))))
                have hey33 : (uZ (uZ (uZ (uZ (uZ (uZ F9 33 (nx)) 37 (-1)) 36 (0)) 32 (nx + 1)) 35 (3)) 36 (vy9)) 32 = nx + 1 := (fn (fn (uZ_s _ _ _) (by decide)) (by decide))
                have hey34 : (uZ (uZ (uZ (uZ (uZ (uZ F9 33 (nx)) 37 (-1)) 36 (0)) 32 (nx + 1)) 35 (3)) 36 (vy9)) 33 = nx := (fn (fn (fn (fn (fn (uZ_s _ _ _) (by decide)) (by decide)) (by decide)) (by decide)) (by decide))
                have hey35 : (uZ (uZ (uZ (uZ (uZ (uZ F9 33 (nx)) 37 (-1)) 36 (0)) 32 (nx + 1)) 35 (3)) 36 (vy9)) 34 = F 34 := (fn (fn (fn (fn (fn (fn (f4 34 (by decide)) (by decide)) (by decide)) (by decide)) (by decide)) (by decide)) (by decide))
                have hey36 : (uZ (uZ (uZ (uZ (uZ (uZ F9 33 (nx)) 37 (-1)) 36 (0)) 32 (nx + 1)) 35 (3)) 36 (vy9)) 35 = 3 := (fn (uZ_s _ _ _) (by decide))
                have hey37 : (uZ (uZ (uZ (uZ (uZ (uZ F9 33 (nx)) 37 (-1)) 36 (0)) 32 (nx + 1)) 35 (3)) 36 (vy9)) 36 = vy9 := (uZ_s _ _ _)
                have hey38 : (uZ (uZ (uZ (uZ (uZ (uZ F9 33 (nx)) 37 (-1)) 36 (0)) 32 (nx + 1)) 35 (3)) 36 (vy9)) 37 = -1 := (fn (fn (fn (fn (uZ_s _ _ _) (by decide)) (by decide)) (by decide)) (by decide))
                have hey39 : (uZ (uZ (uZ (uZ (uZ (uZ F9 33 (nx)) 37 (-1)) 36 (0)) 32 (nx + 1)) 35 (3)) 36 (vy9)) 38 = F 38 := (fn (fn (fn (fn (fn (fn (f4 38 (by decide)) (by decide)) (by decide)) (by decide)) (by decide)) (by decide)) (by decide))
                have hrdy40 : RD (uZ (uZ (uZ (uZ (uZ (uZ F9 33 (nx)) 37 (-1)) 36 (0)) 32 (nx + 1)) 35 (3)) 36 (vy9)) := by unfold RD; omega
                exact z_vret C hr hlk dX10_go_291 (by decide) (by decide) ⟨rfl, rfl, rfl, ⟨_, hgy31, hrdy40, by omega, by omega, hFy32⟩, fun j j1 => by rw [egy30, va_up_ne _ _ (by omega)]; rw [egy27, va_up_ne _ _ (by omega)]; rw [egy23, va_up_ne _ _ (by omega)]; rw [egy16, va_up_ne _ _ (by omega)]; rw [egy13, va_up_ne _ _ (by omega)]; rw [egy7, va_up_ne _ _ (by omega)]; exact f3 j j1⟩
              · refine z_iload_n C 0 dX10_go_272 rfl ?_
                refine z_bipush (z := 45) C dX10_go_273 (by decide) ?_
                refine z_icmp_ne (tgt := 282) C dX10_go_275 (by decide) (by omega) (by omega) (fun hby41 => ?_) (fun hby41 => ?_)
                · refine z_iconst (z := 4) C dX10_go_282 rfl ?_
                  refine z_put (fs' := mF ad (i) (uZ (uZ (uZ (uZ (uZ F9 33 (nx)) 37 (-1)) 36 (0)) 32 (nx + 1)) 35 (4))) C (by omega) hay3 hgy24 tyX10 tyX10_ok nmX10 rfl inA_X10 35 (by decide) q_1494 rfl rfl rfl rfl (Nat.le_of_ble_eq_true rfl) rfl dX10_go_283 (fun gy42 egy43 => ?_)
                  have hgy44 := up_s egy43
                  refine z_aload_n C 1 dX10_go_286 rfl ?_
                  refine z_iload_n C 0 dX10_go_287 rfl ?_
                  refine z_put (fs' := mF ad (i) (uZ (uZ (uZ (uZ (uZ (uZ F9 33 (nx)) 37 (-1)) 36 (0)) 32 (nx + 1)) 35 (4)) 36 (vy9))) C (by omega) hay3 hgy44 tyX10 tyX10_ok nmX10 rfl inA_X10 36 (by decide) q_1495 rfl rfl rfl rfl (Nat.le_of_ble_eq_true rfl) rfl dX10_go_288 (fun gy45 egy46 => ?_)
                  have hgy47 := up_s egy46
                  have hFy48 : ∀ f, f ≠ 32 → f ≠ 33 → f ≠ 35 → f ≠ 36 → f ≠ 37 → (uZ (uZ (uZ (uZ (uZ (uZ F9 33 (nx)) 37 (-1)) 36 (0)) 32 (nx + 1)) 35 (4)) 36 (vy9)) f = F f := fun f n32 n33 n35 n36 n37 => ((uZ_n _ _ n36).trans ((uZ_n _ _ n35).trans ((uZ_n _ _ n32).trans ((uZ_n _ _ n36).trans ((uZ_n _ _ n37).trans ((uZ_n _ _ n33).trans (f4 f n32)))))))
                  have hey49 : (uZ (uZ (uZ (uZ (uZ (uZ F9 33 (nx)) 37 (-1)) 36 (0)) 32 (nx + 1)) 35 (4)) 36 (vy9)) 32 = nx + 1 := (fn (fn (uZ_s _ _ _) (by decide)) (by decide))
                  have hey50 : (uZ (uZ (uZ (uZ (uZ (uZ F9 33 (nx)) 37 (-1)) 36 (0)) 32 (nx + 1)) 35 (4)) 36 (vy9)) 33 = nx := (fn (fn (fn (fn (fn (uZ_s _ _ _) (by decide)) (by decide)) (by decide)) (by decide)) (by decide))
                  have hey51 : (uZ (uZ (uZ (uZ (uZ (uZ F9 33 (nx)) 37 (-1)) 36 (0)) 32 (nx + 1)) 35 (4)) 36 (vy9)) 34 = F 34 := (fn (fn (fn (fn (fn (fn (f4 34 (by decide)) (by decide)) (by decide)) (by decide)) (by decide)) (by decide)) (by decide))
                  have hey52 : (uZ (uZ (uZ (uZ (uZ (uZ F9 33 (nx)) 37 (-1)) 36 (0)) 32 (nx + 1)) 35 (4)) 36 (vy9)) 35 = 4 := (fn (uZ_s _ _ _) (by decide))
                  have hey53 : (uZ (uZ (uZ (uZ (uZ (uZ F9 33 (nx)) 37 (-1)) 36 (0)) 32 (nx + 1)) 35 (4)) 36 (vy9)) 36 = vy9 := (uZ_s _ _ _)
                  have hey54 : (uZ (uZ (uZ (uZ (uZ (uZ F9 33 (nx)) 37 (-1)) 36 (0)) 32 (nx + 1)) 35 (4)) 36 (vy9)) 37 = -1 := (fn (fn (fn (fn (uZ_s _ _ _) (by decide)) (by decide)) (by decide)) (by decide))
                  have hey55 : (uZ (uZ (uZ (uZ (uZ (uZ F9 33 (nx)) 37 (-1)) 36 (0)) 32 (nx + 1)) 35 (4)) 36 (vy9)) 38 = F 38 := (fn (fn (fn (fn (fn (fn (f4 38 (by decide)) (by decide)) (by decide)) (by decide)) (by decide)) (by decide)) (by decide))
                  have hrdy56 : RD (uZ (uZ (uZ (uZ (uZ (uZ F9 33 (nx)) 37 (-1)) 36 (0)) 32 (nx + 1)) 35 (4)) 36 (vy9)) := by unfold RD; omega
                  exact z_vret C hr hlk dX10_go_291 (by decide) (by decide) ⟨rfl, rfl, rfl, ⟨_, hgy47, hrdy56, by omega, by omega, hFy48⟩, fun j j1 => by rw [egy46, va_up_ne _ _ (by omega)]; rw [egy43, va_up_ne _ _ (by omega)]; rw [egy23, va_up_ne _ _ (by omega)]; rw [egy16, va_up_ne _ _ (by omega)]; rw [egy13, va_up_ne _ _ (by omega)]; rw [egy7, va_up_ne _ _ (by omega)]; exact f3 j j1⟩
                · refine z_iconst (z := 3) C dX10_go_278 rfl ?_
                  refine z_goto (tgt := 283) C dX10_go_279 (by decide) ?_
                  refine z_put (fs' := mF ad (i) (uZ (uZ (uZ (uZ (uZ F9 33 (nx)) 37 (-1)) 36 (0)) 32 (nx + 1)) 35 (3))) C (by omega) hay3 hgy24 tyX10 tyX10_ok nmX10 rfl inA_X10 35 (by decide) q_1494 rfl rfl rfl rfl (Nat.le_of_ble_eq_true rfl) rfl dX10_go_283 (fun gy57 egy58 => ?_)
                  have hgy59 := up_s egy58
                  refine z_aload_n C 1 dX10_go_286 rfl ?_
                  refine z_iload_n C 0 dX10_go_287 rfl ?_
                  refine z_put (fs' := mF ad (i) (uZ (uZ (uZ (uZ (uZ (uZ F9 33 (nx)) 37 (-1)) 36 (0)) 32 (nx + 1)) 35 (3)) 36 (vy9))) C (by omega) hay3 hgy59 tyX10 tyX10_ok nmX10 rfl inA_X10 36 (by decide) q_1495 rfl rfl rfl rfl (Nat.le_of_ble_eq_true rfl) rfl dX10_go_288 (fun gy60 egy61 => ?_)
                  have hgy62 := up_s egy61
                  have hFy63 : ∀ f, f ≠ 32 → f ≠ 33 → f ≠ 35 → f ≠ 36 → f ≠ 37 → (uZ (uZ (uZ (uZ (uZ (uZ F9 33 (nx)) 37 (-1)) 36 (0)) 32 (nx + 1)) 35 (3)) 36 (vy9)) f = F f := fun f n32 n33 n35 n36 n37 => ((uZ_n _ _ n36).trans ((uZ_n _ _ n35).trans ((uZ_n _ _ n32).trans ((uZ_n _ _ n36).trans ((uZ_n _ _ n37).trans ((uZ_n _ _ n33).trans (f4 f n32)))))))
                  have hey64 : (uZ (uZ (uZ (uZ (uZ (uZ F9 33 (nx)) 37 (-1)) 36 (0)) 32 (nx + 1)) 35 (3)) 36 (vy9)) 32 = nx + 1 := (fn (fn (uZ_s _ _ _) (by decide)) (by decide))
                  have hey65 : (uZ (uZ (uZ (uZ (uZ (uZ F9 33 (nx)) 37 (-1)) 36 (0)) 32 (nx + 1)) 35 (3)) 36 (vy9)) 33 = nx := (fn (fn (fn (fn (fn (uZ_s _ _ _) (by decide)) (by decide)) (by decide)) (by decide)) (by decide))
                  have hey66 : (uZ (uZ (uZ (uZ (uZ (uZ F9 33 (nx)) 37 (-1)) 36 (0)) 32 (nx + 1)) 35 (3)) 36 (vy9)) 34 = F 34 := (fn (fn (fn (fn (fn (fn (f4 34 (by decide)) (by decide)) (by decide)) (by decide)) (by decide)) (by decide)) (by decide))
                  have hey67 : (uZ (uZ (uZ (uZ (uZ (uZ F9 33 (nx)) 37 (-1)) 36 (0)) 32 (nx + 1)) 35 (3)) 36 (vy9)) 35 = 3 := (fn (uZ_s _ _ _) (by decide))
                  have hey68 : (uZ (uZ (uZ (uZ (uZ (uZ F9 33 (nx)) 37 (-1)) 36 (0)) 32 (nx + 1)) 35 (3)) 36 (vy9)) 36 = vy9 := (uZ_s _ _ _)
                  have hey69 : (uZ (uZ (uZ (uZ (uZ (uZ F9 33 (nx)) 37 (-1)) 36 (0)) 32 (nx + 1)) 35 (3)) 36 (vy9)) 37 = -1 := (fn (fn (fn (fn (uZ_s _ _ _) (by decide)) (by decide)) (by decide)) (by decide))
                  have hey70 : (uZ (uZ (uZ (uZ (uZ (uZ F9 33 (nx)) 37 (-1)) 36 (0)) 32 (nx + 1)) 35 (3)) 36 (vy9)) 38 = F 38 := (fn (fn (fn (fn (fn (fn (f4 38 (by decide)) (by decide)) (by decide)) (by decide)) (by decide)) (by decide)) (by decide))
                  have hrdy71 : RD (uZ (uZ (uZ (uZ (uZ (uZ F9 33 (nx)) 37 (-1)) 36 (0)) 32 (nx + 1)) 35 (3)) 36 (vy9)) := by unfold RD; omega
                  exact z_vret C hr hlk dX10_go_291 (by decide) (by decide) ⟨rfl, rfl, rfl, ⟨_, hgy62, hrdy71, by omega, by omega, hFy63⟩, fun j j1 => by rw [egy61, va_up_ne _ _ (by omega)]; rw [egy58, va_up_ne _ _ (by omega)]; rw [egy23, va_up_ne _ _ (by omega)]; rw [egy16, va_up_ne _ _ (by omega)]; rw [egy13, va_up_ne _ _ (by omega)]; rw [egy7, va_up_ne _ _ (by omega)]; exact f3 j j1⟩
            · refine z_iload_n C 0 dX10_go_160 rfl ?_
              refine z_bipush (z := 57) C dX10_go_161 (by decide) ?_
              refine z_icmp_gt (tgt := 255) C dX10_go_163 (by decide) (by omega) (by omega) (fun hby72 => ?_) (fun hby72 => ?_)
              · refine z_aload_n C 1 dX10_go_255 rfl ?_
                refine z_dup C dX10_go_256 rfl ?_
                refine z_get (v := .int (zI (nx))) C (by omega) hay3 hgy17 rfl inA_X10 32 (by decide) q_1491 rfl (fv (F := (uZ (uZ (uZ F9 33 (nx)) 37 (-1)) 36 (0))) (f := 32) (fn (fn (fn fx0 (by decide)) (by decide)) (by decide))) dX10_go_257 ?_
                refine z_iconst (z := 1) C dX10_go_260 rfl ?_
                refine z_iadd C dX10_go_261 ?_
                refine z_put (fs' := mF ad (i) (uZ (uZ (uZ (uZ F9 33 (nx)) 37 (-1)) 36 (0)) 32 (nx + 1))) C (by omega) hay3 hgy17 tyX10 tyX10_ok nmX10 rfl inA_X10 32 (by decide) q_1491 rfl rfl rfl rfl (Nat.le_of_ble_eq_true rfl) rfl dX10_go_262 (fun gy73 egy74 => ?_)
                have hgy75 := up_s egy74
                refine z_aload_n C 1 dX10_go_265 rfl ?_
                refine z_iload_n C 0 dX10_go_266 rfl ?_
                refine z_bipush (z := 59) C dX10_go_267 (by decide) ?_
                refine z_icmp_eq (tgt := 278) C dX10_go_269 (by decide) (by omega) (by omega) (fun hby76 => ?_) (fun hby76 => ?_)
                · refine z_iconst (z := 3) C dX10_go_278 rfl ?_
                  refine z_goto (tgt := 283) C dX10_go_279 (by decide) ?_
                  refine z_put (fs' := mF ad (i) (uZ (uZ (uZ (uZ (uZ F9 33 (nx)) 37 (-1)) 36 (0)) 32 (nx + 1)) 35 (3))) C (by omega) hay3 hgy75 tyX10 tyX10_ok nmX10 rfl inA_X10 35 (by decide) q_1494 rfl rfl rfl rfl (Nat.le_of_ble_eq_true rfl) rfl dX10_go_283 (fun gy77 egy78 => ?_)
                  have hgy79 := up_s egy78
                  refine z_aload_n C 1 dX10_go_286 rfl ?_
                  refine z_iload_n C 0 dX10_go_287 rfl ?_
                  refine z_put (fs' := mF ad (i) (uZ (uZ (uZ (uZ (uZ (uZ F9 33 (nx)) 37 (-1)) 36 (0)) 32 (nx + 1)) 35 (3)) 36 (vy9))) C (by omega) hay3 hgy79 tyX10 tyX10_ok nmX10 rfl inA_X10 36 (by decide) q_1495 rfl rfl rfl rfl (Nat.le_of_ble_eq_true rfl) rfl dX10_go_288 (fun gy80 egy81 => ?_)
                  have hgy82 := up_s egy81
                  have hFy83 : ∀ f, f ≠ 32 → f ≠ 33 → f ≠ 35 → f ≠ 36 → f ≠ 37 → (uZ (uZ (uZ (uZ (uZ (uZ F9 33 (nx)) 37 (-1)) 36 (0)) 32 (nx + 1)) 35 (3)) 36 (vy9)) f = F f := fun f n32 n33 n35 n36 n37 => ((uZ_n _ _ n36).trans ((uZ_n _ _ n35).trans ((uZ_n _ _ n32).trans ((uZ_n _ _ n36).trans ((uZ_n _ _ n37).trans ((uZ_n _ _ n33).trans (f4 f n32)))))))
                  have hey84 : (uZ (uZ (uZ (uZ (uZ (uZ F9 33 (nx)) 37 (-1)) 36 (0)) 32 (nx + 1)) 35 (3)) 36 (vy9)) 32 = nx + 1 := (fn (fn (uZ_s _ _ _) (by decide)) (by decide))
                  have hey85 : (uZ (uZ (uZ (uZ (uZ (uZ F9 33 (nx)) 37 (-1)) 36 (0)) 32 (nx + 1)) 35 (3)) 36 (vy9)) 33 = nx := (fn (fn (fn (fn (fn (uZ_s _ _ _) (by decide)) (by decide)) (by decide)) (by decide)) (by decide))
                  have hey86 : (uZ (uZ (uZ (uZ (uZ (uZ F9 33 (nx)) 37 (-1)) 36 (0)) 32 (nx + 1)) 35 (3)) 36 (vy9)) 34 = F 34 := (fn (fn (fn (fn (fn (fn (f4 34 (by decide)) (by decide)) (by decide)) (by decide)) (by decide)) (by decide)) (by decide))
                  have hey87 : (uZ (uZ (uZ (uZ (uZ (uZ F9 33 (nx)) 37 (-1)) 36 (0)) 32 (nx + 1)) 35 (3)) 36 (vy9)) 35 = 3 := (fn (uZ_s _ _ _) (by decide))
                  have hey88 : (uZ (uZ (uZ (uZ (uZ (uZ F9 33 (nx)) 37 (-1)) 36 (0)) 32 (nx + 1)) 35 (3)) 36 (vy9)) 36 = vy9 := (uZ_s _ _ _)
                  have hey89 : (uZ (uZ (uZ (uZ (uZ (uZ F9 33 (nx)) 37 (-1)) 36 (0)) 32 (nx + 1)) 35 (3)) 36 (vy9)) 37 = -1 := (fn (fn (fn (fn (uZ_s _ _ _) (by decide)) (by decide)) (by decide)) (by decide))
                  have hey90 : (uZ (uZ (uZ (uZ (uZ (uZ F9 33 (nx)) 37 (-1)) 36 (0)) 32 (nx + 1)) 35 (3)) 36 (vy9)) 38 = F 38 := (fn (fn (fn (fn (fn (fn (f4 38 (by decide)) (by decide)) (by decide)) (by decide)) (by decide)) (by decide)) (by decide))
                  have hrdy91 : RD (uZ (uZ (uZ (uZ (uZ (uZ F9 33 (nx)) 37 (-1)) 36 (0)) 32 (nx + 1)) 35 (3)) 36 (vy9)) := by unfold RD; omega
                  exact z_vret C hr hlk dX10_go_291 (by decide) (by decide) ⟨rfl, rfl, rfl, ⟨_, hgy82, hrdy91, by omega, by omega, hFy83⟩, fun j j1 => by rw [egy81, va_up_ne _ _ (by omega)]; rw [egy78, va_up_ne _ _ (by omega)]; rw [egy74, va_up_ne _ _ (by omega)]; rw [egy16, va_up_ne _ _ (by omega)]; rw [egy13, va_up_ne _ _ (by omega)]; rw [egy7, va_up_ne _ _ (by omega)]; exact f3 j j1⟩
                · refine z_iload_n C 0 dX10_go_272 rfl ?_
                  refine z_bipush (z := 45) C dX10_go_273 (by decide) ?_
                  refine z_icmp_ne (tgt := 282) C dX10_go_275 (by decide) (by omega) (by omega) (fun hby92 => ?_) (fun hby92 => ?_)
                  · refine z_iconst (z := 4) C dX10_go_282 rfl ?_
                    refine z_put (fs' := mF ad (i) (uZ (uZ (uZ (uZ (uZ F9 33 (nx)) 37 (-1)) 36 (0)) 32 (nx + 1)) 35 (4))) C (by omega) hay3 hgy75 tyX10 tyX10_ok nmX10 rfl inA_X10 35 (by decide) q_1494 rfl rfl rfl rfl (Nat.le_of_ble_eq_true rfl) rfl dX10_go_283 (fun gy93 egy94 => ?_)
                    have hgy95 := up_s egy94
                    refine z_aload_n C 1 dX10_go_286 rfl ?_
                    refine z_iload_n C 0 dX10_go_287 rfl ?_
                    refine z_put (fs' := mF ad (i) (uZ (uZ (uZ (uZ (uZ (uZ F9 33 (nx)) 37 (-1)) 36 (0)) 32 (nx + 1)) 35 (4)) 36 (vy9))) C (by omega) hay3 hgy95 tyX10 tyX10_ok nmX10 rfl inA_X10 36 (by decide) q_1495 rfl rfl rfl rfl (Nat.le_of_ble_eq_true rfl) rfl dX10_go_288 (fun gy96 egy97 => ?_)
                    have hgy98 := up_s egy97
                    have hFy99 : ∀ f, f ≠ 32 → f ≠ 33 → f ≠ 35 → f ≠ 36 → f ≠ 37 → (uZ (uZ (uZ (uZ (uZ (uZ F9 33 (nx)) 37 (-1)) 36 (0)) 32 (nx + 1)) 35 (4)) 36 (vy9)) f = F f := fun f n32 n33 n35 n36 n37 => ((uZ_n _ _ n36).trans ((uZ_n _ _ n35).trans ((uZ_n _ _ n32).trans ((uZ_n _ _ n36).trans ((uZ_n _ _ n37).trans ((uZ_n _ _ n33).trans (f4 f n32)))))))
                    have hey100 : (uZ (uZ (uZ (uZ (uZ (uZ F9 33 (nx)) 37 (-1)) 36 (0)) 32 (nx + 1)) 35 (4)) 36 (vy9)) 32 = nx + 1 := (fn (fn (uZ_s _ _ _) (by decide)) (by decide))
                    have hey101 : (uZ (uZ (uZ (uZ (uZ (uZ F9 33 (nx)) 37 (-1)) 36 (0)) 32 (nx + 1)) 35 (4)) 36 (vy9)) 33 = nx := (fn (fn (fn (fn (fn (uZ_s _ _ _) (by decide)) (by decide)) (by decide)) (by decide)) (by decide))
                    have hey102 : (uZ (uZ (uZ (uZ (uZ (uZ F9 33 (nx)) 37 (-1)) 36 (0)) 32 (nx + 1)) 35 (4)) 36 (vy9)) 34 = F 34 := (fn (fn (fn (fn (fn (fn (f4 34 (by decide)) (by decide)) (by decide)) (by decide)) (by decide)) (by decide)) (by decide))
                    have hey103 : (uZ (uZ (uZ (uZ (uZ (uZ F9 33 (nx)) 37 (-1)) 36 (0)) 32 (nx + 1)) 35 (4)) 36 (vy9)) 35 = 4 := (fn (uZ_s _ _ _) (by decide))
                    have hey104 : (uZ (uZ (uZ (uZ (uZ (uZ F9 33 (nx)) 37 (-1)) 36 (0)) 32 (nx + 1)) 35 (4)) 36 (vy9)) 36 = vy9 := (uZ_s _ _ _)
                    have hey105 : (uZ (uZ (uZ (uZ (uZ (uZ F9 33 (nx)) 37 (-1)) 36 (0)) 32 (nx + 1)) 35 (4)) 36 (vy9)) 37 = -1 := (fn (fn (fn (fn (uZ_s _ _ _) (by decide)) (by decide)) (by decide)) (by decide))
                    have hey106 : (uZ (uZ (uZ (uZ (uZ (uZ F9 33 (nx)) 37 (-1)) 36 (0)) 32 (nx + 1)) 35 (4)) 36 (vy9)) 38 = F 38 := (fn (fn (fn (fn (fn (fn (f4 38 (by decide)) (by decide)) (by decide)) (by decide)) (by decide)) (by decide)) (by decide))
                    have hrdy107 : RD (uZ (uZ (uZ (uZ (uZ (uZ F9 33 (nx)) 37 (-1)) 36 (0)) 32 (nx + 1)) 35 (4)) 36 (vy9)) := by unfold RD; omega
                    exact z_vret C hr hlk dX10_go_291 (by decide) (by decide) ⟨rfl, rfl, rfl, ⟨_, hgy98, hrdy107, by omega, by omega, hFy99⟩, fun j j1 => by rw [egy97, va_up_ne _ _ (by omega)]; rw [egy94, va_up_ne _ _ (by omega)]; rw [egy74, va_up_ne _ _ (by omega)]; rw [egy16, va_up_ne _ _ (by omega)]; rw [egy13, va_up_ne _ _ (by omega)]; rw [egy7, va_up_ne _ _ (by omega)]; exact f3 j j1⟩
                  · refine z_iconst (z := 3) C dX10_go_278 rfl ?_
                    refine z_goto (tgt := 283) C dX10_go_279 (by decide) ?_
                    refine z_put (fs' := mF ad (i) (uZ (uZ (uZ (uZ (uZ F9 33 (nx)) 37 (-1)) 36 (0)) 32 (nx + 1)) 35 (3))) C (by omega) hay3 hgy75 tyX10 tyX10_ok nmX10 rfl inA_X10 35 (by decide) q_1494 rfl rfl rfl rfl (Nat.le_of_ble_eq_true rfl) rfl dX10_go_283 (fun gy108 egy109 => ?_)
                    have hgy110 := up_s egy109
                    refine z_aload_n C 1 dX10_go_286 rfl ?_
                    refine z_iload_n C 0 dX10_go_287 rfl ?_
                    refine z_put (fs' := mF ad (i) (uZ (uZ (uZ (uZ (uZ (uZ F9 33 (nx)) 37 (-1)) 36 (0)) 32 (nx + 1)) 35 (3)) 36 (vy9))) C (by omega) hay3 hgy110 tyX10 tyX10_ok nmX10 rfl inA_X10 36 (by decide) q_1495 rfl rfl rfl rfl (Nat.le_of_ble_eq_true rfl) rfl dX10_go_288 (fun gy111 egy112 => ?_)
                    have hgy113 := up_s egy112
                    have hFy114 : ∀ f, f ≠ 32 → f ≠ 33 → f ≠ 35 → f ≠ 36 → f ≠ 37 → (uZ (uZ (uZ (uZ (uZ (uZ F9 33 (nx)) 37 (-1)) 36 (0)) 32 (nx + 1)) 35 (3)) 36 (vy9)) f = F f := fun f n32 n33 n35 n36 n37 => ((uZ_n _ _ n36).trans ((uZ_n _ _ n35).trans ((uZ_n _ _ n32).trans ((uZ_n _ _ n36).trans ((uZ_n _ _ n37).trans ((uZ_n _ _ n33).trans (f4 f n32)))))))
                    have hey115 : (uZ (uZ (uZ (uZ (uZ (uZ F9 33 (nx)) 37 (-1)) 36 (0)) 32 (nx + 1)) 35 (3)) 36 (vy9)) 32 = nx + 1 := (fn (fn (uZ_s _ _ _) (by decide)) (by decide))
                    have hey116 : (uZ (uZ (uZ (uZ (uZ (uZ F9 33 (nx)) 37 (-1)) 36 (0)) 32 (nx + 1)) 35 (3)) 36 (vy9)) 33 = nx := (fn (fn (fn (fn (fn (uZ_s _ _ _) (by decide)) (by decide)) (by decide)) (by decide)) (by decide))
                    have hey117 : (uZ (uZ (uZ (uZ (uZ (uZ F9 33 (nx)) 37 (-1)) 36 (0)) 32 (nx + 1)) 35 (3)) 36 (vy9)) 34 = F 34 := (fn (fn (fn (fn (fn (fn (f4 34 (by decide)) (by decide)) (by decide)) (by decide)) (by decide)) (by decide)) (by decide))
                    have hey118 : (uZ (uZ (uZ (uZ (uZ (uZ F9 33 (nx)) 37 (-1)) 36 (0)) 32 (nx + 1)) 35 (3)) 36 (vy9)) 35 = 3 := (fn (uZ_s _ _ _) (by decide))
                    have hey119 : (uZ (uZ (uZ (uZ (uZ (uZ F9 33 (nx)) 37 (-1)) 36 (0)) 32 (nx + 1)) 35 (3)) 36 (vy9)) 36 = vy9 := (uZ_s _ _ _)
                    have hey120 : (uZ (uZ (uZ (uZ (uZ (uZ F9 33 (nx)) 37 (-1)) 36 (0)) 32 (nx + 1)) 35 (3)) 36 (vy9)) 37 = -1 := (fn (fn (fn (fn (uZ_s _ _ _) (by decide)) (by decide)) (by decide)) (by decide))
                    have hey121 : (uZ (uZ (uZ (uZ (uZ (uZ F9 33 (nx)) 37 (-1)) 36 (0)) 32 (nx + 1)) 35 (3)) 36 (vy9)) 38 = F 38 := (fn (fn (fn (fn (fn (fn (f4 38 (by decide)) (by decide)) (by decide)) (by decide)) (by decide)) (by decide)) (by decide))
                    have hrdy122 : RD (uZ (uZ (uZ (uZ (uZ (uZ F9 33 (nx)) 37 (-1)) 36 (0)) 32 (nx + 1)) 35 (3)) 36 (vy9)) := by unfold RD; omega
                    exact z_vret C hr hlk dX10_go_291 (by decide) (by decide) ⟨rfl, rfl, rfl, ⟨_, hgy113, hrdy122, by omega, by omega, hFy114⟩, fun j j1 => by rw [egy112, va_up_ne _ _ (by omega)]; rw [egy109, va_up_ne _ _ (by omega)]; rw [egy74, va_up_ne _ _ (by omega)]; rw [egy16, va_up_ne _ _ (by omega)]; rw [egy13, va_up_ne _ _ (by omega)]; rw [egy7, va_up_ne _ _ (by omega)]; exact f3 j j1⟩
              · have lp166 : ∀ (n9 : Nat) (nz : Int) (va : Int) (F8 : Nat → Int) (g1 : Nat → va_E), (900 - nz).toNat = n9 → (g1 i = mC ad i F8) → (∀ j, j ≠ i → g1 j = g j) → (F8 32 = nz) → (F8 33 = nx) → (F8 36 = va) → (F8 37 = -1) → (∀ f, f ≠ 32 → f ≠ 33 → f ≠ 36 → f ≠ 37 → F8 f = F f) → (nx ≤ nz ∧ nz ≤ F 34) → (nx < nz ∨ (nz < F 34 ∧ 48 ≤ tp nz.toNat ∧ tp nz.toNat ≤ 57)) → (0 ≤ va ∧ va ≤ 99999 ∧ (nz = nx → va = 0) ∧ (nz = nx + 1 → va ≤ 9) ∧ (nz = nx + 2 → va ≤ 99) ∧ (nz = nx + 3 → va ≤ 999)) → zV pZ l eZ ({ frames := 3, cells := 0, slots := 0, locals := 180 } : Room) sZ mZ ([.ref (ad i)] : List Value).toArray below meth cZ (MQ below (zPost D A (rV0 N ad fun g' => (∃ F' : Nat → Int, g' i = mC ad i F' ∧ RD F' ∧ F 32 ≤ F' 32 ∧ (F' 35 = 0 ∨ F 32 < F' 32) ∧ (∀ f, f ≠ 32 → f ≠ 33 → f ≠ 35 → f ≠ 36 → f ≠ 37 → F' f = F f)) ∧ ∀ j, j ≠ i → g' j = g j)) ([.ref (ad i)] : List Value).toArray sZ ({ frames := 3, cells := 0, slots := 0, locals := 180 } : Room).cells ({ frames := 3, cells := 0, slots := 0, locals := 180 } : Room).slots A) D A 2 (N) ad g1 (0) (0) 166 [(0, .ref (ad i))] [] := by
                  intro n9
                  induction n9 using Nat.strongRecOn with
                  | ind n9 ih_lp166 =>
                    intro nz va F8 g1 hm9 f2b f3b fn2 fp2 fv2 fw2 f4b hv2 hs2 hb2
                    have hay123 : zAt ad (i) (ad i) := rfl
                    have hay124 : zAt ad (i + 13) (ad (i + 13)) := rfl
                    refine z_aload_n C 0 dX10_go_166 rfl ?_
                    refine z_aload_n C 0 dX10_go_167 rfl ?_
                    refine z_get (v := .int (zI (nz))) C (by omega) hay123 f2b rfl inA_X10 32 (by decide) q_1491 rfl (fv (F := F8) (f := 32) fn2) dX10_go_168 ?_
                    have h34y126 : F8 34 = F 34 := (f4b 34 (by decide) (by decide) (by decide) (by decide))
                    refine z_cV (As := [.int (zI (nz))]) (rest := []) (ci := 12) C (c_X10_byteAt l D A cs tt N ad _ i hN _ f2b _ ((f3b _ (by omega)).trans ha13) htp (by omega) (nz) (by omega)) (by omega) hay123 f2b rfl rfl mv_yX10_byteAt q_1656 hd_yX10_byteAt (by decide) (Nat.le_of_ble_eq_true rfl) (by decide) dX10_go_171 rfl (kI0 fun vy125 gvy125 hvy125 => ?_)
                    rw [h34y126] at hvy125
                    obtain ⟨hrvy125, hqvy125, rfl⟩ := hvy125
                    refine z_bipush (z := 48) C dX10_go_174 (by decide) ?_
                    refine z_icmp_lt (tgt := 247) C dX10_go_176 (by decide) (by omega) (by omega) (fun hby127 => ?_) (fun hby127 => ?_)
                    · refine z_aload_n C 0 dX10_go_247 rfl ?_
                      refine z_iconst (z := 2) C dX10_go_248 rfl ?_
                      refine z_put (fs' := mF ad (i) (uZ F8 35 (2))) C (by omega) hay123 f2b tyX10 tyX10_ok nmX10 rfl inA_X10 35 (by decide) q_1494 rfl rfl rfl rfl (Nat.le_of_ble_eq_true rfl) rfl dX10_go_249 (fun gy128 egy129 => ?_)
                      have hgy130 := up_s egy129
                      refine z_goto (tgt := 291) C dX10_go_252 (by decide) ?_
                      have hFy131 : ∀ f, f ≠ 32 → f ≠ 33 → f ≠ 35 → f ≠ 36 → f ≠ 37 → (uZ F8 35 (2)) f = F f := fun f n32 n33 n35 n36 n37 => ((uZ_n _ _ n35).trans (f4b f n32 n33 n36 n37))
                      have hey132 : (uZ F8 35 (2)) 32 = nz := (fn fn2 (by decide))
                      have hey133 : (uZ F8 35 (2)) 33 = nx := (fn fp2 (by decide))
                      have hey134 : (uZ F8 35 (2)) 34 = F 34 := (fn (f4b 34 (by decide) (by decide) (by decide) (by decide)) (by decide))
                      have hey135 : (uZ F8 35 (2)) 35 = 2 := (uZ_s _ _ _)
                      have hey136 : (uZ F8 35 (2)) 36 = va := (fn fv2 (by decide))
                      have hey137 : (uZ F8 35 (2)) 37 = -1 := (fn fw2 (by decide))
                      have hey138 : (uZ F8 35 (2)) 38 = F 38 := (fn (f4b 38 (by decide) (by decide) (by decide) (by decide)) (by decide))
                      have hrdy139 : RD (uZ F8 35 (2)) := by unfold RD; omega
                      exact z_vret C hr hlk dX10_go_291 (by decide) (by decide) ⟨rfl, rfl, rfl, ⟨_, hgy130, hrdy139, by omega, by omega, hFy131⟩, fun j j1 => by rw [egy129, va_up_ne _ _ (by omega)]; exact f3b j j1⟩
                    · refine z_aload_n C 0 dX10_go_179 rfl ?_
                      refine z_aload_n C 0 dX10_go_180 rfl ?_
                      refine z_get (v := .int (zI (nz))) C (by omega) hay123 f2b rfl inA_X10 32 (by decide) q_1491 rfl (fv (F := F8) (f := 32) fn2) dX10_go_181 ?_
                      have h34y141 : F8 34 = F 34 := (f4b 34 (by decide) (by decide) (by decide) (by decide))
                      refine z_cV (As := [.int (zI (nz))]) (rest := []) (ci := 12) C (c_X10_byteAt l D A cs tt N ad _ i hN _ f2b _ ((f3b _ (by omega)).trans ha13) htp (by omega) (nz) (by omega)) (by omega) hay123 f2b rfl rfl mv_yX10_byteAt q_1656 hd_yX10_byteAt (by decide) (Nat.le_of_ble_eq_true rfl) (by decide) dX10_go_184 rfl (kI0 fun vy140 gvy140 hvy140 => ?_)
                      rw [h34y141] at hvy140
                      obtain ⟨hrvy140, hqvy140, rfl⟩ := hvy140
                      refine z_bipush (z := 57) C dX10_go_187 (by decide) ?_
                      refine z_icmp_gt (tgt := 247) C dX10_go_189 (by decide) (by omega) (by omega) (fun hby142 => ?_) (fun hby142 => ?_)
                      · refine z_aload_n C 0 dX10_go_247 rfl ?_
                        refine z_iconst (z := 2) C dX10_go_248 rfl ?_
                        refine z_put (fs' := mF ad (i) (uZ F8 35 (2))) C (by omega) hay123 f2b tyX10 tyX10_ok nmX10 rfl inA_X10 35 (by decide) q_1494 rfl rfl rfl rfl (Nat.le_of_ble_eq_true rfl) rfl dX10_go_249 (fun gy143 egy144 => ?_)
                        have hgy145 := up_s egy144
                        refine z_goto (tgt := 291) C dX10_go_252 (by decide) ?_
                        have hFy146 : ∀ f, f ≠ 32 → f ≠ 33 → f ≠ 35 → f ≠ 36 → f ≠ 37 → (uZ F8 35 (2)) f = F f := fun f n32 n33 n35 n36 n37 => ((uZ_n _ _ n35).trans (f4b f n32 n33 n36 n37))
                        have hey147 : (uZ F8 35 (2)) 32 = nz := (fn fn2 (by decide))
                        have hey148 : (uZ F8 35 (2)) 33 = nx := (fn fp2 (by decide))
                        have hey149 : (uZ F8 35 (2)) 34 = F 34 := (fn (f4b 34 (by decide) (by decide) (by decide) (by decide)) (by decide))
                        have hey150 : (uZ F8 35 (2)) 35 = 2 := (uZ_s _ _ _)
                        have hey151 : (uZ F8 35 (2)) 36 = va := (fn fv2 (by decide))
                        have hey152 : (uZ F8 35 (2)) 37 = -1 := (fn fw2 (by decide))
                        have hey153 : (uZ F8 35 (2)) 38 = F 38 := (fn (f4b 38 (by decide) (by decide) (by decide) (by decide)) (by decide))
                        have hrdy154 : RD (uZ F8 35 (2)) := by unfold RD; omega
                        exact z_vret C hr hlk dX10_go_291 (by decide) (by decide) ⟨rfl, rfl, rfl, ⟨_, hgy145, hrdy154, by omega, by omega, hFy146⟩, fun j j1 => by rw [egy144, va_up_ne _ _ (by omega)]; exact f3b j j1⟩
                      · refine z_aload_n C 0 dX10_go_192 rfl ?_
                        refine z_aload_n C 0 dX10_go_193 rfl ?_
                        refine z_get (v := .int (zI (nz))) C (by omega) hay123 f2b rfl inA_X10 32 (by decide) q_1491 rfl (fv (F := F8) (f := 32) fn2) dX10_go_194 ?_
                        refine z_aload_n C 0 dX10_go_197 rfl ?_
                        refine z_get (v := .int (zI (nx))) C (by omega) hay123 f2b rfl inA_X10 33 (by decide) q_1492 rfl (fv (F := F8) (f := 33) fp2) dX10_go_198 ?_
                        refine z_isub C dX10_go_201 ?_
                        refine z_iconst (z := 4) C dX10_go_202 rfl ?_
                        refine z_icmp_ge (tgt := 228) C dX10_go_203 (by decide) (by omega) (by omega) (fun hby155 => ?_) (fun hby155 => ?_)
                        · refine z_ldcw (z := 99999) C dX10_go_228 q_1669 (by decide) ?_
                          refine z_put (fs' := mF ad (i) (uZ F8 36 (99999))) C (by omega) hay123 f2b tyX10 tyX10_ok nmX10 rfl inA_X10 36 (by decide) q_1495 rfl rfl rfl rfl (Nat.le_of_ble_eq_true rfl) rfl dX10_go_231 (fun gy156 egy157 => ?_)
                          have hgy158 := up_s egy157
                          refine z_aload_n C 0 dX10_go_234 rfl ?_
                          refine z_dup C dX10_go_235 rfl ?_
                          refine z_get (v := .int (zI (nz))) C (by omega) hay123 hgy158 rfl inA_X10 32 (by decide) q_1491 rfl (fv (F := (uZ F8 36 (99999))) (f := 32) (fn fn2 (by decide))) dX10_go_236 ?_
                          refine z_iconst (z := 1) C dX10_go_239 rfl ?_
                          refine z_iadd C dX10_go_240 ?_
                          refine z_put (fs' := mF ad (i) (uZ (uZ F8 36 (99999)) 32 (nz + 1))) C (by omega) hay123 hgy158 tyX10 tyX10_ok nmX10 rfl inA_X10 32 (by decide) q_1491 rfl rfl rfl rfl (Nat.le_of_ble_eq_true rfl) rfl dX10_go_241 (fun gy159 egy160 => ?_)
                          have hgy161 := up_s egy160
                          refine z_goto (tgt := 166) C dX10_go_244 (by decide) ?_
                          have hFy162 : ∀ f, f ≠ 32 → f ≠ 33 → f ≠ 36 → f ≠ 37 → (uZ (uZ F8 36 (99999)) 32 (nz + 1)) f = F f := fun f n32 n33 n36 n37 => ((uZ_n _ _ n32).trans ((uZ_n _ _ n36).trans (f4b f n32 n33 n36 n37)))
                          refine z_lv (lv' := [(0, .ref (ad i))]) [0] rfl ?_
                          exact ih_lp166 _ (by omega) (nz + 1) (99999) _ gy159 rfl hgy161 (fun j j1 => by rw [egy160, va_up_ne _ _ (by omega)]; rw [egy157, va_up_ne _ _ (by omega)]; exact f3b j j1) (uZ_s _ _ _) (fn (fn fp2 (by decide)) (by decide)) (fn (uZ_s _ _ _) (by decide)) (fn (fn fw2 (by decide)) (by decide)) hFy162 (by omega) (by omega) (by omega)
                        · refine z_bipush (z := 10) C dX10_go_206 (by decide) ?_
                          refine z_aload_n C 0 dX10_go_208 rfl ?_
                          refine z_get (v := .int (zI (va))) C (by omega) hay123 f2b rfl inA_X10 36 (by decide) q_1495 rfl (fv (F := F8) (f := 36) fv2) dX10_go_209 ?_
                          refine z_imul C dX10_go_212 ?_
                          refine z_aload_n C 0 dX10_go_213 rfl ?_
                          refine z_aload_n C 0 dX10_go_214 rfl ?_
                          refine z_get (v := .int (zI (nz))) C (by omega) hay123 f2b rfl inA_X10 32 (by decide) q_1491 rfl (fv (F := F8) (f := 32) fn2) dX10_go_215 ?_
                          have h34y164 : F8 34 = F 34 := (f4b 34 (by decide) (by decide) (by decide) (by decide))
                          refine z_cV (As := [.int (zI (nz))]) (rest := [.int (zI (10 * va)), .ref (ad i)]) (ci := 12) C (c_X10_byteAt l D A cs tt N ad _ i hN _ f2b _ ((f3b _ (by omega)).trans ha13) htp (by omega) (nz) (by omega)) (by omega) hay123 f2b rfl rfl mv_yX10_byteAt q_1656 hd_yX10_byteAt (by decide) (Nat.le_of_ble_eq_true rfl) (by decide) dX10_go_218 rfl (kI0 fun vy163 gvy163 hvy163 => ?_)
                          rw [h34y164] at hvy163
                          obtain ⟨hrvy163, hqvy163, rfl⟩ := hvy163
                          refine z_iadd C dX10_go_221 ?_
                          refine z_bipush (z := 48) C dX10_go_222 (by decide) ?_
                          refine z_isub C dX10_go_224 ?_
                          refine z_goto (tgt := 231) C dX10_go_225 (by decide) ?_
                          refine z_put (fs' := mF ad (i) (uZ F8 36 (((10 * va) + vy163) - 48))) C (by omega) hay123 f2b tyX10 tyX10_ok nmX10 rfl inA_X10 36 (by decide) q_1495 rfl rfl rfl rfl (Nat.le_of_ble_eq_true rfl) rfl dX10_go_231 (fun gy165 egy166 => ?_)
                          have hgy167 := up_s egy166
                          refine z_aload_n C 0 dX10_go_234 rfl ?_
                          refine z_dup C dX10_go_235 rfl ?_
                          refine z_get (v := .int (zI (nz))) C (by omega) hay123 hgy167 rfl inA_X10 32 (by decide) q_1491 rfl (fv (F := (uZ F8 36 (((10 * va) + vy163) - 48))) (f := 32) (fn fn2 (by decide))) dX10_go_236 ?_
                          refine z_iconst (z := 1) C dX10_go_239 rfl ?_
                          refine z_iadd C dX10_go_240 ?_
                          refine z_put (fs' := mF ad (i) (uZ (uZ F8 36 (((10 * va) + vy163) - 48)) 32 (nz + 1))) C (by omega) hay123 hgy167 tyX10 tyX10_ok nmX10 rfl inA_X10 32 (by decide) q_1491 rfl rfl rfl rfl (Nat.le_of_ble_eq_true rfl) rfl dX10_go_241 (fun gy168 egy169 => ?_)
                          have hgy170 := up_s egy169
                          refine z_goto (tgt := 166) C dX10_go_244 (by decide) ?_
                          have hFy171 : ∀ f, f ≠ 32 → f ≠ 33 → f ≠ 36 → f ≠ 37 → (uZ (uZ F8 36 (((10 * va) + vy163) - 48)) 32 (nz + 1)) f = F f := fun f n32 n33 n36 n37 => ((uZ_n _ _ n32).trans ((uZ_n _ _ n36).trans (f4b f n32 n33 n36 n37)))
                          refine z_lv (lv' := [(0, .ref (ad i))]) [0] rfl ?_
                          exact ih_lp166 _ (by omega) (nz + 1) (((10 * va) + vy163) - 48) _ gy168 rfl hgy170 (fun j j1 => by rw [egy169, va_up_ne _ _ (by omega)]; rw [egy166, va_up_ne _ _ (by omega)]; exact f3b j j1) (uZ_s _ _ _) (fn (fn fp2 (by decide)) (by decide)) (fn (uZ_s _ _ _) (by decide)) (fn (fn fw2 (by decide)) (by decide)) hFy171 (by omega) (by omega) (by omega)
                have hFy172 : ∀ f, f ≠ 32 → f ≠ 33 → f ≠ 36 → f ≠ 37 → (uZ (uZ (uZ F9 33 (nx)) 37 (-1)) 36 (0)) f = F f := fun f n32 n33 n36 n37 => ((uZ_n _ _ n36).trans ((uZ_n _ _ n37).trans ((uZ_n _ _ n33).trans (f4 f n32))))
                refine z_lv (lv' := [(0, .ref (ad i))]) [1] rfl ?_
                exact lp166 _ (nx) (0) _ gy15 rfl hgy17 (fun j j1 => by rw [egy16, va_up_ne _ _ (by omega)]; rw [egy13, va_up_ne _ _ (by omega)]; rw [egy7, va_up_ne _ _ (by omega)]; exact f3 j j1) (fn (fn (fn fx0 (by decide)) (by decide)) (by decide)) (fn (fn (uZ_s _ _ _) (by decide)) (by decide)) (uZ_s _ _ _) (fn (uZ_s _ _ _) (by decide)) hFy172 (by omega) (by omega) (by omega)
          · have lp103 : ∀ (n9 : Nat) (ny : Int) (F8 : Nat → Int) (g1 : Nat → va_E), (900 - ny).toNat = n9 → (g1 i = mC ad i F8) → (∀ j, j ≠ i → g1 j = g j) → (F8 32 = ny) → (F8 33 = nx) → (F8 36 = 0) → (F8 37 = -1) → (∀ f, f ≠ 32 → f ≠ 33 → f ≠ 36 → f ≠ 37 → F8 f = F f) → (nx ≤ ny ∧ ny ≤ F 34) → (nx < ny ∨ (ny < F 34 ∧ 97 ≤ tp ny.toNat ∧ tp ny.toNat ≤ 122)) → zV pZ l eZ ({ frames := 3, cells := 0, slots := 0, locals := 180 } : Room) sZ mZ ([.ref (ad i)] : List Value).toArray below meth cZ (MQ below (zPost D A (rV0 N ad fun g' => (∃ F' : Nat → Int, g' i = mC ad i F' ∧ RD F' ∧ F 32 ≤ F' 32 ∧ (F' 35 = 0 ∨ F 32 < F' 32) ∧ (∀ f, f ≠ 32 → f ≠ 33 → f ≠ 35 → f ≠ 36 → f ≠ 37 → F' f = F f)) ∧ ∀ j, j ≠ i → g' j = g j)) ([.ref (ad i)] : List Value).toArray sZ ({ frames := 3, cells := 0, slots := 0, locals := 180 } : Room).cells ({ frames := 3, cells := 0, slots := 0, locals := 180 } : Room).slots A) D A 2 (N) ad g1 (0) (0) 103 [(0, .ref (ad i))] [] := by
              intro n9
              induction n9 using Nat.strongRecOn with
              | ind n9 ih_lp103 =>
                intro ny F8 g1 hm9 f2b f3b fn2 fp2 fv2 fw2 f4b hv2 hs2
                have hay173 : zAt ad (i) (ad i) := rfl
                have hay174 : zAt ad (i + 13) (ad (i + 13)) := rfl
                refine z_aload_n C 0 dX10_go_103 rfl ?_
                refine z_aload_n C 0 dX10_go_104 rfl ?_
                refine z_get (v := .int (zI (ny))) C (by omega) hay173 f2b rfl inA_X10 32 (by decide) q_1491 rfl (fv (F := F8) (f := 32) fn2) dX10_go_105 ?_
                have h34y176 : F8 34 = F 34 := (f4b 34 (by decide) (by decide) (by decide) (by decide))
                refine z_cV (As := [.int (zI (ny))]) (rest := []) (ci := 12) C (c_X10_byteAt l D A cs tt N ad _ i hN _ f2b _ ((f3b _ (by omega)).trans ha13) htp (by omega) (ny) (by omega)) (by omega) hay173 f2b rfl rfl mv_yX10_byteAt q_1656 hd_yX10_byteAt (by decide) (Nat.le_of_ble_eq_true rfl) (by decide) dX10_go_108 rfl (kI0 fun vy175 gvy175 hvy175 => ?_)
                rw [h34y176] at hvy175
                obtain ⟨hrvy175, hqvy175, rfl⟩ := hvy175
                refine z_cS (As := [.int (zI (vy175))]) (rest := []) C (c_X10_isLetter l D A cs tt N ad _ (vy175) (by omega)) ms_yX10_isLetter q_1660 hd_yX10_isLetter (by decide) (Nat.le_of_ble_eq_true rfl) (by decide) dX10_go_111 rfl (kI0 fun vy177 gvy177 hvy177 => ?_)
                obtain ⟨hvy177, rfl⟩ := hvy177
                refine z_if_eq (tgt := 130) C dX10_go_114 (by decide) (by omega) (fun hby178 => ?_) (fun hby178 => ?_)
                · refine z_aload_n C 0 dX10_go_130 rfl ?_
                  refine z_iconst (z := 1) C dX10_go_131 rfl ?_
                  refine z_put (fs' := mF ad (i) (uZ F8 35 (1))) C (by omega) hay173 f2b tyX10 tyX10_ok nmX10 rfl inA_X10 35 (by decide) q_1494 rfl rfl rfl rfl (Nat.le_of_ble_eq_true rfl) rfl dX10_go_132 (fun gy179 egy180 => ?_)
                  have hgy181 := up_s egy180
                  refine z_aload_n C 0 dX10_go_135 rfl ?_
                  refine z_aload_n C 0 dX10_go_136 rfl ?_
                  refine z_aload_n C 0 dX10_go_137 rfl ?_
                  refine z_get (v := .int (zI (nx))) C (by omega) hay173 hgy181 rfl inA_X10 33 (by decide) q_1492 rfl (fv (F := (uZ F8 35 (1))) (f := 33) (fn fp2 (by decide))) dX10_go_138 ?_
                  refine z_aload_n C 0 dX10_go_141 rfl ?_
                  refine z_get (v := .int (zI (ny))) C (by omega) hay173 hgy181 rfl inA_X10 32 (by decide) q_1491 rfl (fv (F := (uZ F8 35 (1))) (f := 32) (fn fn2 (by decide))) dX10_go_142 ?_
                  have hgy183 := up_n egy180 ((f3b _ (by omega)).trans ha13) (ne_o (i := i) (c := 13) (d := 0) rfl)
                  have h34y184 : (uZ F8 35 (1)) 34 = F 34 := (fn (f4b 34 (by decide) (by decide) (by decide) (by decide)) (by decide))
                  refine z_cV (As := [.int (zI (nx)), .int (zI (ny))]) (rest := [.ref (ad i)]) (ci := 12) C (c_X10_wordFrom l D A cs tt N ad _ i hN _ hgy181 _ hgy183 htp (by omega) (nx) (by omega) (ny) (by omega)) (by omega) hay173 hgy181 rfl rfl mv_yX10_wordFrom q_1663 hd_yX10_wordFrom (by decide) (Nat.le_of_ble_eq_true rfl) (by decide) dX10_go_145 rfl (kI0 fun vy182 gvy182 hvy182 => ?_)
                  obtain ⟨hvy182, rfl⟩ := hvy182
                  refine z_put (fs' := mF ad (i) (uZ (uZ F8 35 (1)) 37 (vy182))) C (by omega) hay173 hgy181 tyX10 tyX10_ok nmX10 rfl inA_X10 37 (by decide) q_1496 rfl rfl rfl rfl (Nat.le_of_ble_eq_true rfl) rfl dX10_go_148 (fun gy185 egy186 => ?_)
                  have hgy187 := up_s egy186
                  refine z_goto (tgt := 291) C dX10_go_151 (by decide) ?_
                  have hFy188 : ∀ f, f ≠ 32 → f ≠ 33 → f ≠ 35 → f ≠ 36 → f ≠ 37 → (uZ (uZ F8 35 (1)) 37 (vy182)) f = F f := fun f n32 n33 n35 n36 n37 => ((uZ_n _ _ n37).trans ((uZ_n _ _ n35).trans (f4b f n32 n33 n36 n37)))
                  have hey189 : (uZ (uZ F8 35 (1)) 37 (vy182)) 32 = ny := (fn (fn fn2 (by decide)) (by decide))
                  have hey190 : (uZ (uZ F8 35 (1)) 37 (vy182)) 33 = nx := (fn (fn fp2 (by decide)) (by decide))
                  have hey191 : (uZ (uZ F8 35 (1)) 37 (vy182)) 34 = F 34 := (fn (fn (f4b 34 (by decide) (by decide) (by decide) (by decide)) (by decide)) (by decide))
                  have hey192 : (uZ (uZ F8 35 (1)) 37 (vy182)) 35 = 1 := (fn (uZ_s _ _ _) (by decide))
                  have hey193 : (uZ (uZ F8 35 (1)) 37 (vy182)) 36 = 0 := (fn (fn fv2 (by decide)) (by decide))
                  have hey194 : (uZ (uZ F8 35 (1)) 37 (vy182)) 37 = vy182 := (uZ_s _ _ _)
                  have hey195 : (uZ (uZ F8 35 (1)) 37 (vy182)) 38 = F 38 := (fn (fn (f4b 38 (by decide) (by decide) (by decide) (by decide)) (by decide)) (by decide))
                  have hrdy196 : RD (uZ (uZ F8 35 (1)) 37 (vy182)) := by unfold RD; omega
                  exact z_vret C hr hlk dX10_go_291 (by decide) (by decide) ⟨rfl, rfl, rfl, ⟨_, hgy187, hrdy196, by omega, by omega, hFy188⟩, fun j j1 => by rw [egy186, va_up_ne _ _ (by omega)]; rw [egy180, va_up_ne _ _ (by omega)]; exact f3b j j1⟩
                · refine z_aload_n C 0 dX10_go_117 rfl ?_
                  refine z_dup C dX10_go_118 rfl ?_
                  refine z_get (v := .int (zI (ny))) C (by omega) hay173 f2b rfl inA_X10 32 (by decide) q_1491 rfl (fv (F := F8) (f := 32) fn2) dX10_go_119 ?_
                  refine z_iconst (z := 1) C dX10_go_122 rfl ?_
                  refine z_iadd C dX10_go_123 ?_
                  refine z_put (fs' := mF ad (i) (uZ F8 32 (ny + 1))) C (by omega) hay173 f2b tyX10 tyX10_ok nmX10 rfl inA_X10 32 (by decide) q_1491 rfl rfl rfl rfl (Nat.le_of_ble_eq_true rfl) rfl dX10_go_124 (fun gy197 egy198 => ?_)
                  have hgy199 := up_s egy198
                  refine z_goto (tgt := 103) C dX10_go_127 (by decide) ?_
                  have hFy200 : ∀ f, f ≠ 32 → f ≠ 33 → f ≠ 36 → f ≠ 37 → (uZ F8 32 (ny + 1)) f = F f := fun f n32 n33 n36 n37 => ((uZ_n _ _ n32).trans (f4b f n32 n33 n36 n37))
                  refine z_lv (lv' := [(0, .ref (ad i))]) [0] rfl ?_
                  exact ih_lp103 _ (by omega) (ny + 1) _ gy197 rfl hgy199 (fun j j1 => by rw [egy198, va_up_ne _ _ (by omega)]; exact f3b j j1) (uZ_s _ _ _) (fn fp2 (by decide)) (fn fv2 (by decide)) (fn fw2 (by decide)) hFy200 (by omega) (by omega)
            have hFy201 : ∀ f, f ≠ 32 → f ≠ 33 → f ≠ 36 → f ≠ 37 → (uZ (uZ (uZ F9 33 (nx)) 37 (-1)) 36 (0)) f = F f := fun f n32 n33 n36 n37 => ((uZ_n _ _ n36).trans ((uZ_n _ _ n37).trans ((uZ_n _ _ n33).trans (f4 f n32))))
            refine z_lv (lv' := [(0, .ref (ad i))]) [1] rfl ?_
            exact lp103 _ (nx) _ gy15 rfl hgy17 (fun j j1 => by rw [egy16, va_up_ne _ _ (by omega)]; rw [egy13, va_up_ne _ _ (by omega)]; rw [egy7, va_up_ne _ _ (by omega)]; exact f3 j j1) (fn (fn (fn fx0 (by decide)) (by decide)) (by decide)) (fn (fn (uZ_s _ _ _) (by decide)) (by decide)) (uZ_s _ _ _) (fn (uZ_s _ _ _) (by decide)) hFy201 (by omega) (by omega)
        · refine z_aload_n C 1 dX10_go_88 rfl ?_
          refine z_iconst (z := 0) C dX10_go_89 rfl ?_
          refine z_put (fs' := mF ad (i) (uZ (uZ (uZ (uZ F9 33 (nx)) 37 (-1)) 36 (0)) 35 (0))) C (by omega) hay3 hgy17 tyX10 tyX10_ok nmX10 rfl inA_X10 35 (by decide) q_1494 rfl rfl rfl rfl (Nat.le_of_ble_eq_true rfl) rfl dX10_go_90 (fun gy202 egy203 => ?_)
          have hgy204 := up_s egy203
          refine z_goto (tgt := 291) C dX10_go_93 (by decide) ?_
          have hFy205 : ∀ f, f ≠ 32 → f ≠ 33 → f ≠ 35 → f ≠ 36 → f ≠ 37 → (uZ (uZ (uZ (uZ F9 33 (nx)) 37 (-1)) 36 (0)) 35 (0)) f = F f := fun f n32 n33 n35 n36 n37 => ((uZ_n _ _ n35).trans ((uZ_n _ _ n36).trans ((uZ_n _ _ n37).trans ((uZ_n _ _ n33).trans (f4 f n32)))))
          have hey206 : (uZ (uZ (uZ (uZ F9 33 (nx)) 37 (-1)) 36 (0)) 35 (0)) 32 = nx := (fn (fn (fn (fn fx0 (by decide)) (by decide)) (by decide)) (by decide))
          have hey207 : (uZ (uZ (uZ (uZ F9 33 (nx)) 37 (-1)) 36 (0)) 35 (0)) 33 = nx := (fn (fn (fn (uZ_s _ _ _) (by decide)) (by decide)) (by decide))
          have hey208 : (uZ (uZ (uZ (uZ F9 33 (nx)) 37 (-1)) 36 (0)) 35 (0)) 34 = F 34 := (fn (fn (fn (fn (f4 34 (by decide)) (by decide)) (by decide)) (by decide)) (by decide))
          have hey209 : (uZ (uZ (uZ (uZ F9 33 (nx)) 37 (-1)) 36 (0)) 35 (0)) 35 = 0 := (uZ_s _ _ _)
          have hey210 : (uZ (uZ (uZ (uZ F9 33 (nx)) 37 (-1)) 36 (0)) 35 (0)) 36 = 0 := (fn (uZ_s _ _ _) (by decide))
          have hey211 : (uZ (uZ (uZ (uZ F9 33 (nx)) 37 (-1)) 36 (0)) 35 (0)) 37 = -1 := (fn (fn (uZ_s _ _ _) (by decide)) (by decide))
          have hey212 : (uZ (uZ (uZ (uZ F9 33 (nx)) 37 (-1)) 36 (0)) 35 (0)) 38 = F 38 := (fn (fn (fn (fn (f4 38 (by decide)) (by decide)) (by decide)) (by decide)) (by decide))
          have hrdy213 : RD (uZ (uZ (uZ (uZ F9 33 (nx)) 37 (-1)) 36 (0)) 35 (0)) := by unfold RD; omega
          exact z_vret C hr hlk dX10_go_291 (by decide) (by decide) ⟨rfl, rfl, rfl, ⟨_, hgy204, hrdy213, by omega, by omega, hFy205⟩, fun j j1 => by rw [egy203, va_up_ne _ _ (by omega)]; rw [egy16, va_up_ne _ _ (by omega)]; rw [egy13, va_up_ne _ _ (by omega)]; rw [egy7, va_up_ne _ _ (by omega)]; exact f3 j j1⟩
      · refine z_aload_n C 0 dX10_go_11 rfl ?_
        refine z_aload_n C 0 dX10_go_12 rfl ?_
        refine z_get (v := .int (zI (nx))) C (by omega) hay3 f2 rfl inA_X10 32 (by decide) q_1491 rfl (fv (F := F9) (f := 32) fx0) dX10_go_13 ?_
        have h34y215 : F9 34 = F 34 := (f4 34 (by decide))
        refine z_cV (As := [.int (zI (nx))]) (rest := []) (ci := 12) C (c_X10_byteAt l D A cs tt N ad _ i hN _ f2 _ ((f3 _ (by omega)).trans ha13) htp (by omega) (nx) (by omega)) (by omega) hay3 f2 rfl rfl mv_yX10_byteAt q_1656 hd_yX10_byteAt (by decide) (Nat.le_of_ble_eq_true rfl) (by decide) dX10_go_16 rfl (kI0 fun vy214 gvy214 hvy214 => ?_)
        rw [h34y215] at hvy214
        obtain ⟨hrvy214, hqvy214, rfl⟩ := hvy214
        refine z_bipush (z := 32) C dX10_go_19 (by decide) ?_
        refine z_icmp_eq (tgt := 37) C dX10_go_21 (by decide) (by omega) (by omega) (fun hby216 => ?_) (fun hby216 => ?_)
        · refine z_aload_n C 0 dX10_go_37 rfl ?_
          refine z_dup C dX10_go_38 rfl ?_
          refine z_get (v := .int (zI (nx))) C (by omega) hay3 f2 rfl inA_X10 32 (by decide) q_1491 rfl (fv (F := F9) (f := 32) fx0) dX10_go_39 ?_
          refine z_iconst (z := 1) C dX10_go_42 rfl ?_
          refine z_iadd C dX10_go_43 ?_
          refine z_put (fs' := mF ad (i) (uZ F9 32 (nx + 1))) C (by omega) hay3 f2 tyX10 tyX10_ok nmX10 rfl inA_X10 32 (by decide) q_1491 rfl rfl rfl rfl (Nat.le_of_ble_eq_true rfl) rfl dX10_go_44 (fun gy217 egy218 => ?_)
          have hgy219 := up_s egy218
          refine z_goto (tgt := 0) C dX10_go_47 (by decide) ?_
          have hFy220 : ∀ f, f ≠ 32 → (uZ F9 32 (nx + 1)) f = F f := fun f n32 => ((uZ_n _ _ n32).trans (f4 f n32))
          refine z_lv (lv' := [(0, .ref (ad i))]) [0] rfl ?_
          exact ih_lp0 _ (by omega) (nx + 1) _ gy217 rfl hgy219 (fun j j1 => by rw [egy218, va_up_ne _ _ (by omega)]; exact f3 j j1) (uZ_s _ _ _) hFy220 (by omega)
        · refine z_aload_n C 0 dX10_go_24 rfl ?_
          refine z_aload_n C 0 dX10_go_25 rfl ?_
          refine z_get (v := .int (zI (nx))) C (by omega) hay3 f2 rfl inA_X10 32 (by decide) q_1491 rfl (fv (F := F9) (f := 32) fx0) dX10_go_26 ?_
          have h34y222 : F9 34 = F 34 := (f4 34 (by decide))
          refine z_cV (As := [.int (zI (nx))]) (rest := []) (ci := 12) C (c_X10_byteAt l D A cs tt N ad _ i hN _ f2 _ ((f3 _ (by omega)).trans ha13) htp (by omega) (nx) (by omega)) (by omega) hay3 f2 rfl rfl mv_yX10_byteAt q_1656 hd_yX10_byteAt (by decide) (Nat.le_of_ble_eq_true rfl) (by decide) dX10_go_29 rfl (kI0 fun vy221 gvy221 hvy221 => ?_)
          rw [h34y222] at hvy221
          obtain ⟨hrvy221, hqvy221, rfl⟩ := hvy221
          refine z_bipush (z := 10) C dX10_go_32 (by decide) ?_
          refine z_icmp_ne (tgt := 50) C dX10_go_34 (by decide) (by omega) (by omega) (fun hby223 => ?_) (fun hby223 => ?_)
          · refine z_aload_n C 0 dX10_go_50 rfl ?_
            refine z_aload_n C 0 dX10_go_51 rfl ?_
            refine z_get (v := .int (zI (nx))) C (by omega) hay3 f2 rfl inA_X10 32 (by decide) q_1491 rfl (fv (F := F9) (f := 32) fx0) dX10_go_52 ?_
            refine z_put (fs' := mF ad (i) (uZ F9 33 (nx))) C (by omega) hay3 f2 tyX10 tyX10_ok nmX10 rfl inA_X10 33 (by decide) q_1492 rfl rfl rfl rfl (Nat.le_of_ble_eq_true rfl) rfl dX10_go_55 (fun gy224 egy225 => ?_)
            have hgy226 := up_s egy225
            refine z_aload_n C 0 dX10_go_58 rfl ?_
            refine z_aload_n C 0 dX10_go_59 rfl ?_
            refine z_get (v := .int (zI (nx))) C (by omega) hay3 hgy226 rfl inA_X10 32 (by decide) q_1491 rfl (fv (F := (uZ F9 33 (nx))) (f := 32) (fn fx0 (by decide))) dX10_go_60 ?_
            have hgy228 := up_n egy225 ((f3 _ (by omega)).trans ha13) (ne_o (i := i) (c := 13) (d := 0) rfl)
            have h34y229 : (uZ F9 33 (nx)) 34 = F 34 := (fn (f4 34 (by decide)) (by decide))
            refine z_cV (As := [.int (zI (nx))]) (rest := []) (ci := 12) C (c_X10_byteAt l D A cs tt N ad _ i hN _ hgy226 _ hgy228 htp (by omega) (nx) (by omega)) (by omega) hay3 hgy226 rfl rfl mv_yX10_byteAt q_1656 hd_yX10_byteAt (by decide) (Nat.le_of_ble_eq_true rfl) (by decide) dX10_go_63 rfl (kI0 fun vy227 gvy227 hvy227 => ?_)
            rw [h34y229] at hvy227
            obtain ⟨hrvy227, hqvy227, rfl⟩ := hvy227
            refine z_istore_n (lv' := [(1, .int (zI (vy227))), (0, .ref (ad i))]) C dX10_go_66 rfl (by decide) rfl ?_
            refine z_aload_n C 1 dX10_go_67 rfl ?_
            refine z_iconst (z := -1) C dX10_go_68 rfl ?_
            refine z_put (fs' := mF ad (i) (uZ (uZ F9 33 (nx)) 37 (-1))) C (by omega) hay3 hgy226 tyX10 tyX10_ok nmX10 rfl inA_X10 37 (by decide) q_1496 rfl rfl rfl rfl (Nat.le_of_ble_eq_true rfl) rfl dX10_go_69 (fun gy230 egy231 => ?_)
            have hgy232 := up_s egy231
            refine z_aload_n C 1 dX10_go_72 rfl ?_
            refine z_iconst (z := 0) C dX10_go_73 rfl ?_
            refine z_put (fs' := mF ad (i) (uZ (uZ (uZ F9 33 (nx)) 37 (-1)) 36 (0))) C (by omega) hay3 hgy232 tyX10 tyX10_ok nmX10 rfl inA_X10 36 (by decide) q_1495 rfl rfl rfl rfl (Nat.le_of_ble_eq_true rfl) rfl dX10_go_74 (fun gy233 egy234 => ?_)
            have hgy235 := up_s egy234
            refine z_aload_n C 1 dX10_go_77 rfl ?_
            refine z_get (v := .int (zI (nx))) C (by omega) hay3 hgy235 rfl inA_X10 32 (by decide) q_1491 rfl (fv (F := (uZ (uZ (uZ F9 33 (nx)) 37 (-1)) 36 (0))) (f := 32) (fn (fn (fn fx0 (by decide)) (by decide)) (by decide))) dX10_go_78 ?_
            refine z_aload_n C 1 dX10_go_81 rfl ?_
            refine z_get (v := .int (zI (F 34))) C (by omega) hay3 hgy235 rfl inA_X10 34 (by decide) q_1493 rfl (fv (F := (uZ (uZ (uZ F9 33 (nx)) 37 (-1)) 36 (0))) (f := 34) (fn (fn (fn (f4 34 (by decide)) (by decide)) (by decide)) (by decide))) dX10_go_82 ?_
            refine z_icmp_lt (tgt := 96) C dX10_go_85 (by decide) (by omega) (by omega) (fun hby236 => ?_) (fun hby236 => ?_)
            · refine z_iload_n C 0 dX10_go_96 rfl ?_
              refine z_cS (As := [.int (zI (vy227))]) (rest := []) C (c_X10_isLetter l D A cs tt N ad _ (vy227) (by omega)) ms_yX10_isLetter q_1660 hd_yX10_isLetter (by decide) (Nat.le_of_ble_eq_true rfl) (by decide) dX10_go_97 rfl (kI0 fun vy237 gvy237 hvy237 => ?_)
              obtain ⟨hvy237, rfl⟩ := hvy237
              refine z_if_eq (tgt := 154) C dX10_go_100 (by decide) (by omega) (fun hby238 => ?_) (fun hby238 => ?_)
              · refine z_iload_n C 0 dX10_go_154 rfl ?_
                refine z_bipush (z := 48) C dX10_go_155 (by decide) ?_
                refine z_icmp_lt (tgt := 255) C dX10_go_157 (by decide) (by omega) (by omega) (fun hby239 => ?_) (fun hby239 => ?_)
                · refine z_aload_n C 1 dX10_go_255 rfl ?_
                  refine z_dup C dX10_go_256 rfl ?_
                  refine z_get (v := .int (zI (nx))) C (by omega) hay3 hgy235 rfl inA_X10 32 (by decide) q_1491 rfl (fv (F := (uZ (uZ (uZ F9 33 (nx)) 37 (-1)) 36 (0))) (f := 32) (fn (fn (fn fx0 (by decide)) (by decide)) (by decide))) dX10_go_257 ?_
                  refine z_iconst (z := 1) C dX10_go_260 rfl ?_
                  refine z_iadd C dX10_go_261 ?_
                  refine z_put (fs' := mF ad (i) (uZ (uZ (uZ (uZ F9 33 (nx)) 37 (-1)) 36 (0)) 32 (nx + 1))) C (by omega) hay3 hgy235 tyX10 tyX10_ok nmX10 rfl inA_X10 32 (by decide) q_1491 rfl rfl rfl rfl (Nat.le_of_ble_eq_true rfl) rfl dX10_go_262 (fun gy240 egy241 => ?_)
                  have hgy242 := up_s egy241
                  refine z_aload_n C 1 dX10_go_265 rfl ?_
                  refine z_iload_n C 0 dX10_go_266 rfl ?_
                  refine z_bipush (z := 59) C dX10_go_267 (by decide) ?_
                  refine z_icmp_eq (tgt := 278) C dX10_go_269 (by decide) (by omega) (by omega) (fun hby243 => ?_) (fun hby243 => ?_)
                  · refine z_iconst (z := 3) C dX10_go_278 rfl ?_
                    refine z_goto (tgt := 283) C dX10_go_279 (by decide) ?_
                    refine z_put (fs' := mF ad (i) (uZ (uZ (uZ (uZ (uZ F9 33 (nx)) 37 (-1)) 36 (0)) 32 (nx + 1)) 35 (3))) C (by omega) hay3 hgy242 tyX10 tyX10_ok nmX10 rfl inA_X10 35 (by decide) q_1494 rfl rfl rfl rfl (Nat.le_of_ble_eq_true rfl) rfl dX10_go_283 (fun gy244 egy245 => ?_)
                    have hgy246 := up_s egy245
                    refine z_aload_n C 1 dX10_go_286 rfl ?_
                    refine z_iload_n C 0 dX10_go_287 rfl ?_
                    refine z_put (fs' := mF ad (i) (uZ (uZ (uZ (uZ (uZ (uZ F9 33 (nx)) 37 (-1)) 36 (0)) 32 (nx + 1)) 35 (3)) 36 (vy227))) C (by omega) hay3 hgy246 tyX10 tyX10_ok nmX10 rfl inA_X10 36 (by decide) q_1495 rfl rfl rfl rfl (Nat.le_of_ble_eq_true rfl) rfl dX10_go_288 (fun gy247 egy248 => ?_)
                    have hgy249 := up_s egy248
                    have hFy250 : ∀ f, f ≠ 32 → f ≠ 33 → f ≠ 35 → f ≠ 36 → f ≠ 37 → (uZ (uZ (uZ (uZ (uZ (uZ F9 33 (nx)) 37 (-1)) 36 (0)) 32 (nx + 1)) 35 (3)) 36 (vy227)) f = F f := fun f n32 n33 n35 n36 n37 => ((uZ_n _ _ n36).trans ((uZ_n _ _ n35).trans ((uZ_n _ _ n32).trans ((uZ_n _ _ n36).trans ((uZ_n _ _ n37).trans ((uZ_n _ _ n33).trans (f4 f n32)))))))
                    have hey251 : (uZ (uZ (uZ (uZ (uZ (uZ F9 33 (nx)) 37 (-1)) 36 (0)) 32 (nx + 1)) 35 (3)) 36 (vy227)) 32 = nx + 1 := (fn (fn (uZ_s _ _ _) (by decide)) (by decide))
                    have hey252 : (uZ (uZ (uZ (uZ (uZ (uZ F9 33 (nx)) 37 (-1)) 36 (0)) 32 (nx + 1)) 35 (3)) 36 (vy227)) 33 = nx := (fn (fn (fn (fn (fn (uZ_s _ _ _) (by decide)) (by decide)) (by decide)) (by decide)) (by decide))
                    have hey253 : (uZ (uZ (uZ (uZ (uZ (uZ F9 33 (nx)) 37 (-1)) 36 (0)) 32 (nx + 1)) 35 (3)) 36 (vy227)) 34 = F 34 := (fn (fn (fn (fn (fn (fn (f4 34 (by decide)) (by decide)) (by decide)) (by decide)) (by decide)) (by decide)) (by decide))
                    have hey254 : (uZ (uZ (uZ (uZ (uZ (uZ F9 33 (nx)) 37 (-1)) 36 (0)) 32 (nx + 1)) 35 (3)) 36 (vy227)) 35 = 3 := (fn (uZ_s _ _ _) (by decide))
                    have hey255 : (uZ (uZ (uZ (uZ (uZ (uZ F9 33 (nx)) 37 (-1)) 36 (0)) 32 (nx + 1)) 35 (3)) 36 (vy227)) 36 = vy227 := (uZ_s _ _ _)
                    have hey256 : (uZ (uZ (uZ (uZ (uZ (uZ F9 33 (nx)) 37 (-1)) 36 (0)) 32 (nx + 1)) 35 (3)) 36 (vy227)) 37 = -1 := (fn (fn (fn (fn (uZ_s _ _ _) (by decide)) (by decide)) (by decide)) (by decide))
                    have hey257 : (uZ (uZ (uZ (uZ (uZ (uZ F9 33 (nx)) 37 (-1)) 36 (0)) 32 (nx + 1)) 35 (3)) 36 (vy227)) 38 = F 38 := (fn (fn (fn (fn (fn (fn (f4 38 (by decide)) (by decide)) (by decide)) (by decide)) (by decide)) (by decide)) (by decide))
                    have hrdy258 : RD (uZ (uZ (uZ (uZ (uZ (uZ F9 33 (nx)) 37 (-1)) 36 (0)) 32 (nx + 1)) 35 (3)) 36 (vy227)) := by unfold RD; omega
                    exact z_vret C hr hlk dX10_go_291 (by decide) (by decide) ⟨rfl, rfl, rfl, ⟨_, hgy249, hrdy258, by omega, by omega, hFy250⟩, fun j j1 => by rw [egy248, va_up_ne _ _ (by omega)]; rw [egy245, va_up_ne _ _ (by omega)]; rw [egy241, va_up_ne _ _ (by omega)]; rw [egy234, va_up_ne _ _ (by omega)]; rw [egy231, va_up_ne _ _ (by omega)]; rw [egy225, va_up_ne _ _ (by omega)]; exact f3 j j1⟩
                  · refine z_iload_n C 0 dX10_go_272 rfl ?_
                    refine z_bipush (z := 45) C dX10_go_273 (by decide) ?_
                    refine z_icmp_ne (tgt := 282) C dX10_go_275 (by decide) (by omega) (by omega) (fun hby259 => ?_) (fun hby259 => ?_)
                    · refine z_iconst (z := 4) C dX10_go_282 rfl ?_
                      refine z_put (fs' := mF ad (i) (uZ (uZ (uZ (uZ (uZ F9 33 (nx)) 37 (-1)) 36 (0)) 32 (nx + 1)) 35 (4))) C (by omega) hay3 hgy242 tyX10 tyX10_ok nmX10 rfl inA_X10 35 (by decide) q_1494 rfl rfl rfl rfl (Nat.le_of_ble_eq_true rfl) rfl dX10_go_283 (fun gy260 egy261 => ?_)
                      have hgy262 := up_s egy261
                      refine z_aload_n C 1 dX10_go_286 rfl ?_
                      refine z_iload_n C 0 dX10_go_287 rfl ?_
                      refine z_put (fs' := mF ad (i) (uZ (uZ (uZ (uZ (uZ (uZ F9 33 (nx)) 37 (-1)) 36 (0)) 32 (nx + 1)) 35 (4)) 36 (vy227))) C (by omega) hay3 hgy262 tyX10 tyX10_ok nmX10 rfl inA_X10 36 (by decide) q_1495 rfl rfl rfl rfl (Nat.le_of_ble_eq_true rfl) rfl dX10_go_288 (fun gy263 egy264 => ?_)
                      have hgy265 := up_s egy264
                      have hFy266 : ∀ f, f ≠ 32 → f ≠ 33 → f ≠ 35 → f ≠ 36 → f ≠ 37 → (uZ (uZ (uZ (uZ (uZ (uZ F9 33 (nx)) 37 (-1)) 36 (0)) 32 (nx + 1)) 35 (4)) 36 (vy227)) f = F f := fun f n32 n33 n35 n36 n37 => ((uZ_n _ _ n36).trans ((uZ_n _ _ n35).trans ((uZ_n _ _ n32).trans ((uZ_n _ _ n36).trans ((uZ_n _ _ n37).trans ((uZ_n _ _ n33).trans (f4 f n32)))))))
                      have hey267 : (uZ (uZ (uZ (uZ (uZ (uZ F9 33 (nx)) 37 (-1)) 36 (0)) 32 (nx + 1)) 35 (4)) 36 (vy227)) 32 = nx + 1 := (fn (fn (uZ_s _ _ _) (by decide)) (by decide))
                      have hey268 : (uZ (uZ (uZ (uZ (uZ (uZ F9 33 (nx)) 37 (-1)) 36 (0)) 32 (nx + 1)) 35 (4)) 36 (vy227)) 33 = nx := (fn (fn (fn (fn (fn (uZ_s _ _ _) (by decide)) (by decide)) (by decide)) (by decide)) (by decide))
                      have hey269 : (uZ (uZ (uZ (uZ (uZ (uZ F9 33 (nx)) 37 (-1)) 36 (0)) 32 (nx + 1)) 35 (4)) 36 (vy227)) 34 = F 34 := (fn (fn (fn (fn (fn (fn (f4 34 (by decide)) (by decide)) (by decide)) (by decide)) (by decide)) (by decide)) (by decide))
                      have hey270 : (uZ (uZ (uZ (uZ (uZ (uZ F9 33 (nx)) 37 (-1)) 36 (0)) 32 (nx + 1)) 35 (4)) 36 (vy227)) 35 = 4 := (fn (uZ_s _ _ _) (by decide))
                      have hey271 : (uZ (uZ (uZ (uZ (uZ (uZ F9 33 (nx)) 37 (-1)) 36 (0)) 32 (nx + 1)) 35 (4)) 36 (vy227)) 36 = vy227 := (uZ_s _ _ _)
                      have hey272 : (uZ (uZ (uZ (uZ (uZ (uZ F9 33 (nx)) 37 (-1)) 36 (0)) 32 (nx + 1)) 35 (4)) 36 (vy227)) 37 = -1 := (fn (fn (fn (fn (uZ_s _ _ _) (by decide)) (by decide)) (by decide)) (by decide))
                      have hey273 : (uZ (uZ (uZ (uZ (uZ (uZ F9 33 (nx)) 37 (-1)) 36 (0)) 32 (nx + 1)) 35 (4)) 36 (vy227)) 38 = F 38 := (fn (fn (fn (fn (fn (fn (f4 38 (by decide)) (by decide)) (by decide)) (by decide)) (by decide)) (by decide)) (by decide))
                      have hrdy274 : RD (uZ (uZ (uZ (uZ (uZ (uZ F9 33 (nx)) 37 (-1)) 36 (0)) 32 (nx + 1)) 35 (4)) 36 (vy227)) := by unfold RD; omega
                      exact z_vret C hr hlk dX10_go_291 (by decide) (by decide) ⟨rfl, rfl, rfl, ⟨_, hgy265, hrdy274, by omega, by omega, hFy266⟩, fun j j1 => by rw [egy264, va_up_ne _ _ (by omega)]; rw [egy261, va_up_ne _ _ (by omega)]; rw [egy241, va_up_ne _ _ (by omega)]; rw [egy234, va_up_ne _ _ (by omega)]; rw [egy231, va_up_ne _ _ (by omega)]; rw [egy225, va_up_ne _ _ (by omega)]; exact f3 j j1⟩
                    · refine z_iconst (z := 3) C dX10_go_278 rfl ?_
                      refine z_goto (tgt := 283) C dX10_go_279 (by decide) ?_
                      refine z_put (fs' := mF ad (i) (uZ (uZ (uZ (uZ (uZ F9 33 (nx)) 37 (-1)) 36 (0)) 32 (nx + 1)) 35 (3))) C (by omega) hay3 hgy242 tyX10 tyX10_ok nmX10 rfl inA_X10 35 (by decide) q_1494 rfl rfl rfl rfl (Nat.le_of_ble_eq_true rfl) rfl dX10_go_283 (fun gy275 egy276 => ?_)
                      have hgy277 := up_s egy276
                      refine z_aload_n C 1 dX10_go_286 rfl ?_
                      refine z_iload_n C 0 dX10_go_287 rfl ?_
                      refine z_put (fs' := mF ad (i) (uZ (uZ (uZ (uZ (uZ (uZ F9 33 (nx)) 37 (-1)) 36 (0)) 32 (nx + 1)) 35 (3)) 36 (vy227))) C (by omega) hay3 hgy277 tyX10 tyX10_ok nmX10 rfl inA_X10 36 (by decide) q_1495 rfl rfl rfl rfl (Nat.le_of_ble_eq_true rfl) rfl dX10_go_288 (fun gy278 egy279 => ?_)
                      have hgy280 := up_s egy279
                      have hFy281 : ∀ f, f ≠ 32 → f ≠ 33 → f ≠ 35 → f ≠ 36 → f ≠ 37 → (uZ (uZ (uZ (uZ (uZ (uZ F9 33 (nx)) 37 (-1)) 36 (0)) 32 (nx + 1)) 35 (3)) 36 (vy227)) f = F f := fun f n32 n33 n35 n36 n37 => ((uZ_n _ _ n36).trans ((uZ_n _ _ n35).trans ((uZ_n _ _ n32).trans ((uZ_n _ _ n36).trans ((uZ_n _ _ n37).trans ((uZ_n _ _ n33).trans (f4 f n32)))))))
                      have hey282 : (uZ (uZ (uZ (uZ (uZ (uZ F9 33 (nx)) 37 (-1)) 36 (0)) 32 (nx + 1)) 35 (3)) 36 (vy227)) 32 = nx + 1 := (fn (fn (uZ_s _ _ _) (by decide)) (by decide))
                      have hey283 : (uZ (uZ (uZ (uZ (uZ (uZ F9 33 (nx)) 37 (-1)) 36 (0)) 32 (nx + 1)) 35 (3)) 36 (vy227)) 33 = nx := (fn (fn (fn (fn (fn (uZ_s _ _ _) (by decide)) (by decide)) (by decide)) (by decide)) (by decide))
                      have hey284 : (uZ (uZ (uZ (uZ (uZ (uZ F9 33 (nx)) 37 (-1)) 36 (0)) 32 (nx + 1)) 35 (3)) 36 (vy227)) 34 = F 34 := (fn (fn (fn (fn (fn (fn (f4 34 (by decide)) (by decide)) (by decide)) (by decide)) (by decide)) (by decide)) (by decide))
                      have hey285 : (uZ (uZ (uZ (uZ (uZ (uZ F9 33 (nx)) 37 (-1)) 36 (0)) 32 (nx + 1)) 35 (3)) 36 (vy227)) 35 = 3 := (fn (uZ_s _ _ _) (by decide))
                      have hey286 : (uZ (uZ (uZ (uZ (uZ (uZ F9 33 (nx)) 37 (-1)) 36 (0)) 32 (nx + 1)) 35 (3)) 36 (vy227)) 36 = vy227 := (uZ_s _ _ _)
                      have hey287 : (uZ (uZ (uZ (uZ (uZ (uZ F9 33 (nx)) 37 (-1)) 36 (0)) 32 (nx + 1)) 35 (3)) 36 (vy227)) 37 = -1 := (fn (fn (fn (fn (uZ_s _ _ _) (by decide)) (by decide)) (by decide)) (by decide))
                      have hey288 : (uZ (uZ (uZ (uZ (uZ (uZ F9 33 (nx)) 37 (-1)) 36 (0)) 32 (nx + 1)) 35 (3)) 36 (vy227)) 38 = F 38 := (fn (fn (fn (fn (fn (fn (f4 38 (by decide)) (by decide)) (by decide)) (by decide)) (by decide)) (by decide)) (by decide))
                      have hrdy289 : RD (uZ (uZ (uZ (uZ (uZ (uZ F9 33 (nx)) 37 (-1)) 36 (0)) 32 (nx + 1)) 35 (3)) 36 (vy227)) := by unfold RD; omega
                      exact z_vret C hr hlk dX10_go_291 (by decide) (by decide) ⟨rfl, rfl, rfl, ⟨_, hgy280, hrdy289, by omega, by omega, hFy281⟩, fun j j1 => by rw [egy279, va_up_ne _ _ (by omega)]; rw [egy276, va_up_ne _ _ (by omega)]; rw [egy241, va_up_ne _ _ (by omega)]; rw [egy234, va_up_ne _ _ (by omega)]; rw [egy231, va_up_ne _ _ (by omega)]; rw [egy225, va_up_ne _ _ (by omega)]; exact f3 j j1⟩
                · refine z_iload_n C 0 dX10_go_160 rfl ?_
                  refine z_bipush (z := 57) C dX10_go_161 (by decide) ?_
                  refine z_icmp_gt (tgt := 255) C dX10_go_163 (by decide) (by omega) (by omega) (fun hby290 => ?_) (fun hby290 => ?_)
                  · refine z_aload_n C 1 dX10_go_255 rfl ?_
                    refine z_dup C dX10_go_256 rfl ?_
                    refine z_get (v := .int (zI (nx))) C (by omega) hay3 hgy235 rfl inA_X10 32 (by decide) q_1491 rfl (fv (F := (uZ (uZ (uZ F9 33 (nx)) 37 (-1)) 36 (0))) (f := 32) (fn (fn (fn fx0 (by decide)) (by decide)) (by decide))) dX10_go_257 ?_
                    refine z_iconst (z := 1) C dX10_go_260 rfl ?_
                    refine z_iadd C dX10_go_261 ?_
                    refine z_put (fs' := mF ad (i) (uZ (uZ (uZ (uZ F9 33 (nx)) 37 (-1)) 36 (0)) 32 (nx + 1))) C (by omega) hay3 hgy235 tyX10 tyX10_ok nmX10 rfl inA_X10 32 (by decide) q_1491 rfl rfl rfl rfl (Nat.le_of_ble_eq_true rfl) rfl dX10_go_262 (fun gy291 egy292 => ?_)
                    have hgy293 := up_s egy292
                    refine z_aload_n C 1 dX10_go_265 rfl ?_
                    refine z_iload_n C 0 dX10_go_266 rfl ?_
                    refine z_bipush (z := 59) C dX10_go_267 (by decide) ?_
                    refine z_icmp_eq (tgt := 278) C dX10_go_269 (by decide) (by omega) (by omega) (fun hby294 => ?_) (fun hby294 => ?_)
                    · refine z_iconst (z := 3) C dX10_go_278 rfl ?_
                      refine z_goto (tgt := 283) C dX10_go_279 (by decide) ?_
                      refine z_put (fs' := mF ad (i) (uZ (uZ (uZ (uZ (uZ F9 33 (nx)) 37 (-1)) 36 (0)) 32 (nx + 1)) 35 (3))) C (by omega) hay3 hgy293 tyX10 tyX10_ok nmX10 rfl inA_X10 35 (by decide) q_1494 rfl rfl rfl rfl (Nat.le_of_ble_eq_true rfl) rfl dX10_go_283 (fun gy295 egy296 => ?_)
                      have hgy297 := up_s egy296
                      refine z_aload_n C 1 dX10_go_286 rfl ?_
                      refine z_iload_n C 0 dX10_go_287 rfl ?_
                      refine z_put (fs' := mF ad (i) (uZ (uZ (uZ (uZ (uZ (uZ F9 33 (nx)) 37 (-1)) 36 (0)) 32 (nx + 1)) 35 (3)) 36 (vy227))) C (by omega) hay3 hgy297 tyX10 tyX10_ok nmX10 rfl inA_X10 36 (by decide) q_1495 rfl rfl rfl rfl (Nat.le_of_ble_eq_true rfl) rfl dX10_go_288 (fun gy298 egy299 => ?_)
                      have hgy300 := up_s egy299
                      have hFy301 : ∀ f, f ≠ 32 → f ≠ 33 → f ≠ 35 → f ≠ 36 → f ≠ 37 → (uZ (uZ (uZ (uZ (uZ (uZ F9 33 (nx)) 37 (-1)) 36 (0)) 32 (nx + 1)) 35 (3)) 36 (vy227)) f = F f := fun f n32 n33 n35 n36 n37 => ((uZ_n _ _ n36).trans ((uZ_n _ _ n35).trans ((uZ_n _ _ n32).trans ((uZ_n _ _ n36).trans ((uZ_n _ _ n37).trans ((uZ_n _ _ n33).trans (f4 f n32)))))))
                      have hey302 : (uZ (uZ (uZ (uZ (uZ (uZ F9 33 (nx)) 37 (-1)) 36 (0)) 32 (nx + 1)) 35 (3)) 36 (vy227)) 32 = nx + 1 := (fn (fn (uZ_s _ _ _) (by decide)) (by decide))
                      have hey303 : (uZ (uZ (uZ (uZ (uZ (uZ F9 33 (nx)) 37 (-1)) 36 (0)) 32 (nx + 1)) 35 (3)) 36 (vy227)) 33 = nx := (fn (fn (fn (fn (fn (uZ_s _ _ _) (by decide)) (by decide)) (by decide)) (by decide)) (by decide))
                      have hey304 : (uZ (uZ (uZ (uZ (uZ (uZ F9 33 (nx)) 37 (-1)) 36 (0)) 32 (nx + 1)) 35 (3)) 36 (vy227)) 34 = F 34 := (fn (fn (fn (fn (fn (fn (f4 34 (by decide)) (by decide)) (by decide)) (by decide)) (by decide)) (by decide)) (by decide))
                      have hey305 : (uZ (uZ (uZ (uZ (uZ (uZ F9 33 (nx)) 37 (-1)) 36 (0)) 32 (nx + 1)) 35 (3)) 36 (vy227)) 35 = 3 := (fn (uZ_s _ _ _) (by decide))
                      have hey306 : (uZ (uZ (uZ (uZ (uZ (uZ F9 33 (nx)) 37 (-1)) 36 (0)) 32 (nx + 1)) 35 (3)) 36 (vy227)) 36 = vy227 := (uZ_s _ _ _)
                      have hey307 : (uZ (uZ (uZ (uZ (uZ (uZ F9 33 (nx)) 37 (-1)) 36 (0)) 32 (nx + 1)) 35 (3)) 36 (vy227)) 37 = -1 := (fn (fn (fn (fn (uZ_s _ _ _) (by decide)) (by decide)) (by decide)) (by decide))
                      have hey308 : (uZ (uZ (uZ (uZ (uZ (uZ F9 33 (nx)) 37 (-1)) 36 (0)) 32 (nx + 1)) 35 (3)) 36 (vy227)) 38 = F 38 := (fn (fn (fn (fn (fn (fn (f4 38 (by decide)) (by decide)) (by decide)) (by decide)) (by decide)) (by decide)) (by decide))
                      have hrdy309 : RD (uZ (uZ (uZ (uZ (uZ (uZ F9 33 (nx)) 37 (-1)) 36 (0)) 32 (nx + 1)) 35 (3)) 36 (vy227)) := by unfold RD; omega
                      exact z_vret C hr hlk dX10_go_291 (by decide) (by decide) ⟨rfl, rfl, rfl, ⟨_, hgy300, hrdy309, by omega, by omega, hFy301⟩, fun j j1 => by rw [egy299, va_up_ne _ _ (by omega)]; rw [egy296, va_up_ne _ _ (by omega)]; rw [egy292, va_up_ne _ _ (by omega)]; rw [egy234, va_up_ne _ _ (by omega)]; rw [egy231, va_up_ne _ _ (by omega)]; rw [egy225, va_up_ne _ _ (by omega)]; exact f3 j j1⟩
                    · refine z_iload_n C 0 dX10_go_272 rfl ?_
                      refine z_bipush (z := 45) C dX10_go_273 (by decide) ?_
                      refine z_icmp_ne (tgt := 282) C dX10_go_275 (by decide) (by omega) (by omega) (fun hby310 => ?_) (fun hby310 => ?_)
                      · refine z_iconst (z := 4) C dX10_go_282 rfl ?_
                        refine z_put (fs' := mF ad (i) (uZ (uZ (uZ (uZ (uZ F9 33 (nx)) 37 (-1)) 36 (0)) 32 (nx + 1)) 35 (4))) C (by omega) hay3 hgy293 tyX10 tyX10_ok nmX10 rfl inA_X10 35 (by decide) q_1494 rfl rfl rfl rfl (Nat.le_of_ble_eq_true rfl) rfl dX10_go_283 (fun gy311 egy312 => ?_)
                        have hgy313 := up_s egy312
                        refine z_aload_n C 1 dX10_go_286 rfl ?_
                        refine z_iload_n C 0 dX10_go_287 rfl ?_
                        refine z_put (fs' := mF ad (i) (uZ (uZ (uZ (uZ (uZ (uZ F9 33 (nx)) 37 (-1)) 36 (0)) 32 (nx + 1)) 35 (4)) 36 (vy227))) C (by omega) hay3 hgy313 tyX10 tyX10_ok nmX10 rfl inA_X10 36 (by decide) q_1495 rfl rfl rfl rfl (Nat.le_of_ble_eq_true rfl) rfl dX10_go_288 (fun gy314 egy315 => ?_)
                        have hgy316 := up_s egy315
                        have hFy317 : ∀ f, f ≠ 32 → f ≠ 33 → f ≠ 35 → f ≠ 36 → f ≠ 37 → (uZ (uZ (uZ (uZ (uZ (uZ F9 33 (nx)) 37 (-1)) 36 (0)) 32 (nx + 1)) 35 (4)) 36 (vy227)) f = F f := fun f n32 n33 n35 n36 n37 => ((uZ_n _ _ n36).trans ((uZ_n _ _ n35).trans ((uZ_n _ _ n32).trans ((uZ_n _ _ n36).trans ((uZ_n _ _ n37).trans ((uZ_n _ _ n33).trans (f4 f n32)))))))
                        have hey318 : (uZ (uZ (uZ (uZ (uZ (uZ F9 33 (nx)) 37 (-1)) 36 (0)) 32 (nx + 1)) 35 (4)) 36 (vy227)) 32 = nx + 1 := (fn (fn (uZ_s _ _ _) (by decide)) (by decide))
                        have hey319 : (uZ (uZ (uZ (uZ (uZ (uZ F9 33 (nx)) 37 (-1)) 36 (0)) 32 (nx + 1)) 35 (4)) 36 (vy227)) 33 = nx := (fn (fn (fn (fn (fn (uZ_s _ _ _) (by decide)) (by decide)) (by decide)) (by decide)) (by decide))
                        have hey320 : (uZ (uZ (uZ (uZ (uZ (uZ F9 33 (nx)) 37 (-1)) 36 (0)) 32 (nx + 1)) 35 (4)) 36 (vy227)) 34 = F 34 := (fn (fn (fn (fn (fn (fn (f4 34 (by decide)) (by decide)) (by decide)) (by decide)) (by decide)) (by decide)) (by decide))
                        have hey321 : (uZ (uZ (uZ (uZ (uZ (uZ F9 33 (nx)) 37 (-1)) 36 (0)) 32 (nx + 1)) 35 (4)) 36 (vy227)) 35 = 4 := (fn (uZ_s _ _ _) (by decide))
                        have hey322 : (uZ (uZ (uZ (uZ (uZ (uZ F9 33 (nx)) 37 (-1)) 36 (0)) 32 (nx + 1)) 35 (4)) 36 (vy227)) 36 = vy227 := (uZ_s _ _ _)
                        have hey323 : (uZ (uZ (uZ (uZ (uZ (uZ F9 33 (nx)) 37 (-1)) 36 (0)) 32 (nx + 1)) 35 (4)) 36 (vy227)) 37 = -1 := (fn (fn (fn (fn (uZ_s _ _ _) (by decide)) (by decide)) (by decide)) (by decide))
                        have hey324 : (uZ (uZ (uZ (uZ (uZ (uZ F9 33 (nx)) 37 (-1)) 36 (0)) 32 (nx + 1)) 35 (4)) 36 (vy227)) 38 = F 38 := (fn (fn (fn (fn (fn (fn (f4 38 (by decide)) (by decide)) (by decide)) (by decide)) (by decide)) (by decide)) (by decide))
                        have hrdy325 : RD (uZ (uZ (uZ (uZ (uZ (uZ F9 33 (nx)) 37 (-1)) 36 (0)) 32 (nx + 1)) 35 (4)) 36 (vy227)) := by unfold RD; omega
                        exact z_vret C hr hlk dX10_go_291 (by decide) (by decide) ⟨rfl, rfl, rfl, ⟨_, hgy316, hrdy325, by omega, by omega, hFy317⟩, fun j j1 => by rw [egy315, va_up_ne _ _ (by omega)]; rw [egy312, va_up_ne _ _ (by omega)]; rw [egy292, va_up_ne _ _ (by omega)]; rw [egy234, va_up_ne _ _ (by omega)]; rw [egy231, va_up_ne _ _ (by omega)]; rw [egy225, va_up_ne _ _ (by omega)]; exact f3 j j1⟩
                      · refine z_iconst (z := 3) C dX10_go_278 rfl ?_
                        refine z_goto (tgt := 283) C dX10_go_279 (by decide) ?_
                        refine z_put (fs' := mF ad (i) (uZ (uZ (uZ (uZ (uZ F9 33 (nx)) 37 (-1)) 36 (0)) 32 (nx + 1)) 35 (3))) C (by omega) hay3 hgy293 tyX10 tyX10_ok nmX10 rfl inA_X10 35 (by decide) q_1494 rfl rfl rfl rfl (Nat.le_of_ble_eq_true rfl) rfl dX10_go_283 (fun gy326 egy327 => ?_)
                        have hgy328 := up_s egy327
                        refine z_aload_n C 1 dX10_go_286 rfl ?_
                        refine z_iload_n C 0 dX10_go_287 rfl ?_
                        refine z_put (fs' := mF ad (i) (uZ (uZ (uZ (uZ (uZ (uZ F9 33 (nx)) 37 (-1)) 36 (0)) 32 (nx + 1)) 35 (3)) 36 (vy227))) C (by omega) hay3 hgy328 tyX10 tyX10_ok nmX10 rfl inA_X10 36 (by decide) q_1495 rfl rfl rfl rfl (Nat.le_of_ble_eq_true rfl) rfl dX10_go_288 (fun gy329 egy330 => ?_)
                        have hgy331 := up_s egy330
                        have hFy332 : ∀ f, f ≠ 32 → f ≠ 33 → f ≠ 35 → f ≠ 36 → f ≠ 37 → (uZ (uZ (uZ (uZ (uZ (uZ F9 33 (nx)) 37 (-1)) 36 (0)) 32 (nx + 1)) 35 (3)) 36 (vy227)) f = F f := fun f n32 n33 n35 n36 n37 => ((uZ_n _ _ n36).trans ((uZ_n _ _ n35).trans ((uZ_n _ _ n32).trans ((uZ_n _ _ n36).trans ((uZ_n _ _ n37).trans ((uZ_n _ _ n33).trans (f4 f n32)))))))
                        have hey333 : (uZ (uZ (uZ (uZ (uZ (uZ F9 33 (nx)) 37 (-1)) 36 (0)) 32 (nx + 1)) 35 (3)) 36 (vy227)) 32 = nx + 1 := (fn (fn (uZ_s _ _ _) (by decide)) (by decide))
                        have hey334 : (uZ (uZ (uZ (uZ (uZ (uZ F9 33 (nx)) 37 (-1)) 36 (0)) 32 (nx + 1)) 35 (3)) 36 (vy227)) 33 = nx := (fn (fn (fn (fn (fn (uZ_s _ _ _) (by decide)) (by decide)) (by decide)) (by decide)) (by decide))
                        have hey335 : (uZ (uZ (uZ (uZ (uZ (uZ F9 33 (nx)) 37 (-1)) 36 (0)) 32 (nx + 1)) 35 (3)) 36 (vy227)) 34 = F 34 := (fn (fn (fn (fn (fn (fn (f4 34 (by decide)) (by decide)) (by decide)) (by decide)) (by decide)) (by decide)) (by decide))
                        have hey336 : (uZ (uZ (uZ (uZ (uZ (uZ F9 33 (nx)) 37 (-1)) 36 (0)) 32 (nx + 1)) 35 (3)) 36 (vy227)) 35 = 3 := (fn (uZ_s _ _ _) (by decide))
                        have hey337 : (uZ (uZ (uZ (uZ (uZ (uZ F9 33 (nx)) 37 (-1)) 36 (0)) 32 (nx + 1)) 35 (3)) 36 (vy227)) 36 = vy227 := (uZ_s _ _ _)
                        have hey338 : (uZ (uZ (uZ (uZ (uZ (uZ F9 33 (nx)) 37 (-1)) 36 (0)) 32 (nx + 1)) 35 (3)) 36 (vy227)) 37 = -1 := (fn (fn (fn (fn (uZ_s _ _ _) (by decide)) (by decide)) (by decide)) (by decide))
                        have hey339 : (uZ (uZ (uZ (uZ (uZ (uZ F9 33 (nx)) 37 (-1)) 36 (0)) 32 (nx + 1)) 35 (3)) 36 (vy227)) 38 = F 38 := (fn (fn (fn (fn (fn (fn (f4 38 (by decide)) (by decide)) (by decide)) (by decide)) (by decide)) (by decide)) (by decide))
                        have hrdy340 : RD (uZ (uZ (uZ (uZ (uZ (uZ F9 33 (nx)) 37 (-1)) 36 (0)) 32 (nx + 1)) 35 (3)) 36 (vy227)) := by unfold RD; omega
                        exact z_vret C hr hlk dX10_go_291 (by decide) (by decide) ⟨rfl, rfl, rfl, ⟨_, hgy331, hrdy340, by omega, by omega, hFy332⟩, fun j j1 => by rw [egy330, va_up_ne _ _ (by omega)]; rw [egy327, va_up_ne _ _ (by omega)]; rw [egy292, va_up_ne _ _ (by omega)]; rw [egy234, va_up_ne _ _ (by omega)]; rw [egy231, va_up_ne _ _ (by omega)]; rw [egy225, va_up_ne _ _ (by omega)]; exact f3 j j1⟩
                  · have lp166 : ∀ (n9 : Nat) (nz : Int) (va : Int) (F8 : Nat → Int) (g1 : Nat → va_E), (900 - nz).toNat = n9 → (g1 i = mC ad i F8) → (∀ j, j ≠ i → g1 j = g j) → (F8 32 = nz) → (F8 33 = nx) → (F8 36 = va) → (F8 37 = -1) → (∀ f, f ≠ 32 → f ≠ 33 → f ≠ 36 → f ≠ 37 → F8 f = F f) → (nx ≤ nz ∧ nz ≤ F 34) → (nx < nz ∨ (nz < F 34 ∧ 48 ≤ tp nz.toNat ∧ tp nz.toNat ≤ 57)) → (0 ≤ va ∧ va ≤ 99999 ∧ (nz = nx → va = 0) ∧ (nz = nx + 1 → va ≤ 9) ∧ (nz = nx + 2 → va ≤ 99) ∧ (nz = nx + 3 → va ≤ 999)) → zV pZ l eZ ({ frames := 3, cells := 0, slots := 0, locals := 180 } : Room) sZ mZ ([.ref (ad i)] : List Value).toArray below meth cZ (MQ below (zPost D A (rV0 N ad fun g' => (∃ F' : Nat → Int, g' i = mC ad i F' ∧ RD F' ∧ F 32 ≤ F' 32 ∧ (F' 35 = 0 ∨ F 32 < F' 32) ∧ (∀ f, f ≠ 32 → f ≠ 33 → f ≠ 35 → f ≠ 36 → f ≠ 37 → F' f = F f)) ∧ ∀ j, j ≠ i → g' j = g j)) ([.ref (ad i)] : List Value).toArray sZ ({ frames := 3, cells := 0, slots := 0, locals := 180 } : Room).cells ({ frames := 3, cells := 0, slots := 0, locals := 180 } : Room).slots A) D A 2 (N) ad g1 (0) (0) 166 [(0, .ref (ad i))] [] := by
                      intro n9
                      induction n9 using Nat.strongRecOn with
                      | ind n9 ih_lp166 =>
                        intro nz va F8 g1 hm9 f2b f3b fn2 fp2 fv2 fw2 f4b hv2 hs2 hb2
                        have hay341 : zAt ad (i) (ad i) := rfl
                        have hay342 : zAt ad (i + 13) (ad (i + 13)) := rfl
                        refine z_aload_n C 0 dX10_go_166 rfl ?_
                        refine z_aload_n C 0 dX10_go_167 rfl ?_
                        refine z_get (v := .int (zI (nz))) C (by omega) hay341 f2b rfl inA_X10 32 (by decide) q_1491 rfl (fv (F := F8) (f := 32) fn2) dX10_go_168 ?_
                        have h34y344 : F8 34 = F 34 := (f4b 34 (by decide) (by decide) (by decide) (by decide))
                        refine z_cV (As := [.int (zI (nz))]) (rest := []) (ci := 12) C (c_X10_byteAt l D A cs tt N ad _ i hN _ f2b _ ((f3b _ (by omega)).trans ha13) htp (by omega) (nz) (by omega)) (by omega) hay341 f2b rfl rfl mv_yX10_byteAt q_1656 hd_yX10_byteAt (by decide) (Nat.le_of_ble_eq_true rfl) (by decide) dX10_go_171 rfl (kI0 fun vy343 gvy343 hvy343 => ?_)
                        rw [h34y344] at hvy343
                        obtain ⟨hrvy343, hqvy343, rfl⟩ := hvy343
                        refine z_bipush (z := 48) C dX10_go_174 (by decide) ?_
                        refine z_icmp_lt (tgt := 247) C dX10_go_176 (by decide) (by omega) (by omega) (fun hby345 => ?_) (fun hby345 => ?_)
                        · refine z_aload_n C 0 dX10_go_247 rfl ?_
                          refine z_iconst (z := 2) C dX10_go_248 rfl ?_
                          refine z_put (fs' := mF ad (i) (uZ F8 35 (2))) C (by omega) hay341 f2b tyX10 tyX10_ok nmX10 rfl inA_X10 35 (by decide) q_1494 rfl rfl rfl rfl (Nat.le_of_ble_eq_true rfl) rfl dX10_go_249 (fun gy346 egy347 => ?_)
                          have hgy348 := up_s egy347
                          refine z_goto (tgt := 291) C dX10_go_252 (by decide) ?_
                          have hFy349 : ∀ f, f ≠ 32 → f ≠ 33 → f ≠ 35 → f ≠ 36 → f ≠ 37 → (uZ F8 35 (2)) f = F f := fun f n32 n33 n35 n36 n37 => ((uZ_n _ _ n35).trans (f4b f n32 n33 n36 n37))
                          have hey350 : (uZ F8 35 (2)) 32 = nz := (fn fn2 (by decide))
                          have hey351 : (uZ F8 35 (2)) 33 = nx := (fn fp2 (by decide))
                          have hey352 : (uZ F8 35 (2)) 34 = F 34 := (fn (f4b 34 (by decide) (by decide) (by decide) (by decide)) (by decide))
                          have hey353 : (uZ F8 35 (2)) 35 = 2 := (uZ_s _ _ _)
                          have hey354 : (uZ F8 35 (2)) 36 = va := (fn fv2 (by decide))
                          have hey355 : (uZ F8 35 (2)) 37 = -1 := (fn fw2 (by decide))
                          have hey356 : (uZ F8 35 (2)) 38 = F 38 := (fn (f4b 38 (by decide) (by decide) (by decide) (by decide)) (by decide))
                          have hrdy357 : RD (uZ F8 35 (2)) := by unfold RD; omega
                          exact z_vret C hr hlk dX10_go_291 (by decide) (by decide) ⟨rfl, rfl, rfl, ⟨_, hgy348, hrdy357, by omega, by omega, hFy349⟩, fun j j1 => by rw [egy347, va_up_ne _ _ (by omega)]; exact f3b j j1⟩
                        · refine z_aload_n C 0 dX10_go_179 rfl ?_
                          refine z_aload_n C 0 dX10_go_180 rfl ?_
                          refine z_get (v := .int (zI (nz))) C (by omega) hay341 f2b rfl inA_X10 32 (by decide) q_1491 rfl (fv (F := F8) (f := 32) fn2) dX10_go_181 ?_
                          have h34y359 : F8 34 = F 34 := (f4b 34 (by decide) (by decide) (by decide) (by decide))
                          refine z_cV (As := [.int (zI (nz))]) (rest := []) (ci := 12) C (c_X10_byteAt l D A cs tt N ad _ i hN _ f2b _ ((f3b _ (by omega)).trans ha13) htp (by omega) (nz) (by omega)) (by omega) hay341 f2b rfl rfl mv_yX10_byteAt q_1656 hd_yX10_byteAt (by decide) (Nat.le_of_ble_eq_true rfl) (by decide) dX10_go_184 rfl (kI0 fun vy358 gvy358 hvy358 => ?_)
                          rw [h34y359] at hvy358
                          obtain ⟨hrvy358, hqvy358, rfl⟩ := hvy358
                          refine z_bipush (z := 57) C dX10_go_187 (by decide) ?_
                          refine z_icmp_gt (tgt := 247) C dX10_go_189 (by decide) (by omega) (by omega) (fun hby360 => ?_) (fun hby360 => ?_)
                          · refine z_aload_n C 0 dX10_go_247 rfl ?_
                            refine z_iconst (z := 2) C dX10_go_248 rfl ?_
                            refine z_put (fs' := mF ad (i) (uZ F8 35 (2))) C (by omega) hay341 f2b tyX10 tyX10_ok nmX10 rfl inA_X10 35 (by decide) q_1494 rfl rfl rfl rfl (Nat.le_of_ble_eq_true rfl) rfl dX10_go_249 (fun gy361 egy362 => ?_)
                            have hgy363 := up_s egy362
                            refine z_goto (tgt := 291) C dX10_go_252 (by decide) ?_
                            have hFy364 : ∀ f, f ≠ 32 → f ≠ 33 → f ≠ 35 → f ≠ 36 → f ≠ 37 → (uZ F8 35 (2)) f = F f := fun f n32 n33 n35 n36 n37 => ((uZ_n _ _ n35).trans (f4b f n32 n33 n36 n37))
                            have hey365 : (uZ F8 35 (2)) 32 = nz := (fn fn2 (by decide))
                            have hey366 : (uZ F8 35 (2)) 33 = nx := (fn fp2 (by decide))
                            have hey367 : (uZ F8 35 (2)) 34 = F 34 := (fn (f4b 34 (by decide) (by decide) (by decide) (by decide)) (by decide))
                            have hey368 : (uZ F8 35 (2)) 35 = 2 := (uZ_s _ _ _)
                            have hey369 : (uZ F8 35 (2)) 36 = va := (fn fv2 (by decide))
                            have hey370 : (uZ F8 35 (2)) 37 = -1 := (fn fw2 (by decide))
                            have hey371 : (uZ F8 35 (2)) 38 = F 38 := (fn (f4b 38 (by decide) (by decide) (by decide) (by decide)) (by decide))
                            have hrdy372 : RD (uZ F8 35 (2)) := by unfold RD; omega
                            exact z_vret C hr hlk dX10_go_291 (by decide) (by decide) ⟨rfl, rfl, rfl, ⟨_, hgy363, hrdy372, by omega, by omega, hFy364⟩, fun j j1 => by rw [egy362, va_up_ne _ _ (by omega)]; exact f3b j j1⟩
                          · refine z_aload_n C 0 dX10_go_192 rfl ?_
                            refine z_aload_n C 0 dX10_go_193 rfl ?_
                            refine z_get (v := .int (zI (nz))) C (by omega) hay341 f2b rfl inA_X10 32 (by decide) q_1491 rfl (fv (F := F8) (f := 32) fn2) dX10_go_194 ?_
                            refine z_aload_n C 0 dX10_go_197 rfl ?_
                            refine z_get (v := .int (zI (nx))) C (by omega) hay341 f2b rfl inA_X10 33 (by decide) q_1492 rfl (fv (F := F8) (f := 33) fp2) dX10_go_198 ?_
                            refine z_isub C dX10_go_201 ?_
                            refine z_iconst (z := 4) C dX10_go_202 rfl ?_
                            refine z_icmp_ge (tgt := 228) C dX10_go_203 (by decide) (by omega) (by omega) (fun hby373 => ?_) (fun hby373 => ?_)
                            · refine z_ldcw (z := 99999) C dX10_go_228 q_1669 (by decide) ?_
                              refine z_put (fs' := mF ad (i) (uZ F8 36 (99999))) C (by omega) hay341 f2b tyX10 tyX10_ok nmX10 rfl inA_X10 36 (by decide) q_1495 rfl rfl rfl rfl (Nat.le_of_ble_eq_true rfl) rfl dX10_go_231 (fun gy374 egy375 => ?_)
                              have hgy376 := up_s egy375
                              refine z_aload_n C 0 dX10_go_234 rfl ?_
                              refine z_dup C dX10_go_235 rfl ?_
                              refine z_get (v := .int (zI (nz))) C (by omega) hay341 hgy376 rfl inA_X10 32 (by decide) q_1491 rfl (fv (F := (uZ F8 36 (99999))) (f := 32) (fn fn2 (by decide))) dX10_go_236 ?_
                              refine z_iconst (z := 1) C dX10_go_239 rfl ?_
                              refine z_iadd C dX10_go_240 ?_
                              refine z_put (fs' := mF ad (i) (uZ (uZ F8 36 (99999)) 32 (nz + 1))) C (by omega) hay341 hgy376 tyX10 tyX10_ok nmX10 rfl inA_X10 32 (by decide) q_1491 rfl rfl rfl rfl (Nat.le_of_ble_eq_true rfl) rfl dX10_go_241 (fun gy377 egy378 => ?_)
                              have hgy379 := up_s egy378
                              refine z_goto (tgt := 166) C dX10_go_244 (by decide) ?_
                              have hFy380 : ∀ f, f ≠ 32 → f ≠ 33 → f ≠ 36 → f ≠ 37 → (uZ (uZ F8 36 (99999)) 32 (nz + 1)) f = F f := fun f n32 n33 n36 n37 => ((uZ_n _ _ n32).trans ((uZ_n _ _ n36).trans (f4b f n32 n33 n36 n37)))
                              refine z_lv (lv' := [(0, .ref (ad i))]) [0] rfl ?_
                              exact ih_lp166 _ (by omega) (nz + 1) (99999) _ gy377 rfl hgy379 (fun j j1 => by rw [egy378, va_up_ne _ _ (by omega)]; rw [egy375, va_up_ne _ _ (by omega)]; exact f3b j j1) (uZ_s _ _ _) (fn (fn fp2 (by decide)) (by decide)) (fn (uZ_s _ _ _) (by decide)) (fn (fn fw2 (by decide)) (by decide)) hFy380 (by omega) (by omega) (by omega)
                            · refine z_bipush (z := 10) C dX10_go_206 (by decide) ?_
                              refine z_aload_n C 0 dX10_go_208 rfl ?_
                              refine z_get (v := .int (zI (va))) C (by omega) hay341 f2b rfl inA_X10 36 (by decide) q_1495 rfl (fv (F := F8) (f := 36) fv2) dX10_go_209 ?_
                              refine z_imul C dX10_go_212 ?_
                              refine z_aload_n C 0 dX10_go_213 rfl ?_
                              refine z_aload_n C 0 dX10_go_214 rfl ?_
                              refine z_get (v := .int (zI (nz))) C (by omega) hay341 f2b rfl inA_X10 32 (by decide) q_1491 rfl (fv (F := F8) (f := 32) fn2) dX10_go_215 ?_
                              have h34y382 : F8 34 = F 34 := (f4b 34 (by decide) (by decide) (by decide) (by decide))
                              refine z_cV (As := [.int (zI (nz))]) (rest := [.int (zI (10 * va)), .ref (ad i)]) (ci := 12) C (c_X10_byteAt l D A cs tt N ad _ i hN _ f2b _ ((f3b _ (by omega)).trans ha13) htp (by omega) (nz) (by omega)) (by omega) hay341 f2b rfl rfl mv_yX10_byteAt q_1656 hd_yX10_byteAt (by decide) (Nat.le_of_ble_eq_true rfl) (by decide) dX10_go_218 rfl (kI0 fun vy381 gvy381 hvy381 => ?_)
                              rw [h34y382] at hvy381
                              obtain ⟨hrvy381, hqvy381, rfl⟩ := hvy381
                              refine z_iadd C dX10_go_221 ?_
                              refine z_bipush (z := 48) C dX10_go_222 (by decide) ?_
                              refine z_isub C dX10_go_224 ?_
                              refine z_goto (tgt := 231) C dX10_go_225 (by decide) ?_
                              refine z_put (fs' := mF ad (i) (uZ F8 36 (((10 * va) + vy381) - 48))) C (by omega) hay341 f2b tyX10 tyX10_ok nmX10 rfl inA_X10 36 (by decide) q_1495 rfl rfl rfl rfl (Nat.le_of_ble_eq_true rfl) rfl dX10_go_231 (fun gy383 egy384 => ?_)
                              have hgy385 := up_s egy384
                              refine z_aload_n C 0 dX10_go_234 rfl ?_
                              refine z_dup C dX10_go_235 rfl ?_
                              refine z_get (v := .int (zI (nz))) C (by omega) hay341 hgy385 rfl inA_X10 32 (by decide) q_1491 rfl (fv (F := (uZ F8 36 (((10 * va) + vy381) - 48))) (f := 32) (fn fn2 (by decide))) dX10_go_236 ?_
                              refine z_iconst (z := 1) C dX10_go_239 rfl ?_
                              refine z_iadd C dX10_go_240 ?_
                              refine z_put (fs' := mF ad (i) (uZ (uZ F8 36 (((10 * va) + vy381) - 48)) 32 (nz + 1))) C (by omega) hay341 hgy385 tyX10 tyX10_ok nmX10 rfl inA_X10 32 (by decide) q_1491 rfl rfl rfl rfl (Nat.le_of_ble_eq_true rfl) rfl dX10_go_241 (fun gy386 egy387 => ?_)
                              have hgy388 := up_s egy387
                              refine z_goto (tgt := 166) C dX10_go_244 (by decide) ?_
                              have hFy389 : ∀ f, f ≠ 32 → f ≠ 33 → f ≠ 36 → f ≠ 37 → (uZ (uZ F8 36 (((10 * va) + vy381) - 48)) 32 (nz + 1)) f = F f := fun f n32 n33 n36 n37 => ((uZ_n _ _ n32).trans ((uZ_n _ _ n36).trans (f4b f n32 n33 n36 n37)))
                              refine z_lv (lv' := [(0, .ref (ad i))]) [0] rfl ?_
                              exact ih_lp166 _ (by omega) (nz + 1) (((10 * va) + vy381) - 48) _ gy386 rfl hgy388 (fun j j1 => by rw [egy387, va_up_ne _ _ (by omega)]; rw [egy384, va_up_ne _ _ (by omega)]; exact f3b j j1) (uZ_s _ _ _) (fn (fn fp2 (by decide)) (by decide)) (fn (uZ_s _ _ _) (by decide)) (fn (fn fw2 (by decide)) (by decide)) hFy389 (by omega) (by omega) (by omega)
                    have hFy390 : ∀ f, f ≠ 32 → f ≠ 33 → f ≠ 36 → f ≠ 37 → (uZ (uZ (uZ F9 33 (nx)) 37 (-1)) 36 (0)) f = F f := fun f n32 n33 n36 n37 => ((uZ_n _ _ n36).trans ((uZ_n _ _ n37).trans ((uZ_n _ _ n33).trans (f4 f n32))))
                    refine z_lv (lv' := [(0, .ref (ad i))]) [1] rfl ?_
                    exact lp166 _ (nx) (0) _ gy233 rfl hgy235 (fun j j1 => by rw [egy234, va_up_ne _ _ (by omega)]; rw [egy231, va_up_ne _ _ (by omega)]; rw [egy225, va_up_ne _ _ (by omega)]; exact f3 j j1) (fn (fn (fn fx0 (by decide)) (by decide)) (by decide)) (fn (fn (uZ_s _ _ _) (by decide)) (by decide)) (uZ_s _ _ _) (fn (uZ_s _ _ _) (by decide)) hFy390 (by omega) (by omega) (by omega)
              · have lp103 : ∀ (n9 : Nat) (ny : Int) (F8 : Nat → Int) (g1 : Nat → va_E), (900 - ny).toNat = n9 → (g1 i = mC ad i F8) → (∀ j, j ≠ i → g1 j = g j) → (F8 32 = ny) → (F8 33 = nx) → (F8 36 = 0) → (F8 37 = -1) → (∀ f, f ≠ 32 → f ≠ 33 → f ≠ 36 → f ≠ 37 → F8 f = F f) → (nx ≤ ny ∧ ny ≤ F 34) → (nx < ny ∨ (ny < F 34 ∧ 97 ≤ tp ny.toNat ∧ tp ny.toNat ≤ 122)) → zV pZ l eZ ({ frames := 3, cells := 0, slots := 0, locals := 180 } : Room) sZ mZ ([.ref (ad i)] : List Value).toArray below meth cZ (MQ below (zPost D A (rV0 N ad fun g' => (∃ F' : Nat → Int, g' i = mC ad i F' ∧ RD F' ∧ F 32 ≤ F' 32 ∧ (F' 35 = 0 ∨ F 32 < F' 32) ∧ (∀ f, f ≠ 32 → f ≠ 33 → f ≠ 35 → f ≠ 36 → f ≠ 37 → F' f = F f)) ∧ ∀ j, j ≠ i → g' j = g j)) ([.ref (ad i)] : List Value).toArray sZ ({ frames := 3, cells := 0, slots := 0, locals := 180 } : Room).cells ({ frames := 3, cells := 0, slots := 0, locals := 180 } : Room).slots A) D A 2 (N) ad g1 (0) (0) 103 [(0, .ref (ad i))] [] := by
                  intro n9
                  induction n9 using Nat.strongRecOn with
                  | ind n9 ih_lp103 =>
                    intro ny F8 g1 hm9 f2b f3b fn2 fp2 fv2 fw2 f4b hv2 hs2
                    have hay391 : zAt ad (i) (ad i) := rfl
                    have hay392 : zAt ad (i + 13) (ad (i + 13)) := rfl
                    refine z_aload_n C 0 dX10_go_103 rfl ?_
                    refine z_aload_n C 0 dX10_go_104 rfl ?_
                    refine z_get (v := .int (zI (ny))) C (by omega) hay391 f2b rfl inA_X10 32 (by decide) q_1491 rfl (fv (F := F8) (f := 32) fn2) dX10_go_105 ?_
                    have h34y394 : F8 34 = F 34 := (f4b 34 (by decide) (by decide) (by decide) (by decide))
                    refine z_cV (As := [.int (zI (ny))]) (rest := []) (ci := 12) C (c_X10_byteAt l D A cs tt N ad _ i hN _ f2b _ ((f3b _ (by omega)).trans ha13) htp (by omega) (ny) (by omega)) (by omega) hay391 f2b rfl rfl mv_yX10_byteAt q_1656 hd_yX10_byteAt (by decide) (Nat.le_of_ble_eq_true rfl) (by decide) dX10_go_108 rfl (kI0 fun vy393 gvy393 hvy393 => ?_)
                    rw [h34y394] at hvy393
                    obtain ⟨hrvy393, hqvy393, rfl⟩ := hvy393
                    refine z_cS (As := [.int (zI (vy393))]) (rest := []) C (c_X10_isLetter l D A cs tt N ad _ (vy393) (by omega)) ms_yX10_isLetter q_1660 hd_yX10_isLetter (by decide) (Nat.le_of_ble_eq_true rfl) (by decide) dX10_go_111 rfl (kI0 fun vy395 gvy395 hvy395 => ?_)
                    obtain ⟨hvy395, rfl⟩ := hvy395
                    refine z_if_eq (tgt := 130) C dX10_go_114 (by decide) (by omega) (fun hby396 => ?_) (fun hby396 => ?_)
                    · refine z_aload_n C 0 dX10_go_130 rfl ?_
                      refine z_iconst (z := 1) C dX10_go_131 rfl ?_
                      refine z_put (fs' := mF ad (i) (uZ F8 35 (1))) C (by omega) hay391 f2b tyX10 tyX10_ok nmX10 rfl inA_X10 35 (by decide) q_1494 rfl rfl rfl rfl (Nat.le_of_ble_eq_true rfl) rfl dX10_go_132 (fun gy397 egy398 => ?_)
                      have hgy399 := up_s egy398
                      refine z_aload_n C 0 dX10_go_135 rfl ?_
                      refine z_aload_n C 0 dX10_go_136 rfl ?_
                      refine z_aload_n C 0 dX10_go_137 rfl ?_
                      refine z_get (v := .int (zI (nx))) C (by omega) hay391 hgy399 rfl inA_X10 33 (by decide) q_1492 rfl (fv (F := (uZ F8 35 (1))) (f := 33) (fn fp2 (by decide))) dX10_go_138 ?_
                      refine z_aload_n C 0 dX10_go_141 rfl ?_
                      refine z_get (v := .int (zI (ny))) C (by omega) hay391 hgy399 rfl inA_X10 32 (by decide) q_1491 rfl (fv (F := (uZ F8 35 (1))) (f := 32) (fn fn2 (by decide))) dX10_go_142 ?_
                      have hgy401 := up_n egy398 ((f3b _ (by omega)).trans ha13) (ne_o (i := i) (c := 13) (d := 0) rfl)
                      have h34y402 : (uZ F8 35 (1)) 34 = F 34 := (fn (f4b 34 (by decide) (by decide) (by decide) (by decide)) (by decide))
                      refine z_cV (As := [.int (zI (nx)), .int (zI (ny))]) (rest := [.ref (ad i)]) (ci := 12) C (c_X10_wordFrom l D A cs tt N ad _ i hN _ hgy399 _ hgy401 htp (by omega) (nx) (by omega) (ny) (by omega)) (by omega) hay391 hgy399 rfl rfl mv_yX10_wordFrom q_1663 hd_yX10_wordFrom (by decide) (Nat.le_of_ble_eq_true rfl) (by decide) dX10_go_145 rfl (kI0 fun vy400 gvy400 hvy400 => ?_)
                      obtain ⟨hvy400, rfl⟩ := hvy400
                      refine z_put (fs' := mF ad (i) (uZ (uZ F8 35 (1)) 37 (vy400))) C (by omega) hay391 hgy399 tyX10 tyX10_ok nmX10 rfl inA_X10 37 (by decide) q_1496 rfl rfl rfl rfl (Nat.le_of_ble_eq_true rfl) rfl dX10_go_148 (fun gy403 egy404 => ?_)
                      have hgy405 := up_s egy404
                      refine z_goto (tgt := 291) C dX10_go_151 (by decide) ?_
                      have hFy406 : ∀ f, f ≠ 32 → f ≠ 33 → f ≠ 35 → f ≠ 36 → f ≠ 37 → (uZ (uZ F8 35 (1)) 37 (vy400)) f = F f := fun f n32 n33 n35 n36 n37 => ((uZ_n _ _ n37).trans ((uZ_n _ _ n35).trans (f4b f n32 n33 n36 n37)))
                      have hey407 : (uZ (uZ F8 35 (1)) 37 (vy400)) 32 = ny := (fn (fn fn2 (by decide)) (by decide))
                      have hey408 : (uZ (uZ F8 35 (1)) 37 (vy400)) 33 = nx := (fn (fn fp2 (by decide)) (by decide))
                      have hey409 : (uZ (uZ F8 35 (1)) 37 (vy400)) 34 = F 34 := (fn (fn (f4b 34 (by decide) (by decide) (by decide) (by decide)) (by decide)) (by decide))
                      have hey410 : (uZ (uZ F8 35 (1)) 37 (vy400)) 35 = 1 := (fn (uZ_s _ _ _) (by decide))
                      have hey411 : (uZ (uZ F8 35 (1)) 37 (vy400)) 36 = 0 := (fn (fn fv2 (by decide)) (by decide))
                      have hey412 : (uZ (uZ F8 35 (1)) 37 (vy400)) 37 = vy400 := (uZ_s _ _ _)
                      have hey413 : (uZ (uZ F8 35 (1)) 37 (vy400)) 38 = F 38 := (fn (fn (f4b 38 (by decide) (by decide) (by decide) (by decide)) (by decide)) (by decide))
                      have hrdy414 : RD (uZ (uZ F8 35 (1)) 37 (vy400)) := by unfold RD; omega
                      exact z_vret C hr hlk dX10_go_291 (by decide) (by decide) ⟨rfl, rfl, rfl, ⟨_, hgy405, hrdy414, by omega, by omega, hFy406⟩, fun j j1 => by rw [egy404, va_up_ne _ _ (by omega)]; rw [egy398, va_up_ne _ _ (by omega)]; exact f3b j j1⟩
                    · refine z_aload_n C 0 dX10_go_117 rfl ?_
                      refine z_dup C dX10_go_118 rfl ?_
                      refine z_get (v := .int (zI (ny))) C (by omega) hay391 f2b rfl inA_X10 32 (by decide) q_1491 rfl (fv (F := F8) (f := 32) fn2) dX10_go_119 ?_
                      refine z_iconst (z := 1) C dX10_go_122 rfl ?_
                      refine z_iadd C dX10_go_123 ?_
                      refine z_put (fs' := mF ad (i) (uZ F8 32 (ny + 1))) C (by omega) hay391 f2b tyX10 tyX10_ok nmX10 rfl inA_X10 32 (by decide) q_1491 rfl rfl rfl rfl (Nat.le_of_ble_eq_true rfl) rfl dX10_go_124 (fun gy415 egy416 => ?_)
                      have hgy417 := up_s egy416
                      refine z_goto (tgt := 103) C dX10_go_127 (by decide) ?_
                      have hFy418 : ∀ f, f ≠ 32 → f ≠ 33 → f ≠ 36 → f ≠ 37 → (uZ F8 32 (ny + 1)) f = F f := fun f n32 n33 n36 n37 => ((uZ_n _ _ n32).trans (f4b f n32 n33 n36 n37))
                      refine z_lv (lv' := [(0, .ref (ad i))]) [0] rfl ?_
                      exact ih_lp103 _ (by omega) (ny + 1) _ gy415 rfl hgy417 (fun j j1 => by rw [egy416, va_up_ne _ _ (by omega)]; exact f3b j j1) (uZ_s _ _ _) (fn fp2 (by decide)) (fn fv2 (by decide)) (fn fw2 (by decide)) hFy418 (by omega) (by omega)
                have hFy419 : ∀ f, f ≠ 32 → f ≠ 33 → f ≠ 36 → f ≠ 37 → (uZ (uZ (uZ F9 33 (nx)) 37 (-1)) 36 (0)) f = F f := fun f n32 n33 n36 n37 => ((uZ_n _ _ n36).trans ((uZ_n _ _ n37).trans ((uZ_n _ _ n33).trans (f4 f n32))))
                refine z_lv (lv' := [(0, .ref (ad i))]) [1] rfl ?_
                exact lp103 _ (nx) _ gy233 rfl hgy235 (fun j j1 => by rw [egy234, va_up_ne _ _ (by omega)]; rw [egy231, va_up_ne _ _ (by omega)]; rw [egy225, va_up_ne _ _ (by omega)]; exact f3 j j1) (fn (fn (fn fx0 (by decide)) (by decide)) (by decide)) (fn (fn (uZ_s _ _ _) (by decide)) (by decide)) (uZ_s _ _ _) (fn (uZ_s _ _ _) (by decide)) hFy419 (by omega) (by omega)
            · refine z_aload_n C 1 dX10_go_88 rfl ?_
              refine z_iconst (z := 0) C dX10_go_89 rfl ?_
              refine z_put (fs' := mF ad (i) (uZ (uZ (uZ (uZ F9 33 (nx)) 37 (-1)) 36 (0)) 35 (0))) C (by omega) hay3 hgy235 tyX10 tyX10_ok nmX10 rfl inA_X10 35 (by decide) q_1494 rfl rfl rfl rfl (Nat.le_of_ble_eq_true rfl) rfl dX10_go_90 (fun gy420 egy421 => ?_)
              have hgy422 := up_s egy421
              refine z_goto (tgt := 291) C dX10_go_93 (by decide) ?_
              have hFy423 : ∀ f, f ≠ 32 → f ≠ 33 → f ≠ 35 → f ≠ 36 → f ≠ 37 → (uZ (uZ (uZ (uZ F9 33 (nx)) 37 (-1)) 36 (0)) 35 (0)) f = F f := fun f n32 n33 n35 n36 n37 => ((uZ_n _ _ n35).trans ((uZ_n _ _ n36).trans ((uZ_n _ _ n37).trans ((uZ_n _ _ n33).trans (f4 f n32)))))
              have hey424 : (uZ (uZ (uZ (uZ F9 33 (nx)) 37 (-1)) 36 (0)) 35 (0)) 32 = nx := (fn (fn (fn (fn fx0 (by decide)) (by decide)) (by decide)) (by decide))
              have hey425 : (uZ (uZ (uZ (uZ F9 33 (nx)) 37 (-1)) 36 (0)) 35 (0)) 33 = nx := (fn (fn (fn (uZ_s _ _ _) (by decide)) (by decide)) (by decide))
              have hey426 : (uZ (uZ (uZ (uZ F9 33 (nx)) 37 (-1)) 36 (0)) 35 (0)) 34 = F 34 := (fn (fn (fn (fn (f4 34 (by decide)) (by decide)) (by decide)) (by decide)) (by decide))
              have hey427 : (uZ (uZ (uZ (uZ F9 33 (nx)) 37 (-1)) 36 (0)) 35 (0)) 35 = 0 := (uZ_s _ _ _)
              have hey428 : (uZ (uZ (uZ (uZ F9 33 (nx)) 37 (-1)) 36 (0)) 35 (0)) 36 = 0 := (fn (uZ_s _ _ _) (by decide))
              have hey429 : (uZ (uZ (uZ (uZ F9 33 (nx)) 37 (-1)) 36 (0)) 35 (0)) 37 = -1 := (fn (fn (uZ_s _ _ _) (by decide)) (by decide))
              have hey430 : (uZ (uZ (uZ (uZ F9 33 (nx)) 37 (-1)) 36 (0)) 35 (0)) 38 = F 38 := (fn (fn (fn (fn (f4 38 (by decide)) (by decide)) (by decide)) (by decide)) (by decide))
              have hrdy431 : RD (uZ (uZ (uZ (uZ F9 33 (nx)) 37 (-1)) 36 (0)) 35 (0)) := by unfold RD; omega
              exact z_vret C hr hlk dX10_go_291 (by decide) (by decide) ⟨rfl, rfl, rfl, ⟨_, hgy422, hrdy431, by omega, by omega, hFy423⟩, fun j j1 => by rw [egy421, va_up_ne _ _ (by omega)]; rw [egy234, va_up_ne _ _ (by omega)]; rw [egy231, va_up_ne _ _ (by omega)]; rw [egy225, va_up_ne _ _ (by omega)]; exact f3 j j1⟩
          · refine z_aload_n C 0 dX10_go_37 rfl ?_
            refine z_dup C dX10_go_38 rfl ?_
            refine z_get (v := .int (zI (nx))) C (by omega) hay3 f2 rfl inA_X10 32 (by decide) q_1491 rfl (fv (F := F9) (f := 32) fx0) dX10_go_39 ?_
            refine z_iconst (z := 1) C dX10_go_42 rfl ?_
            refine z_iadd C dX10_go_43 ?_
            refine z_put (fs' := mF ad (i) (uZ F9 32 (nx + 1))) C (by omega) hay3 f2 tyX10 tyX10_ok nmX10 rfl inA_X10 32 (by decide) q_1491 rfl rfl rfl rfl (Nat.le_of_ble_eq_true rfl) rfl dX10_go_44 (fun gy432 egy433 => ?_)
            have hgy434 := up_s egy433
            refine z_goto (tgt := 0) C dX10_go_47 (by decide) ?_
            have hFy435 : ∀ f, f ≠ 32 → (uZ F9 32 (nx + 1)) f = F f := fun f n32 => ((uZ_n _ _ n32).trans (f4 f n32))
            refine z_lv (lv' := [(0, .ref (ad i))]) [0] rfl ?_
            exact ih_lp0 _ (by omega) (nx + 1) _ gy432 rfl hgy434 (fun j j1 => by rw [egy433, va_up_ne _ _ (by omega)]; exact f3 j j1) (uZ_s _ _ _) hFy435 (by omega)
  have hFy436 : ∀ f, f ≠ 32 → F f = F f := fun f n32 => rfl
  refine z_lv (lv' := [(0, .ref (ad i))]) [0] rfl ?_
  exact lp0 _ (F 32) _ g rfl hg (fun j j1 => by rfl) rfl hFy436 (by omega)

set_option maxRecDepth 100000 in
set_option maxHeartbeats 4000000 in
theorem c_X10_wants (l : Launch) (D : va_G) (A : Nat → Prop) (cs : Nat → ClassId) (tt : Nat) (N : Nat) (ad : Nat → Nat) (g : Nat → va_E) (i : Nat) (hN : i + 30 ≤ N) (F : Nat → Int) (hg : g i = mC ad i F) (h38 : 0 ≤ F 38 ∧ F 38 ≤ 5) (z : Int) (hz : 0 ≤ z ∧ z ≤ 1) (z1 : Int) (hz1 : 1 ≤ z1 ∧ z1 ≤ 5) : zM l yX10_wants cX10_wants 3 (some .boolean) ({ frames := 1, cells := 0, slots := 0, locals := 60 } : Room) D A cs tt N ad g [.ref (ad i), .int (zI (z)), .int (zI (z1))] (rI0 N ad fun r g' => (∃ F' : Nat → Int, g' i = mC ad i F' ∧ ((r = 1 ∧ z ≠ 0 ∧ F 38 = 0 ∧ F' 38 = 0) ∨ (r = 0 ∧ 1 ≤ F' 38 ∧ (F 38 ≠ 0 ∨ z = 0))) ∧ (0 ≤ F' 38 ∧ F' 38 ≤ 5) ∧ (∀ f, f ≠ 24 → f ≠ 38 → F' f = F f)) ∧ ∀ j, j ≠ i → g' j = g j) := by
  have hay1 : zAt ad (i) (ad i) := rfl
  refine z_of (by decide) (Nat.le_of_ble_eq_true rfl) ?_
  intro pZ eZ sZ mZ below meth cZ C hr hlk hnm
  refine z_lv (lv' := [(0, .ref (ad i)), (1, .int (zI (z))), (2, .int (zI (z1)))]) [0, 1, 2] rfl ?_
  refine z_aload_n C 0 dX10_wants_0 rfl ?_
  refine z_get (v := .int (zI (F 38))) C (by omega) hay1 hg rfl inA_X10 38 (by decide) q_1497 rfl (fv (F := F) (f := 38) rfl) dX10_wants_1 ?_
  refine z_if_ne (tgt := 24) C dX10_wants_4 (by decide) (by omega) (fun hby2 => ?_) (fun hby2 => ?_)
  · refine z_aload_n C 0 dX10_wants_24 rfl ?_
    refine z_get (v := .int (zI (F 38))) C (by omega) hay1 hg rfl inA_X10 38 (by decide) q_1497 rfl (fv (F := F) (f := 38) rfl) dX10_wants_25 ?_
    refine z_if_ne (tgt := 35) C dX10_wants_28 (by decide) (by omega) (fun hby3 => ?_) (fun hby3 => ?_)
    · refine z_iconst (z := 0) C dX10_wants_35 rfl ?_
      have hFy4 : ∀ f, f ≠ 24 → f ≠ 38 → F f = F f := fun f n24 n38 => rfl
      have hey5 : F 38 = F 38 := rfl
      exact z_zret C hr hlk dX10_wants_36 (by decide) (by decide) (by decide) ⟨0, rfl, rfl, rfl, ⟨_, hg, by omega, by omega, hFy4⟩, fun j j1 => by rfl⟩
    · refine z_iconst (z := 1) C dX10_wants_31 rfl ?_
      refine z_goto (tgt := 36) C dX10_wants_32 (by decide) ?_
      have hFy6 : ∀ f, f ≠ 24 → f ≠ 38 → F f = F f := fun f n24 n38 => rfl
      have hey7 : F 38 = F 38 := rfl
      exact z_zret C hr hlk dX10_wants_36 (by decide) (by decide) (by decide) ⟨1, rfl, rfl, rfl, ⟨_, hg, by omega, by omega, hFy6⟩, fun j j1 => by rfl⟩
  · refine z_iload_n C 1 dX10_wants_7 rfl ?_
    refine z_if_ne (tgt := 24) C dX10_wants_8 (by decide) (by omega) (fun hby8 => ?_) (fun hby8 => ?_)
    · refine z_aload_n C 0 dX10_wants_24 rfl ?_
      refine z_get (v := .int (zI (F 38))) C (by omega) hay1 hg rfl inA_X10 38 (by decide) q_1497 rfl (fv (F := F) (f := 38) rfl) dX10_wants_25 ?_
      refine z_if_ne (tgt := 35) C dX10_wants_28 (by decide) (by omega) (fun hby9 => ?_) (fun hby9 => ?_)
      · refine z_iconst (z := 0) C dX10_wants_35 rfl ?_
        have hFy10 : ∀ f, f ≠ 24 → f ≠ 38 → F f = F f := fun f n24 n38 => rfl
        have hey11 : F 38 = F 38 := rfl
        exact z_zret C hr hlk dX10_wants_36 (by decide) (by decide) (by decide) ⟨0, rfl, rfl, rfl, ⟨_, hg, by omega, by omega, hFy10⟩, fun j j1 => by rfl⟩
      · refine z_iconst (z := 1) C dX10_wants_31 rfl ?_
        refine z_goto (tgt := 36) C dX10_wants_32 (by decide) ?_
        have hFy12 : ∀ f, f ≠ 24 → f ≠ 38 → F f = F f := fun f n24 n38 => rfl
        have hey13 : F 38 = F 38 := rfl
        exact z_zret C hr hlk dX10_wants_36 (by decide) (by decide) (by decide) ⟨1, rfl, rfl, rfl, ⟨_, hg, by omega, by omega, hFy12⟩, fun j j1 => by rfl⟩
    · refine z_aload_n C 0 dX10_wants_11 rfl ?_
      refine z_iload_n C 2 dX10_wants_12 rfl ?_
      refine z_put (fs' := mF ad (i) (uZ F 38 (z1))) C (by omega) hay1 hg tyX10 tyX10_ok nmX10 rfl inA_X10 38 (by decide) q_1497 rfl rfl rfl rfl (Nat.le_of_ble_eq_true rfl) rfl dX10_wants_13 (fun gy14 egy15 => ?_)
      have hgy16 := up_s egy15
      refine z_aload_n C 0 dX10_wants_16 rfl ?_
      refine z_aload_n C 0 dX10_wants_17 rfl ?_
      refine z_get (v := .int (zI (F 33))) C (by omega) hay1 hgy16 rfl inA_X10 33 (by decide) q_1492 rfl (fv (F := (uZ F 38 (z1))) (f := 33) (fn rfl (by decide))) dX10_wants_18 ?_
      refine z_put (fs' := mF ad (i) (uZ (uZ F 38 (z1)) 24 (F 33))) C (by omega) hay1 hgy16 tyX10 tyX10_ok nmX10 rfl inA_X10 24 (by decide) q_1483 rfl rfl rfl rfl (Nat.le_of_ble_eq_true rfl) rfl dX10_wants_21 (fun gy17 egy18 => ?_)
      have hgy19 := up_s egy18
      refine z_aload_n C 0 dX10_wants_24 rfl ?_
      refine z_get (v := .int (zI (z1))) C (by omega) hay1 hgy19 rfl inA_X10 38 (by decide) q_1497 rfl (fv (F := (uZ (uZ F 38 (z1)) 24 (F 33))) (f := 38) (fn (uZ_s _ _ _) (by decide))) dX10_wants_25 ?_
      refine z_if_ne (tgt := 35) C dX10_wants_28 (by decide) (by omega) (fun hby20 => ?_) (fun hby20 => ?_)
      · refine z_iconst (z := 0) C dX10_wants_35 rfl ?_
        have hFy21 : ∀ f, f ≠ 24 → f ≠ 38 → (uZ (uZ F 38 (z1)) 24 (F 33)) f = F f := fun f n24 n38 => ((uZ_n _ _ n24).trans ((uZ_n _ _ n38).trans rfl))
        have hey22 : (uZ (uZ F 38 (z1)) 24 (F 33)) 38 = z1 := (fn (uZ_s _ _ _) (by decide))
        exact z_zret C hr hlk dX10_wants_36 (by decide) (by decide) (by decide) ⟨0, rfl, rfl, rfl, ⟨_, hgy19, by omega, by omega, hFy21⟩, fun j j1 => by rw [egy18, va_up_ne _ _ (by omega)]; rw [egy15, va_up_ne _ _ (by omega)]⟩
      · refine z_iconst (z := 1) C dX10_wants_31 rfl ?_
        refine z_goto (tgt := 36) C dX10_wants_32 (by decide) ?_
        have hFy23 : ∀ f, f ≠ 24 → f ≠ 38 → (uZ (uZ F 38 (z1)) 24 (F 33)) f = F f := fun f n24 n38 => ((uZ_n _ _ n24).trans ((uZ_n _ _ n38).trans rfl))
        have hey24 : (uZ (uZ F 38 (z1)) 24 (F 33)) 38 = z1 := (fn (uZ_s _ _ _) (by decide))
        exact z_zret C hr hlk dX10_wants_36 (by decide) (by decide) (by decide) ⟨1, rfl, rfl, rfl, ⟨_, hgy19, by omega, by omega, hFy23⟩, fun j j1 => by rw [egy18, va_up_ne _ _ (by omega)]; rw [egy15, va_up_ne _ _ (by omega)]⟩

set_option maxRecDepth 100000 in
set_option maxHeartbeats 4000000 in
theorem c_X10_number (l : Launch) (D : va_G) (A : Nat → Prop) (cs : Nat → ClassId) (tt : Nat) (N : Nat) (ad : Nat → Nat) (g : Nat → va_E) (i : Nat) (hN : i + 30 ≤ N) (F : Nat → Int) (hg : g i = mC ad i F) (tp : Nat → Int) (ha13 : g (i + 13) = iA cs 900 tp) (htp : ∀ k, k < 900 → 0 ≤ tp k ∧ tp k ≤ 255) (hRD : RD F) (z : Int) (hz : 0 ≤ z ∧ z ≤ 9999) (z1 : Int) (hz1 : z ≤ z1 ∧ z1 ≤ 9999) : zM l yX10_number cX10_number 4 (some .int) ({ frames := 4, cells := 0, slots := 0, locals := 240 } : Room) D A cs tt N ad g [.ref (ad i), .int (zI (z)), .int (zI (z1))] (rI0 N ad fun r g' => (z ≤ r ∧ r ≤ z1) ∧ (∃ F' : Nat → Int, g' i = mC ad i F' ∧ RD F' ∧ F 32 ≤ F' 32 ∧ (F' 38 = 0 → F 38 = 0 ∧ F 35 = 2) ∧ (∀ f, f ≠ 24 → f ≠ 32 → f ≠ 33 → f ≠ 35 → f ≠ 36 → f ≠ 37 → f ≠ 38 → F' f = F f)) ∧ ∀ j, j ≠ i → g' j = g j) := by
  have hay1 : zAt ad (i) (ad i) := rfl
  have hay2 : zAt ad (i + 13) (ad (i + 13)) := rfl
  obtain ⟨d32, d33, d35, d36, d2, d37, d38⟩ := id hRD
  refine z_of (by decide) (Nat.le_of_ble_eq_true rfl) ?_
  intro pZ eZ sZ mZ below meth cZ C hr hlk hnm
  refine z_lv (lv' := [(0, .ref (ad i)), (1, .int (zI (z))), (2, .int (zI (z1)))]) [0, 1, 2] rfl ?_
  refine z_aload_n C 0 dX10_number_0 rfl ?_
  refine z_aload_n C 0 dX10_number_1 rfl ?_
  refine z_get (v := .int (zI (F 35))) C (by omega) hay1 hg rfl inA_X10 35 (by decide) q_1494 rfl (fv (F := F) (f := 35) rfl) dX10_number_2 ?_
  refine z_iconst (z := 2) C dX10_number_5 rfl ?_
  refine z_icmp_ne (tgt := 13) C dX10_number_6 (by decide) (by omega) (by omega) (fun hby3 => ?_) (fun hby3 => ?_)
  · refine z_iconst (z := 0) C dX10_number_13 rfl ?_
    refine z_iconst (z := 1) C dX10_number_14 rfl ?_
    have h38vy4 : F 38 = F 38 := rfl
    refine z_cV (As := [.int (zI (0)), .int (zI (1))]) (rest := []) (ci := 12) C (c_X10_wants l D A cs tt N ad _ i hN _ hg (by omega) (0) (by omega) (1) (by omega)) (by omega) hay1 hg rfl rfl mv_yX10_wants q_1678 hd_yX10_wants (by decide) (Nat.le_of_ble_eq_true rfl) (by decide) dX10_number_15 rfl (kI0 fun vy4 gvy4 hvy4 => ?_)
    obtain ⟨⟨Fvy4, hcvy4, hqvy4, hbvy4, hFvy4⟩, hfvy4⟩ := hvy4
    refine z_if_eq (tgt := 38) C dX10_number_18 (by decide) (by omega) (fun hby5 => ?_) (fun hby5 => ?_)
    · refine z_iload_n C 1 dX10_number_38 rfl ?_
      have hFy6 : ∀ f, f ≠ 24 → f ≠ 32 → f ≠ 33 → f ≠ 35 → f ≠ 36 → f ≠ 37 → f ≠ 38 → Fvy4 f = F f := fun f n24 n32 n33 n35 n36 n37 n38 => (hFvy4 f n24 n38)
      have hey7 : Fvy4 32 = F 32 := (hFvy4 32 (by decide) (by decide))
      have hey8 : Fvy4 33 = F 33 := (hFvy4 33 (by decide) (by decide))
      have hey9 : Fvy4 34 = F 34 := (hFvy4 34 (by decide) (by decide))
      have hey10 : Fvy4 35 = F 35 := (hFvy4 35 (by decide) (by decide))
      have hey11 : Fvy4 36 = F 36 := (hFvy4 36 (by decide) (by decide))
      have hey12 : Fvy4 37 = F 37 := (hFvy4 37 (by decide) (by decide))
      have hey13 : Fvy4 38 = Fvy4 38 := rfl
      have hrdy14 : RD Fvy4 := by unfold RD; omega
      exact z_iret C hr hlk dX10_number_39 (by decide) (by decide) ⟨z, rfl, rfl, rfl, by omega, ⟨_, hcvy4, hrdy14, by omega, by omega, hFy6⟩, fun j j1 => by rw [hfvy4 _ (by omega)]⟩
    · refine z_aload_n C 0 dX10_number_21 rfl ?_
      refine z_aload_n C 0 dX10_number_22 rfl ?_
      refine z_get (v := .int (zI (F 36))) C (by omega) hay1 hcvy4 rfl inA_X10 36 (by decide) q_1495 rfl (fv (F := Fvy4) (f := 36) (hFvy4 36 (by decide) (by decide))) dX10_number_23 ?_
      refine z_iload_n C 1 dX10_number_26 rfl ?_
      refine z_iload_n C 2 dX10_number_27 rfl ?_
      refine z_cS (As := [.int (zI (F 36)), .int (zI (z)), .int (zI (z1))]) (rest := [.ref (ad i)]) C (c_X10_within l D A cs tt N ad _ (F 36) (by omega) (z) (by omega) (z1) (by omega)) ms_yX10_within q_1686 hd_yX10_within (by decide) (Nat.le_of_ble_eq_true rfl) (by decide) dX10_number_28 rfl (kI0 fun vy15 gvy15 hvy15 => ?_)
      obtain ⟨hvy15, rfl⟩ := hvy15
      refine z_iconst (z := 2) C dX10_number_31 rfl ?_
      have h38vy16 : Fvy4 38 = Fvy4 38 := rfl
      refine z_cV (As := [.int (zI (vy15)), .int (zI (2))]) (rest := []) (ci := 12) C (c_X10_wants l D A cs tt N ad _ i hN _ hcvy4 (by omega) (vy15) (by omega) (2) (by omega)) (by omega) hay1 hcvy4 rfl rfl mv_yX10_wants q_1678 hd_yX10_wants (by decide) (Nat.le_of_ble_eq_true rfl) (by decide) dX10_number_32 rfl (kI0 fun vy16 gvy16 hvy16 => ?_)
      obtain ⟨⟨Fvy16, hcvy16, hqvy16, hbvy16, hFvy16⟩, hfvy16⟩ := hvy16
      refine z_if_ne (tgt := 40) C dX10_number_35 (by decide) (by omega) (fun hby17 => ?_) (fun hby17 => ?_)
      · refine z_aload_n C 0 dX10_number_40 rfl ?_
        refine z_get (v := .int (zI (F 36))) C (by omega) hay1 hcvy16 rfl inA_X10 36 (by decide) q_1495 rfl (fv (F := Fvy16) (f := 36) ((hFvy16 36 (by decide) (by decide)).trans (hFvy4 36 (by decide) (by decide)))) dX10_number_41 ?_
        refine z_istore_n (lv' := [(3, .int (zI (F 36))), (0, .ref (ad i)), (1, .int (zI (z))), (2, .int (zI (z1)))]) C dX10_number_44 rfl (by decide) rfl ?_
        refine z_aload_n C 1 dX10_number_45 rfl ?_
        have hey18 : Fvy16 32 = F 32 := ((hFvy16 32 (by decide) (by decide)).trans (hFvy4 32 (by decide) (by decide)))
        have hey19 : Fvy16 33 = F 33 := ((hFvy16 33 (by decide) (by decide)).trans (hFvy4 33 (by decide) (by decide)))
        have hey20 : Fvy16 34 = F 34 := ((hFvy16 34 (by decide) (by decide)).trans (hFvy4 34 (by decide) (by decide)))
        have hey21 : Fvy16 35 = F 35 := ((hFvy16 35 (by decide) (by decide)).trans (hFvy4 35 (by decide) (by decide)))
        have hey22 : Fvy16 36 = F 36 := ((hFvy16 36 (by decide) (by decide)).trans (hFvy4 36 (by decide) (by decide)))
        have hey23 : Fvy16 37 = F 37 := ((hFvy16 37 (by decide) (by decide)).trans (hFvy4 37 (by decide) (by decide)))
        have hey24 : Fvy16 38 = Fvy16 38 := rfl
        have hrdy25 : RD Fvy16 := by unfold RD; omega
        have hgy26 := (hfvy4 (i + 13) (ne_o (i := i) (c := 13) (d := 0) rfl)).trans ha13
        have hgy27 := (hfvy16 (i + 13) (ne_o (i := i) (c := 13) (d := 0) rfl)).trans hgy26
        refine z_cV (As := []) (rest := []) (ci := 12) C (c_X10_go l D A cs tt N ad _ i hN _ hcvy16 _ hgy27 htp hrdy25) (by omega) hay1 hcvy16 rfl rfl mv_yX10_go q_1652 hd_yX10_go (by decide) (Nat.le_of_ble_eq_true rfl) (by decide) dX10_number_46 rfl (kV0 fun gvy28 hvy28 => ?_)
        obtain ⟨⟨Fvy28, hcvy28, hdvy28, hlvy28, hsvy28, hFvy28⟩, hfvy28⟩ := hvy28
        have h32vy28 : Fvy16 32 = F 32 := ((hFvy16 32 (by decide) (by decide)).trans (hFvy4 32 (by decide) (by decide)))
        have h34vy28 : Fvy28 34 = F 34 := (hFvy28 34 (by decide) (by decide) (by decide) (by decide) (by decide)).trans (((hFvy16 34 (by decide) (by decide)).trans (hFvy4 34 (by decide) (by decide))))
        obtain ⟨d32vy28, d33vy28, d35vy28, d36vy28, d2vy28, d37vy28, d38vy28⟩ := id hdvy28
        have h38vy28 : Fvy28 38 = Fvy16 38 := (hFvy28 38 (by decide) (by decide) (by decide) (by decide) (by decide))
        refine z_iload_n C 0 dX10_number_49 rfl ?_
        have hFy29 : ∀ f, f ≠ 24 → f ≠ 32 → f ≠ 33 → f ≠ 35 → f ≠ 36 → f ≠ 37 → f ≠ 38 → Fvy28 f = F f := fun f n24 n32 n33 n35 n36 n37 n38 => ((hFvy28 f n32 n33 n35 n36 n37).trans ((hFvy16 f n24 n38).trans (hFvy4 f n24 n38)))
        have hey30 : Fvy28 32 = Fvy28 32 := rfl
        have hey31 : Fvy28 33 = Fvy28 33 := rfl
        have hey32 : Fvy28 34 = F 34 := ((hFvy28 34 (by decide) (by decide) (by decide) (by decide) (by decide)).trans ((hFvy16 34 (by decide) (by decide)).trans (hFvy4 34 (by decide) (by decide))))
        have hey33 : Fvy28 35 = Fvy28 35 := rfl
        have hey34 : Fvy28 36 = Fvy28 36 := rfl
        have hey35 : Fvy28 37 = Fvy28 37 := rfl
        have hey36 : Fvy28 38 = Fvy16 38 := (hFvy28 38 (by decide) (by decide) (by decide) (by decide) (by decide))
        have hrdy37 : RD Fvy28 := by unfold RD; omega
        exact z_iret C hr hlk dX10_number_50 (by decide) (by decide) ⟨F 36, rfl, rfl, rfl, by omega, ⟨_, hcvy28, hrdy37, by omega, by omega, hFy29⟩, fun j j1 => by rw [hfvy28 _ (by omega)]; rw [hfvy16 _ (by omega)]; rw [hfvy4 _ (by omega)]⟩
      · refine z_iload_n C 1 dX10_number_38 rfl ?_
        have hFy38 : ∀ f, f ≠ 24 → f ≠ 32 → f ≠ 33 → f ≠ 35 → f ≠ 36 → f ≠ 37 → f ≠ 38 → Fvy16 f = F f := fun f n24 n32 n33 n35 n36 n37 n38 => ((hFvy16 f n24 n38).trans (hFvy4 f n24 n38))
        have hey39 : Fvy16 32 = F 32 := ((hFvy16 32 (by decide) (by decide)).trans (hFvy4 32 (by decide) (by decide)))
        have hey40 : Fvy16 33 = F 33 := ((hFvy16 33 (by decide) (by decide)).trans (hFvy4 33 (by decide) (by decide)))
        have hey41 : Fvy16 34 = F 34 := ((hFvy16 34 (by decide) (by decide)).trans (hFvy4 34 (by decide) (by decide)))
        have hey42 : Fvy16 35 = F 35 := ((hFvy16 35 (by decide) (by decide)).trans (hFvy4 35 (by decide) (by decide)))
        have hey43 : Fvy16 36 = F 36 := ((hFvy16 36 (by decide) (by decide)).trans (hFvy4 36 (by decide) (by decide)))
        have hey44 : Fvy16 37 = F 37 := ((hFvy16 37 (by decide) (by decide)).trans (hFvy4 37 (by decide) (by decide)))
        have hey45 : Fvy16 38 = Fvy16 38 := rfl
        have hrdy46 : RD Fvy16 := by unfold RD; omega
        exact z_iret C hr hlk dX10_number_39 (by decide) (by decide) ⟨z, rfl, rfl, rfl, by omega, ⟨_, hcvy16, hrdy46, by omega, by omega, hFy38⟩, fun j j1 => by rw [hfvy16 _ (by omega)]; rw [hfvy4 _ (by omega)]⟩
  · refine z_iconst (z := 1) C dX10_number_9 rfl ?_
    refine z_goto (tgt := 14) C dX10_number_10 (by decide) ?_
    refine z_iconst (z := 1) C dX10_number_14 rfl ?_
    have h38vy47 : F 38 = F 38 := rfl
    refine z_cV (As := [.int (zI (1)), .int (zI (1))]) (rest := []) (ci := 12) C (c_X10_wants l D A cs tt N ad _ i hN _ hg (by omega) (1) (by omega) (1) (by omega)) (by omega) hay1 hg rfl rfl mv_yX10_wants q_1678 hd_yX10_wants (by decide) (Nat.le_of_ble_eq_true rfl) (by decide) dX10_number_15 rfl (kI0 fun vy47 gvy47 hvy47 => ?_)
    obtain ⟨⟨Fvy47, hcvy47, hqvy47, hbvy47, hFvy47⟩, hfvy47⟩ := hvy47
    refine z_if_eq (tgt := 38) C dX10_number_18 (by decide) (by omega) (fun hby48 => ?_) (fun hby48 => ?_)
    · refine z_iload_n C 1 dX10_number_38 rfl ?_
      have hFy49 : ∀ f, f ≠ 24 → f ≠ 32 → f ≠ 33 → f ≠ 35 → f ≠ 36 → f ≠ 37 → f ≠ 38 → Fvy47 f = F f := fun f n24 n32 n33 n35 n36 n37 n38 => (hFvy47 f n24 n38)
      have hey50 : Fvy47 32 = F 32 := (hFvy47 32 (by decide) (by decide))
      have hey51 : Fvy47 33 = F 33 := (hFvy47 33 (by decide) (by decide))
      have hey52 : Fvy47 34 = F 34 := (hFvy47 34 (by decide) (by decide))
      have hey53 : Fvy47 35 = F 35 := (hFvy47 35 (by decide) (by decide))
      have hey54 : Fvy47 36 = F 36 := (hFvy47 36 (by decide) (by decide))
      have hey55 : Fvy47 37 = F 37 := (hFvy47 37 (by decide) (by decide))
      have hey56 : Fvy47 38 = Fvy47 38 := rfl
      have hrdy57 : RD Fvy47 := by unfold RD; omega
      exact z_iret C hr hlk dX10_number_39 (by decide) (by decide) ⟨z, rfl, rfl, rfl, by omega, ⟨_, hcvy47, hrdy57, by omega, by omega, hFy49⟩, fun j j1 => by rw [hfvy47 _ (by omega)]⟩
    · refine z_aload_n C 0 dX10_number_21 rfl ?_
      refine z_aload_n C 0 dX10_number_22 rfl ?_
      refine z_get (v := .int (zI (F 36))) C (by omega) hay1 hcvy47 rfl inA_X10 36 (by decide) q_1495 rfl (fv (F := Fvy47) (f := 36) (hFvy47 36 (by decide) (by decide))) dX10_number_23 ?_
      refine z_iload_n C 1 dX10_number_26 rfl ?_
      refine z_iload_n C 2 dX10_number_27 rfl ?_
      refine z_cS (As := [.int (zI (F 36)), .int (zI (z)), .int (zI (z1))]) (rest := [.ref (ad i)]) C (c_X10_within l D A cs tt N ad _ (F 36) (by omega) (z) (by omega) (z1) (by omega)) ms_yX10_within q_1686 hd_yX10_within (by decide) (Nat.le_of_ble_eq_true rfl) (by decide) dX10_number_28 rfl (kI0 fun vy58 gvy58 hvy58 => ?_)
      obtain ⟨hvy58, rfl⟩ := hvy58
      refine z_iconst (z := 2) C dX10_number_31 rfl ?_
      have h38vy59 : Fvy47 38 = Fvy47 38 := rfl
      refine z_cV (As := [.int (zI (vy58)), .int (zI (2))]) (rest := []) (ci := 12) C (c_X10_wants l D A cs tt N ad _ i hN _ hcvy47 (by omega) (vy58) (by omega) (2) (by omega)) (by omega) hay1 hcvy47 rfl rfl mv_yX10_wants q_1678 hd_yX10_wants (by decide) (Nat.le_of_ble_eq_true rfl) (by decide) dX10_number_32 rfl (kI0 fun vy59 gvy59 hvy59 => ?_)
      obtain ⟨⟨Fvy59, hcvy59, hqvy59, hbvy59, hFvy59⟩, hfvy59⟩ := hvy59
      refine z_if_ne (tgt := 40) C dX10_number_35 (by decide) (by omega) (fun hby60 => ?_) (fun hby60 => ?_)
      · refine z_aload_n C 0 dX10_number_40 rfl ?_
        refine z_get (v := .int (zI (F 36))) C (by omega) hay1 hcvy59 rfl inA_X10 36 (by decide) q_1495 rfl (fv (F := Fvy59) (f := 36) ((hFvy59 36 (by decide) (by decide)).trans (hFvy47 36 (by decide) (by decide)))) dX10_number_41 ?_
        refine z_istore_n (lv' := [(3, .int (zI (F 36))), (0, .ref (ad i)), (1, .int (zI (z))), (2, .int (zI (z1)))]) C dX10_number_44 rfl (by decide) rfl ?_
        refine z_aload_n C 1 dX10_number_45 rfl ?_
        have hey61 : Fvy59 32 = F 32 := ((hFvy59 32 (by decide) (by decide)).trans (hFvy47 32 (by decide) (by decide)))
        have hey62 : Fvy59 33 = F 33 := ((hFvy59 33 (by decide) (by decide)).trans (hFvy47 33 (by decide) (by decide)))
        have hey63 : Fvy59 34 = F 34 := ((hFvy59 34 (by decide) (by decide)).trans (hFvy47 34 (by decide) (by decide)))
        have hey64 : Fvy59 35 = F 35 := ((hFvy59 35 (by decide) (by decide)).trans (hFvy47 35 (by decide) (by decide)))
        have hey65 : Fvy59 36 = F 36 := ((hFvy59 36 (by decide) (by decide)).trans (hFvy47 36 (by decide) (by decide)))
        have hey66 : Fvy59 37 = F 37 := ((hFvy59 37 (by decide) (by decide)).trans (hFvy47 37 (by decide) (by decide)))
        have hey67 : Fvy59 38 = Fvy59 38 := rfl
        have hrdy68 : RD Fvy59 := by unfold RD; omega
        have hgy69 := (hfvy47 (i + 13) (ne_o (i := i) (c := 13) (d := 0) rfl)).trans ha13
        have hgy70 := (hfvy59 (i + 13) (ne_o (i := i) (c := 13) (d := 0) rfl)).trans hgy69
        refine z_cV (As := []) (rest := []) (ci := 12) C (c_X10_go l D A cs tt N ad _ i hN _ hcvy59 _ hgy70 htp hrdy68) (by omega) hay1 hcvy59 rfl rfl mv_yX10_go q_1652 hd_yX10_go (by decide) (Nat.le_of_ble_eq_true rfl) (by decide) dX10_number_46 rfl (kV0 fun gvy71 hvy71 => ?_)
        obtain ⟨⟨Fvy71, hcvy71, hdvy71, hlvy71, hsvy71, hFvy71⟩, hfvy71⟩ := hvy71
        have h32vy71 : Fvy59 32 = F 32 := ((hFvy59 32 (by decide) (by decide)).trans (hFvy47 32 (by decide) (by decide)))
        have h34vy71 : Fvy71 34 = F 34 := (hFvy71 34 (by decide) (by decide) (by decide) (by decide) (by decide)).trans (((hFvy59 34 (by decide) (by decide)).trans (hFvy47 34 (by decide) (by decide))))
        obtain ⟨d32vy71, d33vy71, d35vy71, d36vy71, d2vy71, d37vy71, d38vy71⟩ := id hdvy71
        have h38vy71 : Fvy71 38 = Fvy59 38 := (hFvy71 38 (by decide) (by decide) (by decide) (by decide) (by decide))
        refine z_iload_n C 0 dX10_number_49 rfl ?_
        have hFy72 : ∀ f, f ≠ 24 → f ≠ 32 → f ≠ 33 → f ≠ 35 → f ≠ 36 → f ≠ 37 → f ≠ 38 → Fvy71 f = F f := fun f n24 n32 n33 n35 n36 n37 n38 => ((hFvy71 f n32 n33 n35 n36 n37).trans ((hFvy59 f n24 n38).trans (hFvy47 f n24 n38)))
        have hey73 : Fvy71 32 = Fvy71 32 := rfl
        have hey74 : Fvy71 33 = Fvy71 33 := rfl
        have hey75 : Fvy71 34 = F 34 := ((hFvy71 34 (by decide) (by decide) (by decide) (by decide) (by decide)).trans ((hFvy59 34 (by decide) (by decide)).trans (hFvy47 34 (by decide) (by decide))))
        have hey76 : Fvy71 35 = Fvy71 35 := rfl
        have hey77 : Fvy71 36 = Fvy71 36 := rfl
        have hey78 : Fvy71 37 = Fvy71 37 := rfl
        have hey79 : Fvy71 38 = Fvy59 38 := (hFvy71 38 (by decide) (by decide) (by decide) (by decide) (by decide))
        have hrdy80 : RD Fvy71 := by unfold RD; omega
        exact z_iret C hr hlk dX10_number_50 (by decide) (by decide) ⟨F 36, rfl, rfl, rfl, by omega, ⟨_, hcvy71, hrdy80, by omega, by omega, hFy72⟩, fun j j1 => by rw [hfvy71 _ (by omega)]; rw [hfvy59 _ (by omega)]; rw [hfvy47 _ (by omega)]⟩
      · refine z_iload_n C 1 dX10_number_38 rfl ?_
        have hFy81 : ∀ f, f ≠ 24 → f ≠ 32 → f ≠ 33 → f ≠ 35 → f ≠ 36 → f ≠ 37 → f ≠ 38 → Fvy59 f = F f := fun f n24 n32 n33 n35 n36 n37 n38 => ((hFvy59 f n24 n38).trans (hFvy47 f n24 n38))
        have hey82 : Fvy59 32 = F 32 := ((hFvy59 32 (by decide) (by decide)).trans (hFvy47 32 (by decide) (by decide)))
        have hey83 : Fvy59 33 = F 33 := ((hFvy59 33 (by decide) (by decide)).trans (hFvy47 33 (by decide) (by decide)))
        have hey84 : Fvy59 34 = F 34 := ((hFvy59 34 (by decide) (by decide)).trans (hFvy47 34 (by decide) (by decide)))
        have hey85 : Fvy59 35 = F 35 := ((hFvy59 35 (by decide) (by decide)).trans (hFvy47 35 (by decide) (by decide)))
        have hey86 : Fvy59 36 = F 36 := ((hFvy59 36 (by decide) (by decide)).trans (hFvy47 36 (by decide) (by decide)))
        have hey87 : Fvy59 37 = F 37 := ((hFvy59 37 (by decide) (by decide)).trans (hFvy47 37 (by decide) (by decide)))
        have hey88 : Fvy59 38 = Fvy59 38 := rfl
        have hrdy89 : RD Fvy59 := by unfold RD; omega
        exact z_iret C hr hlk dX10_number_39 (by decide) (by decide) ⟨z, rfl, rfl, rfl, by omega, ⟨_, hcvy59, hrdy89, by omega, by omega, hFy81⟩, fun j j1 => by rw [hfvy59 _ (by omega)]; rw [hfvy47 _ (by omega)]⟩

set_option maxRecDepth 100000 in
set_option maxHeartbeats 4000000 in
theorem c_X10_is (l : Launch) (D : va_G) (A : Nat → Prop) (cs : Nat → ClassId) (tt : Nat) (N : Nat) (ad : Nat → Nat) (g : Nat → va_E) (i : Nat) (hN : i + 30 ≤ N) (F : Nat → Int) (hg : g i = mC ad i F) (hRD : RD F) (z : Int) (hz : -2147483648 ≤ z ∧ z ≤ 2147483647) : zM l yX10_is cX10_is 2 (some .boolean) ({ frames := 1, cells := 0, slots := 0, locals := 60 } : Room) D A cs tt N ad g [.ref (ad i), .int (zI (z))] (rI0 N ad fun r g' => (0 ≤ r ∧ r ≤ 1) ∧ (r = 1 → F 38 = 0 ∧ F 35 = 1 ∧ F 37 = z) ∧ g = g') := by
  have hay1 : zAt ad (i) (ad i) := rfl
  obtain ⟨d32, d33, d35, d36, d2, d37, d38⟩ := id hRD
  refine z_of (by decide) (Nat.le_of_ble_eq_true rfl) ?_
  intro pZ eZ sZ mZ below meth cZ C hr hlk hnm
  refine z_lv (lv' := [(0, .ref (ad i)), (1, .int (zI (z)))]) [0, 1] rfl ?_
  refine z_aload_n C 0 dX10_is_0 rfl ?_
  refine z_get (v := .int (zI (F 38))) C (by omega) hay1 hg rfl inA_X10 38 (by decide) q_1497 rfl (fv (F := F) (f := 38) rfl) dX10_is_1 ?_
  refine z_if_ne (tgt := 27) C dX10_is_4 (by decide) (by omega) (fun hby2 => ?_) (fun hby2 => ?_)
  · refine z_iconst (z := 0) C dX10_is_27 rfl ?_
    exact z_zret C hr hlk dX10_is_28 (by decide) (by decide) (by decide) ⟨0, rfl, rfl, rfl, by omega, by omega, rfl⟩
  · refine z_aload_n C 0 dX10_is_7 rfl ?_
    refine z_get (v := .int (zI (F 35))) C (by omega) hay1 hg rfl inA_X10 35 (by decide) q_1494 rfl (fv (F := F) (f := 35) rfl) dX10_is_8 ?_
    refine z_iconst (z := 1) C dX10_is_11 rfl ?_
    refine z_icmp_ne (tgt := 27) C dX10_is_12 (by decide) (by omega) (by omega) (fun hby3 => ?_) (fun hby3 => ?_)
    · refine z_iconst (z := 0) C dX10_is_27 rfl ?_
      exact z_zret C hr hlk dX10_is_28 (by decide) (by decide) (by decide) ⟨0, rfl, rfl, rfl, by omega, by omega, rfl⟩
    · refine z_aload_n C 0 dX10_is_15 rfl ?_
      refine z_get (v := .int (zI (F 37))) C (by omega) hay1 hg rfl inA_X10 37 (by decide) q_1496 rfl (fv (F := F) (f := 37) rfl) dX10_is_16 ?_
      refine z_iload_n C 1 dX10_is_19 rfl ?_
      refine z_icmp_ne (tgt := 27) C dX10_is_20 (by decide) (by omega) (by omega) (fun hby4 => ?_) (fun hby4 => ?_)
      · refine z_iconst (z := 0) C dX10_is_27 rfl ?_
        exact z_zret C hr hlk dX10_is_28 (by decide) (by decide) (by decide) ⟨0, rfl, rfl, rfl, by omega, by omega, rfl⟩
      · refine z_iconst (z := 1) C dX10_is_23 rfl ?_
        refine z_goto (tgt := 28) C dX10_is_24 (by decide) ?_
        exact z_zret C hr hlk dX10_is_28 (by decide) (by decide) (by decide) ⟨1, rfl, rfl, rfl, by omega, by omega, rfl⟩

set_option maxRecDepth 100000 in
set_option maxHeartbeats 4000000 in
theorem c_X10_isKind (l : Launch) (D : va_G) (A : Nat → Prop) (cs : Nat → ClassId) (tt : Nat) (N : Nat) (ad : Nat → Nat) (g : Nat → va_E) (i : Nat) (hN : i + 30 ≤ N) (F : Nat → Int) (hg : g i = mC ad i F) (hRD : RD F) : zM l yX10_isKind cX10_isKind 1 (some .boolean) ({ frames := 2, cells := 0, slots := 0, locals := 120 } : Room) D A cs tt N ad g [.ref (ad i)] (rI0 N ad fun r g' => (0 ≤ r ∧ r ≤ 1) ∧ (r = 1 → F 35 = 1 ∧ ((9 ≤ F 37 ∧ F 37 ≤ 12) ∨ F 37 = 5)) ∧ g = g') := by
  have hay1 : zAt ad (i) (ad i) := rfl
  obtain ⟨d32, d33, d35, d36, d2, d37, d38⟩ := id hRD
  refine z_of (by decide) (Nat.le_of_ble_eq_true rfl) ?_
  intro pZ eZ sZ mZ below meth cZ C hr hlk hnm
  refine z_lv (lv' := [(0, .ref (ad i))]) [0] rfl ?_
  refine z_aload_n C 0 dX10_isKind_0 rfl ?_
  refine z_get (v := .int (zI (F 35))) C (by omega) hay1 hg rfl inA_X10 35 (by decide) q_1494 rfl (fv (F := F) (f := 35) rfl) dX10_isKind_1 ?_
  refine z_iconst (z := 1) C dX10_isKind_4 rfl ?_
  refine z_icmp_ne (tgt := 34) C dX10_isKind_5 (by decide) (by omega) (by omega) (fun hby2 => ?_) (fun hby2 => ?_)
  · refine z_iconst (z := 0) C dX10_isKind_34 rfl ?_
    exact z_zret C hr hlk dX10_isKind_35 (by decide) (by decide) (by decide) ⟨0, rfl, rfl, rfl, by omega, by omega, rfl⟩
  · refine z_aload_n C 0 dX10_isKind_8 rfl ?_
    refine z_get (v := .int (zI (F 37))) C (by omega) hay1 hg rfl inA_X10 37 (by decide) q_1496 rfl (fv (F := F) (f := 37) rfl) dX10_isKind_9 ?_
    refine z_bipush (z := 9) C dX10_isKind_12 (by decide) ?_
    refine z_bipush (z := 12) C dX10_isKind_14 (by decide) ?_
    refine z_cS (As := [.int (zI (F 37)), .int (zI (9)), .int (zI (12))]) (rest := []) C (c_X10_within l D A cs tt N ad _ (F 37) (by omega) (9) (by omega) (12) (by omega)) ms_yX10_within q_1686 hd_yX10_within (by decide) (Nat.le_of_ble_eq_true rfl) (by decide) dX10_isKind_16 rfl (kI0 fun vy3 gvy3 hvy3 => ?_)
    obtain ⟨hvy3, rfl⟩ := hvy3
    refine z_if_ne (tgt := 30) C dX10_isKind_19 (by decide) (by omega) (fun hby4 => ?_) (fun hby4 => ?_)
    · refine z_iconst (z := 1) C dX10_isKind_30 rfl ?_
      refine z_goto (tgt := 35) C dX10_isKind_31 (by decide) ?_
      exact z_zret C hr hlk dX10_isKind_35 (by decide) (by decide) (by decide) ⟨1, rfl, rfl, rfl, by omega, by omega, rfl⟩
    · refine z_aload_n C 0 dX10_isKind_22 rfl ?_
      refine z_get (v := .int (zI (F 37))) C (by omega) hay1 hg rfl inA_X10 37 (by decide) q_1496 rfl (fv (F := F) (f := 37) rfl) dX10_isKind_23 ?_
      refine z_iconst (z := 5) C dX10_isKind_26 rfl ?_
      refine z_icmp_ne (tgt := 34) C dX10_isKind_27 (by decide) (by omega) (by omega) (fun hby5 => ?_) (fun hby5 => ?_)
      · refine z_iconst (z := 0) C dX10_isKind_34 rfl ?_
        exact z_zret C hr hlk dX10_isKind_35 (by decide) (by decide) (by decide) ⟨0, rfl, rfl, rfl, by omega, by omega, rfl⟩
      · refine z_iconst (z := 1) C dX10_isKind_30 rfl ?_
        refine z_goto (tgt := 35) C dX10_isKind_31 (by decide) ?_
        exact z_zret C hr hlk dX10_isKind_35 (by decide) (by decide) (by decide) ⟨1, rfl, rfl, rfl, by omega, by omega, rfl⟩

set_option maxRecDepth 100000 in
set_option maxHeartbeats 4000000 in
theorem c_X10_kindHere (l : Launch) (D : va_G) (A : Nat → Prop) (cs : Nat → ClassId) (tt : Nat) (N : Nat) (ad : Nat → Nat) (g : Nat → va_E) (i : Nat) (hN : i + 30 ≤ N) (F : Nat → Int) (hg : g i = mC ad i F) (hRD : RD F) : zM l yX10_kindHere cX10_kindHere 1 (some .int) ({ frames := 1, cells := 0, slots := 0, locals := 60 } : Room) D A cs tt N ad g [.ref (ad i)] (rI0 N ad fun r g' => ((F 37 = 5 ∧ r = 4) ∨ (F 37 ≠ 5 ∧ r = F 37 - 9)) ∧ g = g') := by
  have hay1 : zAt ad (i) (ad i) := rfl
  obtain ⟨d32, d33, d35, d36, d2, d37, d38⟩ := id hRD
  refine z_of (by decide) (Nat.le_of_ble_eq_true rfl) ?_
  intro pZ eZ sZ mZ below meth cZ C hr hlk hnm
  refine z_lv (lv' := [(0, .ref (ad i))]) [0] rfl ?_
  refine z_aload_n C 0 dX10_kindHere_0 rfl ?_
  refine z_get (v := .int (zI (F 37))) C (by omega) hay1 hg rfl inA_X10 37 (by decide) q_1496 rfl (fv (F := F) (f := 37) rfl) dX10_kindHere_1 ?_
  refine z_iconst (z := 5) C dX10_kindHere_4 rfl ?_
  refine z_icmp_ne (tgt := 12) C dX10_kindHere_5 (by decide) (by omega) (by omega) (fun hby2 => ?_) (fun hby2 => ?_)
  · refine z_aload_n C 0 dX10_kindHere_12 rfl ?_
    refine z_get (v := .int (zI (F 37))) C (by omega) hay1 hg rfl inA_X10 37 (by decide) q_1496 rfl (fv (F := F) (f := 37) rfl) dX10_kindHere_13 ?_
    refine z_bipush (z := 9) C dX10_kindHere_16 (by decide) ?_
    refine z_isub C dX10_kindHere_18 ?_
    exact z_iret C hr hlk dX10_kindHere_19 (by decide) (by decide) ⟨_, rfl, rfl, rfl, by omega, rfl⟩
  · refine z_iconst (z := 4) C dX10_kindHere_8 rfl ?_
    refine z_goto (tgt := 19) C dX10_kindHere_9 (by decide) ?_
    exact z_iret C hr hlk dX10_kindHere_19 (by decide) (by decide) ⟨_, rfl, rfl, rfl, by omega, rfl⟩

