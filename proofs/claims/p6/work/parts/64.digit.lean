def sq0 : String × String × Nat × List Int32 := ("SnowRecorderModel", "KNOWN", 0, [115, 108, 111, 112, 101, 32, 108, 97, 121, 101, 114, 32, 104, 111, 117, 114, 32, 115, 110, 111, 119, 32, 114, 97, 105, 110, 32, 104, 111, 97, 114, 32, 115, 116, 114, 111, 110, 103, 32, 104, 111, 108, 100, 115, 32, 115, 116, 105, 102, 102, 32, 112, 111, 119, 100, 101, 114, 32, 103, 114, 97, 105, 110, 115, 32, 102, 97, 99, 101, 116, 115, 32, 99, 114, 117, 115, 116, 32])
theorem stm0 : sq0 ∈ STL := List.mem_of_getElem? (i := 0) rfl
theorem stl0 : sq0.2.2.2.length = 78 := rfl
def sq1 : String × String × Nat × List Int32 := ("java/lang/Integer", "DigitOnes", 1, [48, 49, 50, 51, 52, 53, 54, 55, 56, 57, 48, 49, 50, 51, 52, 53, 54, 55, 56, 57, 48, 49, 50, 51, 52, 53, 54, 55, 56, 57, 48, 49, 50, 51, 52, 53, 54, 55, 56, 57, 48, 49, 50, 51, 52, 53, 54, 55, 56, 57, 48, 49, 50, 51, 52, 53, 54, 55, 56, 57, 48, 49, 50, 51, 52, 53, 54, 55, 56, 57, 48, 49, 50, 51, 52, 53, 54, 55, 56, 57, 48, 49, 50, 51, 52, 53, 54, 55, 56, 57, 48, 49, 50, 51, 52, 53, 54, 55, 56, 57])
theorem stm1 : sq1 ∈ STL := List.mem_of_getElem? (i := 1) rfl
theorem stl1 : sq1.2.2.2.length = 100 := rfl
def sq2 : String × String × Nat × List Int32 := ("java/lang/Integer", "DigitTens", 2, [48, 48, 48, 48, 48, 48, 48, 48, 48, 48, 49, 49, 49, 49, 49, 49, 49, 49, 49, 49, 50, 50, 50, 50, 50, 50, 50, 50, 50, 50, 51, 51, 51, 51, 51, 51, 51, 51, 51, 51, 52, 52, 52, 52, 52, 52, 52, 52, 52, 52, 53, 53, 53, 53, 53, 53, 53, 53, 53, 53, 54, 54, 54, 54, 54, 54, 54, 54, 54, 54, 55, 55, 55, 55, 55, 55, 55, 55, 55, 55, 56, 56, 56, 56, 56, 56, 56, 56, 56, 56, 57, 57, 57, 57, 57, 57, 57, 57, 57, 57])
theorem stm2 : sq2 ∈ STL := List.mem_of_getElem? (i := 2) rfl
theorem stl2 : sq2.2.2.2.length = 100 := rfl
theorem stv1 : ∀ x ∈ sq1.2.2.2, 48 ≤ x.toInt ∧ x.toInt ≤ 57 := by decide
theorem stv2 : ∀ x ∈ sq2.2.2.2, 48 ≤ x.toInt ∧ x.toInt ≤ 57 := by decide
theorem getD_b {L : List Int32} (h : ∀ x ∈ L, 48 ≤ x.toInt ∧ x.toInt ≤ 57) {j : Nat} (hj : j < L.length) : ∃ y : Int, L.getD j 0 = zI y ∧ 48 ≤ y ∧ y ≤ 57 := by
  have e : L.getD j 0 = L[j] := by simp [List.getD, hj]
  exact ⟨(L.getD j 0).toInt, (Int32.ofInt_toInt _).symm, by rw [e]; exact (h _ (List.getElem_mem hj)).1, by rw [e]; exact (h _ (List.getElem_mem hj)).2⟩
theorem tdn {a : Int} (h : a ≤ 0) : ∃ x, a.tdiv 100 = x ∧ a ≤ 100 * x ∧ 100 * x ≤ a + 99 ∧ x ≤ 0 := by
  obtain ⟨n, hn⟩ := Int.eq_ofNat_of_zero_le (show 0 ≤ -a by omega)
  have e : a = -(n : Int) := by omega
  subst e
  refine ⟨_, rfl, ?_⟩
  rw [Int.neg_tdiv, Int.tdiv_eq_ediv_of_nonneg (by omega)]
  omega
theorem uB {r : Nat → Int} {k : Nat} {v : Int} (h : ∀ j, -128 ≤ r j ∧ r j ≤ 127) (hv : -128 ≤ v ∧ v ≤ 127) : ∀ j, -128 ≤ uZ r k v j ∧ uZ r k v j ≤ 127 := fun j => by
  by_cases e : j = k
  · rw [e, uZ_s]; exact hv
  · rw [uZ_n _ _ e]; exact h j
section ZST
variable {p : Program} {l : Launch} {e : Env} {R : Room} {s : State} {m : MethodId} {args : Array Value} {below : List Frame} {meth : Method} {c : Code} {Q : State → Prop} {D : va_G} {A : Nat → Prop} {cs : Nat → ClassId} {tt : Nat} {cc : ByteArray} {nL : Nat} {own : String} {N : Nat} {ad : Nat → Nat} {g : Nat → va_E} {k n pc : Nat} {lv lv' : List (Nat × Value)} {rest : List Value} {q : String × String × Nat × List Int32}
theorem z_getSt (C : zC p s m args c cc nL own D A cs tt) (hq : q ∈ STL) {idx : Nat} (hlk : Cond.fieldLink own idx q.1 q.2.1 "[B" ∈ AW) (hdg : decode cc pc = .ok (.getstatic idx, 3)) (kk : zV p l e R s m args below meth c Q D A nL N ad g k n (pc + 3) (lv) (.ref (cs (300 + q.2.2.1)) :: rest)) : zV p l e R s m args below meth c Q D A nL N ad g k n (pc) (lv) (rest) := fun H locs ls hP hD hS hl => va_gets C.1 C.2.1 (C.S.2.1 q hq).1 hS C.2.2.2.1 (C.2.2.2.2.1 _ hlk) (fun _ h => h) hdg (kk H locs ls hP hD hS hl)
theorem z_stbald (C : zC p s m args c cc nL own D A cs tt) (hq : q ∈ STL) (j : Nat) {z y : Int} (hz : z = (j : Int)) (hj : j < q.2.2.2.length) (hL : q.2.2.2.length ≤ 2147483647) (hv : q.2.2.2.getD j 0 = zI y) (hdg : decode cc pc = .ok (.baload, 1)) (kk : zV p l e R s m args below meth c Q D A nL N ad g k n (pc + 1) (lv) (.int (zI y) :: rest)) : zV p l e R s m args below meth c Q D A nL N ad g k n (pc) (lv) (.int (zI z) :: .ref (cs (300 + q.2.2.1)) :: rest) := fun H locs ls hP hD hS hl => by
  subst hz
  exact va_tb C.1 C.2.1 (C.S.2.1 q hq).2 hS (zI_in hj hL) (show Value.int (q.2.2.2.getD (zI (j : Int)).toNatClampNeg 0) = .int (zI y) by rw [zI_clN (by omega), hv]) hdg (kk H locs ls hP hD hS hl)
end ZST

set_option maxRecDepth 100000 in
set_option maxHeartbeats 4000000 in
theorem c_strSize (l : Launch) (D : va_G) (A : Nat → Prop) (cs : Nat → ClassId) (tt : Nat) (N : Nat) (ad : Nat → Nat) (g : Nat → va_E) (z : Int) (hz : -2147483648 ≤ z ∧ z ≤ 2147483647) : zM l yJ6_stringSize_0f7a4 cJ6_stringSize_0f7a4 4 (some .int) ({ frames := 1, cells := 0, slots := 0, locals := 60 } : Room) D A cs tt N ad g [.int (zI (z))] (rI0 N ad fun r g' => (1 ≤ r ∧ r ≤ 11) ∧ ((0 ≤ z ∧ ((1 ≤ r ∧ -10 < -(z)) ∨ (2 ≤ r ∧ -100 < -(z)) ∨ (3 ≤ r ∧ -1000 < -(z)) ∨ (4 ≤ r ∧ -10000 < -(z)) ∨ (5 ≤ r ∧ -100000 < -(z)) ∨ (6 ≤ r ∧ -1000000 < -(z)) ∨ (7 ≤ r ∧ -10000000 < -(z)) ∨ (8 ≤ r ∧ -100000000 < -(z)) ∨ (9 ≤ r ∧ -1000000000 < -(z)) ∨ (10 ≤ r ∧ -10000000000 < -(z)))) ∨ (z < 0 ∧ ((1 ≤ r - 1 ∧ -10 < z) ∨ (2 ≤ r - 1 ∧ -100 < z) ∨ (3 ≤ r - 1 ∧ -1000 < z) ∨ (4 ≤ r - 1 ∧ -10000 < z) ∨ (5 ≤ r - 1 ∧ -100000 < z) ∨ (6 ≤ r - 1 ∧ -1000000 < z) ∨ (7 ≤ r - 1 ∧ -10000000 < z) ∨ (8 ≤ r - 1 ∧ -100000000 < z) ∨ (9 ≤ r - 1 ∧ -1000000000 < z) ∨ (10 ≤ r - 1 ∧ -10000000000 < z)))) ∧ g = g') := by
  refine z_of (by decide) (Nat.le_of_ble_eq_true rfl) ?_
  intro p e s m below meth c C hr hlk hnm
  refine z_lv (lv' := [(0, .int (zI (z)))]) [0] rfl ?_
  refine z_iconst (z := 1) C dJ6_stringSize_0f7a4_0 rfl ?_
  refine z_istore_n (lv' := [(1, .int (zI (1))), (0, .int (zI (z)))]) C dJ6_stringSize_0f7a4_1 rfl (by decide) rfl ?_
  refine z_iload_n C 1 dJ6_stringSize_0f7a4_2 rfl ?_
  refine z_if_lt (tgt := 11) C dJ6_stringSize_0f7a4_3 (by decide) (by omega) (fun hby1 => ?_) (fun hby1 => ?_)
  · refine z_bipush (z := -10) C dJ6_stringSize_0f7a4_11 (by decide) ?_
    refine z_istore_n (lv' := [(2, .int (zI (-10))), (1, .int (zI (1))), (0, .int (zI (z)))]) C dJ6_stringSize_0f7a4_13 rfl (by decide) rfl ?_
    refine z_iconst (z := 1) C dJ6_stringSize_0f7a4_14 rfl ?_
    refine z_istore_n (lv' := [(3, .int (zI (1))), (2, .int (zI (-10))), (1, .int (zI (1))), (0, .int (zI (z)))]) C dJ6_stringSize_0f7a4_15 rfl (by decide) rfl ?_
    refine z_iload_n C 0 dJ6_stringSize_0f7a4_16 rfl ?_
    refine z_bipush (z := 10) C dJ6_stringSize_0f7a4_17 (by decide) ?_
    refine z_icmp_ge (tgt := 42) C dJ6_stringSize_0f7a4_19 (by decide) (by omega) (by omega) (fun h => absurd h (by omega)) (fun _ => ?_)
    refine z_iload_n C 3 dJ6_stringSize_0f7a4_22 rfl ?_
    refine z_iload_n C 1 dJ6_stringSize_0f7a4_23 rfl ?_
    refine z_icmp_le (tgt := 31) C dJ6_stringSize_0f7a4_24 (by decide) (by omega) (by omega) (fun hby2 => ?_) (fun hby2 => ?_)
    · refine z_bipush (z := 10) C dJ6_stringSize_0f7a4_31 (by decide) ?_
      refine z_iload_n C 1 dJ6_stringSize_0f7a4_33 rfl ?_
      refine z_imul C dJ6_stringSize_0f7a4_34 ?_
      refine z_istore_n (lv' := [(2, .int (zI (10 * (-10)))), (3, .int (zI (1))), (1, .int (zI (1))), (0, .int (zI (z)))]) C dJ6_stringSize_0f7a4_35 rfl (by decide) rfl ?_
      refine z_iinc (z := 2) (lv' := [(3, .int (zI (2))), (2, .int (zI (10 * (-10)))), (1, .int (zI (1))), (0, .int (zI (z)))]) (j := 1) C dJ6_stringSize_0f7a4_36 rfl (congrArg zI (by omega)) (by decide) rfl ?_
      refine z_goto (tgt := 16) C dJ6_stringSize_0f7a4_39 (by decide) ?_
      refine z_iload_n C 0 dJ6_stringSize_0f7a4_16 rfl ?_
      refine z_bipush (z := 10) C dJ6_stringSize_0f7a4_17 (by decide) ?_
      refine z_icmp_ge (tgt := 42) C dJ6_stringSize_0f7a4_19 (by decide) (by omega) (by omega) (fun h => absurd h (by omega)) (fun _ => ?_)
      refine z_iload_n C 3 dJ6_stringSize_0f7a4_22 rfl ?_
      refine z_iload_n C 1 dJ6_stringSize_0f7a4_23 rfl ?_
      refine z_icmp_le (tgt := 31) C dJ6_stringSize_0f7a4_24 (by decide) (by omega) (by omega) (fun hby3 => ?_) (fun hby3 => ?_)
      · refine z_bipush (z := 10) C dJ6_stringSize_0f7a4_31 (by decide) ?_
        refine z_iload_n C 1 dJ6_stringSize_0f7a4_33 rfl ?_
        refine z_imul C dJ6_stringSize_0f7a4_34 ?_
        refine z_istore_n (lv' := [(2, .int (zI (10 * (10 * (-10))))), (3, .int (zI (2))), (1, .int (zI (1))), (0, .int (zI (z)))]) C dJ6_stringSize_0f7a4_35 rfl (by decide) rfl ?_
        refine z_iinc (z := 3) (lv' := [(3, .int (zI (3))), (2, .int (zI (10 * (10 * (-10))))), (1, .int (zI (1))), (0, .int (zI (z)))]) (j := 1) C dJ6_stringSize_0f7a4_36 rfl (congrArg zI (by omega)) (by decide) rfl ?_
        refine z_goto (tgt := 16) C dJ6_stringSize_0f7a4_39 (by decide) ?_
        refine z_iload_n C 0 dJ6_stringSize_0f7a4_16 rfl ?_
        refine z_bipush (z := 10) C dJ6_stringSize_0f7a4_17 (by decide) ?_
        refine z_icmp_ge (tgt := 42) C dJ6_stringSize_0f7a4_19 (by decide) (by omega) (by omega) (fun h => absurd h (by omega)) (fun _ => ?_)
        refine z_iload_n C 3 dJ6_stringSize_0f7a4_22 rfl ?_
        refine z_iload_n C 1 dJ6_stringSize_0f7a4_23 rfl ?_
        refine z_icmp_le (tgt := 31) C dJ6_stringSize_0f7a4_24 (by decide) (by omega) (by omega) (fun hby4 => ?_) (fun hby4 => ?_)
        · refine z_bipush (z := 10) C dJ6_stringSize_0f7a4_31 (by decide) ?_
          refine z_iload_n C 1 dJ6_stringSize_0f7a4_33 rfl ?_
          refine z_imul C dJ6_stringSize_0f7a4_34 ?_
          refine z_istore_n (lv' := [(2, .int (zI (10 * (10 * (10 * (-10)))))), (3, .int (zI (3))), (1, .int (zI (1))), (0, .int (zI (z)))]) C dJ6_stringSize_0f7a4_35 rfl (by decide) rfl ?_
          refine z_iinc (z := 4) (lv' := [(3, .int (zI (4))), (2, .int (zI (10 * (10 * (10 * (-10)))))), (1, .int (zI (1))), (0, .int (zI (z)))]) (j := 1) C dJ6_stringSize_0f7a4_36 rfl (congrArg zI (by omega)) (by decide) rfl ?_
          refine z_goto (tgt := 16) C dJ6_stringSize_0f7a4_39 (by decide) ?_
          refine z_iload_n C 0 dJ6_stringSize_0f7a4_16 rfl ?_
          refine z_bipush (z := 10) C dJ6_stringSize_0f7a4_17 (by decide) ?_
          refine z_icmp_ge (tgt := 42) C dJ6_stringSize_0f7a4_19 (by decide) (by omega) (by omega) (fun h => absurd h (by omega)) (fun _ => ?_)
          refine z_iload_n C 3 dJ6_stringSize_0f7a4_22 rfl ?_
          refine z_iload_n C 1 dJ6_stringSize_0f7a4_23 rfl ?_
          refine z_icmp_le (tgt := 31) C dJ6_stringSize_0f7a4_24 (by decide) (by omega) (by omega) (fun hby5 => ?_) (fun hby5 => ?_)
          · refine z_bipush (z := 10) C dJ6_stringSize_0f7a4_31 (by decide) ?_
            refine z_iload_n C 1 dJ6_stringSize_0f7a4_33 rfl ?_
            refine z_imul C dJ6_stringSize_0f7a4_34 ?_
            refine z_istore_n (lv' := [(2, .int (zI (10 * (10 * (10 * (10 * (-10))))))), (3, .int (zI (4))), (1, .int (zI (1))), (0, .int (zI (z)))]) C dJ6_stringSize_0f7a4_35 rfl (by decide) rfl ?_
            refine z_iinc (z := 5) (lv' := [(3, .int (zI (5))), (2, .int (zI (10 * (10 * (10 * (10 * (-10))))))), (1, .int (zI (1))), (0, .int (zI (z)))]) (j := 1) C dJ6_stringSize_0f7a4_36 rfl (congrArg zI (by omega)) (by decide) rfl ?_
            refine z_goto (tgt := 16) C dJ6_stringSize_0f7a4_39 (by decide) ?_
            refine z_iload_n C 0 dJ6_stringSize_0f7a4_16 rfl ?_
            refine z_bipush (z := 10) C dJ6_stringSize_0f7a4_17 (by decide) ?_
            refine z_icmp_ge (tgt := 42) C dJ6_stringSize_0f7a4_19 (by decide) (by omega) (by omega) (fun h => absurd h (by omega)) (fun _ => ?_)
            refine z_iload_n C 3 dJ6_stringSize_0f7a4_22 rfl ?_
            refine z_iload_n C 1 dJ6_stringSize_0f7a4_23 rfl ?_
            refine z_icmp_le (tgt := 31) C dJ6_stringSize_0f7a4_24 (by decide) (by omega) (by omega) (fun hby6 => ?_) (fun hby6 => ?_)
            · refine z_bipush (z := 10) C dJ6_stringSize_0f7a4_31 (by decide) ?_
              refine z_iload_n C 1 dJ6_stringSize_0f7a4_33 rfl ?_
              refine z_imul C dJ6_stringSize_0f7a4_34 ?_
              refine z_istore_n (lv' := [(2, .int (zI (10 * (10 * (10 * (10 * (10 * (-10)))))))), (3, .int (zI (5))), (1, .int (zI (1))), (0, .int (zI (z)))]) C dJ6_stringSize_0f7a4_35 rfl (by decide) rfl ?_
              refine z_iinc (z := 6) (lv' := [(3, .int (zI (6))), (2, .int (zI (10 * (10 * (10 * (10 * (10 * (-10)))))))), (1, .int (zI (1))), (0, .int (zI (z)))]) (j := 1) C dJ6_stringSize_0f7a4_36 rfl (congrArg zI (by omega)) (by decide) rfl ?_
              refine z_goto (tgt := 16) C dJ6_stringSize_0f7a4_39 (by decide) ?_
              refine z_iload_n C 0 dJ6_stringSize_0f7a4_16 rfl ?_
              refine z_bipush (z := 10) C dJ6_stringSize_0f7a4_17 (by decide) ?_
              refine z_icmp_ge (tgt := 42) C dJ6_stringSize_0f7a4_19 (by decide) (by omega) (by omega) (fun h => absurd h (by omega)) (fun _ => ?_)
              refine z_iload_n C 3 dJ6_stringSize_0f7a4_22 rfl ?_
              refine z_iload_n C 1 dJ6_stringSize_0f7a4_23 rfl ?_
              refine z_icmp_le (tgt := 31) C dJ6_stringSize_0f7a4_24 (by decide) (by omega) (by omega) (fun hby7 => ?_) (fun hby7 => ?_)
              · refine z_bipush (z := 10) C dJ6_stringSize_0f7a4_31 (by decide) ?_
                refine z_iload_n C 1 dJ6_stringSize_0f7a4_33 rfl ?_
                refine z_imul C dJ6_stringSize_0f7a4_34 ?_
                refine z_istore_n (lv' := [(2, .int (zI (10 * (10 * (10 * (10 * (10 * (10 * (-10))))))))), (3, .int (zI (6))), (1, .int (zI (1))), (0, .int (zI (z)))]) C dJ6_stringSize_0f7a4_35 rfl (by decide) rfl ?_
                refine z_iinc (z := 7) (lv' := [(3, .int (zI (7))), (2, .int (zI (10 * (10 * (10 * (10 * (10 * (10 * (-10))))))))), (1, .int (zI (1))), (0, .int (zI (z)))]) (j := 1) C dJ6_stringSize_0f7a4_36 rfl (congrArg zI (by omega)) (by decide) rfl ?_
                refine z_goto (tgt := 16) C dJ6_stringSize_0f7a4_39 (by decide) ?_
                refine z_iload_n C 0 dJ6_stringSize_0f7a4_16 rfl ?_
                refine z_bipush (z := 10) C dJ6_stringSize_0f7a4_17 (by decide) ?_
                refine z_icmp_ge (tgt := 42) C dJ6_stringSize_0f7a4_19 (by decide) (by omega) (by omega) (fun h => absurd h (by omega)) (fun _ => ?_)
                refine z_iload_n C 3 dJ6_stringSize_0f7a4_22 rfl ?_
                refine z_iload_n C 1 dJ6_stringSize_0f7a4_23 rfl ?_
                refine z_icmp_le (tgt := 31) C dJ6_stringSize_0f7a4_24 (by decide) (by omega) (by omega) (fun hby8 => ?_) (fun hby8 => ?_)
                · refine z_bipush (z := 10) C dJ6_stringSize_0f7a4_31 (by decide) ?_
                  refine z_iload_n C 1 dJ6_stringSize_0f7a4_33 rfl ?_
                  refine z_imul C dJ6_stringSize_0f7a4_34 ?_
                  refine z_istore_n (lv' := [(2, .int (zI (10 * (10 * (10 * (10 * (10 * (10 * (10 * (-10)))))))))), (3, .int (zI (7))), (1, .int (zI (1))), (0, .int (zI (z)))]) C dJ6_stringSize_0f7a4_35 rfl (by decide) rfl ?_
                  refine z_iinc (z := 8) (lv' := [(3, .int (zI (8))), (2, .int (zI (10 * (10 * (10 * (10 * (10 * (10 * (10 * (-10)))))))))), (1, .int (zI (1))), (0, .int (zI (z)))]) (j := 1) C dJ6_stringSize_0f7a4_36 rfl (congrArg zI (by omega)) (by decide) rfl ?_
                  refine z_goto (tgt := 16) C dJ6_stringSize_0f7a4_39 (by decide) ?_
                  refine z_iload_n C 0 dJ6_stringSize_0f7a4_16 rfl ?_
                  refine z_bipush (z := 10) C dJ6_stringSize_0f7a4_17 (by decide) ?_
                  refine z_icmp_ge (tgt := 42) C dJ6_stringSize_0f7a4_19 (by decide) (by omega) (by omega) (fun h => absurd h (by omega)) (fun _ => ?_)
                  refine z_iload_n C 3 dJ6_stringSize_0f7a4_22 rfl ?_
                  refine z_iload_n C 1 dJ6_stringSize_0f7a4_23 rfl ?_
                  refine z_icmp_le (tgt := 31) C dJ6_stringSize_0f7a4_24 (by decide) (by omega) (by omega) (fun hby9 => ?_) (fun hby9 => ?_)
                  · refine z_bipush (z := 10) C dJ6_stringSize_0f7a4_31 (by decide) ?_
                    refine z_iload_n C 1 dJ6_stringSize_0f7a4_33 rfl ?_
                    refine z_imul C dJ6_stringSize_0f7a4_34 ?_
                    refine z_istore_n (lv' := [(2, .int (zI (10 * (10 * (10 * (10 * (10 * (10 * (10 * (10 * (-10))))))))))), (3, .int (zI (8))), (1, .int (zI (1))), (0, .int (zI (z)))]) C dJ6_stringSize_0f7a4_35 rfl (by decide) rfl ?_
                    refine z_iinc (z := 9) (lv' := [(3, .int (zI (9))), (2, .int (zI (10 * (10 * (10 * (10 * (10 * (10 * (10 * (10 * (-10))))))))))), (1, .int (zI (1))), (0, .int (zI (z)))]) (j := 1) C dJ6_stringSize_0f7a4_36 rfl (congrArg zI (by omega)) (by decide) rfl ?_
                    refine z_goto (tgt := 16) C dJ6_stringSize_0f7a4_39 (by decide) ?_
                    refine z_iload_n C 0 dJ6_stringSize_0f7a4_16 rfl ?_
                    refine z_bipush (z := 10) C dJ6_stringSize_0f7a4_17 (by decide) ?_
                    refine z_icmp_ge (tgt := 42) C dJ6_stringSize_0f7a4_19 (by decide) (by omega) (by omega) (fun h => absurd h (by omega)) (fun _ => ?_)
                    refine z_iload_n C 3 dJ6_stringSize_0f7a4_22 rfl ?_
                    refine z_iload_n C 1 dJ6_stringSize_0f7a4_23 rfl ?_
                    refine z_icmp_le (tgt := 31) C dJ6_stringSize_0f7a4_24 (by decide) (by omega) (by omega) (fun hby10 => ?_) (fun hby10 => ?_)
                    · refine z_bipush (z := 10) C dJ6_stringSize_0f7a4_31 (by decide) ?_
                      refine z_iload_n C 1 dJ6_stringSize_0f7a4_33 rfl ?_
                      refine z_imul C dJ6_stringSize_0f7a4_34 ?_
                      refine z_istore_n (lv' := [(2, .int (zI (10 * (10 * (10 * (10 * (10 * (10 * (10 * (10 * (10 * (-10)))))))))))), (3, .int (zI (9))), (1, .int (zI (1))), (0, .int (zI (z)))]) C dJ6_stringSize_0f7a4_35 rfl (by decide) rfl ?_
                      refine z_iinc (z := 10) (lv' := [(3, .int (zI (10))), (2, .int (zI (10 * (10 * (10 * (10 * (10 * (10 * (10 * (10 * (10 * (-10)))))))))))), (1, .int (zI (1))), (0, .int (zI (z)))]) (j := 1) C dJ6_stringSize_0f7a4_36 rfl (congrArg zI (by omega)) (by decide) rfl ?_
                      refine z_goto (tgt := 16) C dJ6_stringSize_0f7a4_39 (by decide) ?_
                      refine z_iload_n C 0 dJ6_stringSize_0f7a4_16 rfl ?_
                      refine z_bipush (z := 10) C dJ6_stringSize_0f7a4_17 (by decide) ?_
                      refine z_icmp_ge (tgt := 42) C dJ6_stringSize_0f7a4_19 (by decide) (by omega) (by omega) (fun _ => ?_) (fun h => absurd h (by omega))
                      refine z_bipush (z := 10) C dJ6_stringSize_0f7a4_42 (by decide) ?_
                      refine z_iload_n C 2 dJ6_stringSize_0f7a4_44 rfl ?_
                      refine z_iadd C dJ6_stringSize_0f7a4_45 ?_
                      exact z_iret C hr hlk dJ6_stringSize_0f7a4_46 (by decide) (by decide) ⟨10 + 1, rfl, rfl, rfl, by omega, by omega, rfl⟩
                    · refine z_iload_n C 0 dJ6_stringSize_0f7a4_27 rfl ?_
                      refine z_iload_n C 2 dJ6_stringSize_0f7a4_28 rfl ?_
                      refine z_iadd C dJ6_stringSize_0f7a4_29 ?_
                      exact z_iret C hr hlk dJ6_stringSize_0f7a4_30 (by decide) (by decide) ⟨9 + 1, rfl, rfl, rfl, by omega, by omega, rfl⟩
                  · refine z_iload_n C 0 dJ6_stringSize_0f7a4_27 rfl ?_
                    refine z_iload_n C 2 dJ6_stringSize_0f7a4_28 rfl ?_
                    refine z_iadd C dJ6_stringSize_0f7a4_29 ?_
                    exact z_iret C hr hlk dJ6_stringSize_0f7a4_30 (by decide) (by decide) ⟨8 + 1, rfl, rfl, rfl, by omega, by omega, rfl⟩
                · refine z_iload_n C 0 dJ6_stringSize_0f7a4_27 rfl ?_
                  refine z_iload_n C 2 dJ6_stringSize_0f7a4_28 rfl ?_
                  refine z_iadd C dJ6_stringSize_0f7a4_29 ?_
                  exact z_iret C hr hlk dJ6_stringSize_0f7a4_30 (by decide) (by decide) ⟨7 + 1, rfl, rfl, rfl, by omega, by omega, rfl⟩
              · refine z_iload_n C 0 dJ6_stringSize_0f7a4_27 rfl ?_
                refine z_iload_n C 2 dJ6_stringSize_0f7a4_28 rfl ?_
                refine z_iadd C dJ6_stringSize_0f7a4_29 ?_
                exact z_iret C hr hlk dJ6_stringSize_0f7a4_30 (by decide) (by decide) ⟨6 + 1, rfl, rfl, rfl, by omega, by omega, rfl⟩
            · refine z_iload_n C 0 dJ6_stringSize_0f7a4_27 rfl ?_
              refine z_iload_n C 2 dJ6_stringSize_0f7a4_28 rfl ?_
              refine z_iadd C dJ6_stringSize_0f7a4_29 ?_
              exact z_iret C hr hlk dJ6_stringSize_0f7a4_30 (by decide) (by decide) ⟨5 + 1, rfl, rfl, rfl, by omega, by omega, rfl⟩
          · refine z_iload_n C 0 dJ6_stringSize_0f7a4_27 rfl ?_
            refine z_iload_n C 2 dJ6_stringSize_0f7a4_28 rfl ?_
            refine z_iadd C dJ6_stringSize_0f7a4_29 ?_
            exact z_iret C hr hlk dJ6_stringSize_0f7a4_30 (by decide) (by decide) ⟨4 + 1, rfl, rfl, rfl, by omega, by omega, rfl⟩
        · refine z_iload_n C 0 dJ6_stringSize_0f7a4_27 rfl ?_
          refine z_iload_n C 2 dJ6_stringSize_0f7a4_28 rfl ?_
          refine z_iadd C dJ6_stringSize_0f7a4_29 ?_
          exact z_iret C hr hlk dJ6_stringSize_0f7a4_30 (by decide) (by decide) ⟨3 + 1, rfl, rfl, rfl, by omega, by omega, rfl⟩
      · refine z_iload_n C 0 dJ6_stringSize_0f7a4_27 rfl ?_
        refine z_iload_n C 2 dJ6_stringSize_0f7a4_28 rfl ?_
        refine z_iadd C dJ6_stringSize_0f7a4_29 ?_
        exact z_iret C hr hlk dJ6_stringSize_0f7a4_30 (by decide) (by decide) ⟨2 + 1, rfl, rfl, rfl, by omega, by omega, rfl⟩
    · refine z_iload_n C 0 dJ6_stringSize_0f7a4_27 rfl ?_
      refine z_iload_n C 2 dJ6_stringSize_0f7a4_28 rfl ?_
      refine z_iadd C dJ6_stringSize_0f7a4_29 ?_
      exact z_iret C hr hlk dJ6_stringSize_0f7a4_30 (by decide) (by decide) ⟨1 + 1, rfl, rfl, rfl, by omega, by omega, rfl⟩
  · refine z_iconst (z := 0) C dJ6_stringSize_0f7a4_6 rfl ?_
    refine z_istore_n (lv' := [(1, .int (zI (0))), (0, .int (zI (z)))]) C dJ6_stringSize_0f7a4_7 rfl (by decide) rfl ?_
    refine z_iload_n C 1 dJ6_stringSize_0f7a4_8 rfl ?_
    refine z_ineg C dJ6_stringSize_0f7a4_9 ?_
    refine z_istore_n (lv' := [(0, .int (zI (-(z)))), (1, .int (zI (0)))]) C dJ6_stringSize_0f7a4_10 rfl (by decide) rfl ?_
    refine z_bipush (z := -10) C dJ6_stringSize_0f7a4_11 (by decide) ?_
    refine z_istore_n (lv' := [(2, .int (zI (-10))), (0, .int (zI (-(z)))), (1, .int (zI (0)))]) C dJ6_stringSize_0f7a4_13 rfl (by decide) rfl ?_
    refine z_iconst (z := 1) C dJ6_stringSize_0f7a4_14 rfl ?_
    refine z_istore_n (lv' := [(3, .int (zI (1))), (2, .int (zI (-10))), (0, .int (zI (-(z)))), (1, .int (zI (0)))]) C dJ6_stringSize_0f7a4_15 rfl (by decide) rfl ?_
    refine z_iload_n C 0 dJ6_stringSize_0f7a4_16 rfl ?_
    refine z_bipush (z := 10) C dJ6_stringSize_0f7a4_17 (by decide) ?_
    refine z_icmp_ge (tgt := 42) C dJ6_stringSize_0f7a4_19 (by decide) (by omega) (by omega) (fun h => absurd h (by omega)) (fun _ => ?_)
    refine z_iload_n C 2 dJ6_stringSize_0f7a4_22 rfl ?_
    refine z_iload_n C 1 dJ6_stringSize_0f7a4_23 rfl ?_
    refine z_icmp_le (tgt := 31) C dJ6_stringSize_0f7a4_24 (by decide) (by omega) (by omega) (fun hby11 => ?_) (fun hby11 => ?_)
    · refine z_bipush (z := 10) C dJ6_stringSize_0f7a4_31 (by decide) ?_
      refine z_iload_n C 1 dJ6_stringSize_0f7a4_33 rfl ?_
      refine z_imul C dJ6_stringSize_0f7a4_34 ?_
      refine z_istore_n (lv' := [(2, .int (zI (10 * (-10)))), (3, .int (zI (1))), (0, .int (zI (-(z)))), (1, .int (zI (0)))]) C dJ6_stringSize_0f7a4_35 rfl (by decide) rfl ?_
      refine z_iinc (z := 2) (lv' := [(3, .int (zI (2))), (2, .int (zI (10 * (-10)))), (0, .int (zI (-(z)))), (1, .int (zI (0)))]) (j := 1) C dJ6_stringSize_0f7a4_36 rfl (congrArg zI (by omega)) (by decide) rfl ?_
      refine z_goto (tgt := 16) C dJ6_stringSize_0f7a4_39 (by decide) ?_
      refine z_iload_n C 0 dJ6_stringSize_0f7a4_16 rfl ?_
      refine z_bipush (z := 10) C dJ6_stringSize_0f7a4_17 (by decide) ?_
      refine z_icmp_ge (tgt := 42) C dJ6_stringSize_0f7a4_19 (by decide) (by omega) (by omega) (fun h => absurd h (by omega)) (fun _ => ?_)
      refine z_iload_n C 2 dJ6_stringSize_0f7a4_22 rfl ?_
      refine z_iload_n C 1 dJ6_stringSize_0f7a4_23 rfl ?_
      refine z_icmp_le (tgt := 31) C dJ6_stringSize_0f7a4_24 (by decide) (by omega) (by omega) (fun hby12 => ?_) (fun hby12 => ?_)
      · refine z_bipush (z := 10) C dJ6_stringSize_0f7a4_31 (by decide) ?_
        refine z_iload_n C 1 dJ6_stringSize_0f7a4_33 rfl ?_
        refine z_imul C dJ6_stringSize_0f7a4_34 ?_
        refine z_istore_n (lv' := [(2, .int (zI (10 * (10 * (-10))))), (3, .int (zI (2))), (0, .int (zI (-(z)))), (1, .int (zI (0)))]) C dJ6_stringSize_0f7a4_35 rfl (by decide) rfl ?_
        refine z_iinc (z := 3) (lv' := [(3, .int (zI (3))), (2, .int (zI (10 * (10 * (-10))))), (0, .int (zI (-(z)))), (1, .int (zI (0)))]) (j := 1) C dJ6_stringSize_0f7a4_36 rfl (congrArg zI (by omega)) (by decide) rfl ?_
        refine z_goto (tgt := 16) C dJ6_stringSize_0f7a4_39 (by decide) ?_
        refine z_iload_n C 0 dJ6_stringSize_0f7a4_16 rfl ?_
        refine z_bipush (z := 10) C dJ6_stringSize_0f7a4_17 (by decide) ?_
        refine z_icmp_ge (tgt := 42) C dJ6_stringSize_0f7a4_19 (by decide) (by omega) (by omega) (fun h => absurd h (by omega)) (fun _ => ?_)
        refine z_iload_n C 2 dJ6_stringSize_0f7a4_22 rfl ?_
        refine z_iload_n C 1 dJ6_stringSize_0f7a4_23 rfl ?_
        refine z_icmp_le (tgt := 31) C dJ6_stringSize_0f7a4_24 (by decide) (by omega) (by omega) (fun hby13 => ?_) (fun hby13 => ?_)
        · refine z_bipush (z := 10) C dJ6_stringSize_0f7a4_31 (by decide) ?_
          refine z_iload_n C 1 dJ6_stringSize_0f7a4_33 rfl ?_
          refine z_imul C dJ6_stringSize_0f7a4_34 ?_
          refine z_istore_n (lv' := [(2, .int (zI (10 * (10 * (10 * (-10)))))), (3, .int (zI (3))), (0, .int (zI (-(z)))), (1, .int (zI (0)))]) C dJ6_stringSize_0f7a4_35 rfl (by decide) rfl ?_
          refine z_iinc (z := 4) (lv' := [(3, .int (zI (4))), (2, .int (zI (10 * (10 * (10 * (-10)))))), (0, .int (zI (-(z)))), (1, .int (zI (0)))]) (j := 1) C dJ6_stringSize_0f7a4_36 rfl (congrArg zI (by omega)) (by decide) rfl ?_
          refine z_goto (tgt := 16) C dJ6_stringSize_0f7a4_39 (by decide) ?_
          refine z_iload_n C 0 dJ6_stringSize_0f7a4_16 rfl ?_
          refine z_bipush (z := 10) C dJ6_stringSize_0f7a4_17 (by decide) ?_
          refine z_icmp_ge (tgt := 42) C dJ6_stringSize_0f7a4_19 (by decide) (by omega) (by omega) (fun h => absurd h (by omega)) (fun _ => ?_)
          refine z_iload_n C 2 dJ6_stringSize_0f7a4_22 rfl ?_
          refine z_iload_n C 1 dJ6_stringSize_0f7a4_23 rfl ?_
          refine z_icmp_le (tgt := 31) C dJ6_stringSize_0f7a4_24 (by decide) (by omega) (by omega) (fun hby14 => ?_) (fun hby14 => ?_)
          · refine z_bipush (z := 10) C dJ6_stringSize_0f7a4_31 (by decide) ?_
            refine z_iload_n C 1 dJ6_stringSize_0f7a4_33 rfl ?_
            refine z_imul C dJ6_stringSize_0f7a4_34 ?_
            refine z_istore_n (lv' := [(2, .int (zI (10 * (10 * (10 * (10 * (-10))))))), (3, .int (zI (4))), (0, .int (zI (-(z)))), (1, .int (zI (0)))]) C dJ6_stringSize_0f7a4_35 rfl (by decide) rfl ?_
            refine z_iinc (z := 5) (lv' := [(3, .int (zI (5))), (2, .int (zI (10 * (10 * (10 * (10 * (-10))))))), (0, .int (zI (-(z)))), (1, .int (zI (0)))]) (j := 1) C dJ6_stringSize_0f7a4_36 rfl (congrArg zI (by omega)) (by decide) rfl ?_
            refine z_goto (tgt := 16) C dJ6_stringSize_0f7a4_39 (by decide) ?_
            refine z_iload_n C 0 dJ6_stringSize_0f7a4_16 rfl ?_
            refine z_bipush (z := 10) C dJ6_stringSize_0f7a4_17 (by decide) ?_
            refine z_icmp_ge (tgt := 42) C dJ6_stringSize_0f7a4_19 (by decide) (by omega) (by omega) (fun h => absurd h (by omega)) (fun _ => ?_)
            refine z_iload_n C 2 dJ6_stringSize_0f7a4_22 rfl ?_
            refine z_iload_n C 1 dJ6_stringSize_0f7a4_23 rfl ?_
            refine z_icmp_le (tgt := 31) C dJ6_stringSize_0f7a4_24 (by decide) (by omega) (by omega) (fun hby15 => ?_) (fun hby15 => ?_)
            · refine z_bipush (z := 10) C dJ6_stringSize_0f7a4_31 (by decide) ?_
              refine z_iload_n C 1 dJ6_stringSize_0f7a4_33 rfl ?_
              refine z_imul C dJ6_stringSize_0f7a4_34 ?_
              refine z_istore_n (lv' := [(2, .int (zI (10 * (10 * (10 * (10 * (10 * (-10)))))))), (3, .int (zI (5))), (0, .int (zI (-(z)))), (1, .int (zI (0)))]) C dJ6_stringSize_0f7a4_35 rfl (by decide) rfl ?_
              refine z_iinc (z := 6) (lv' := [(3, .int (zI (6))), (2, .int (zI (10 * (10 * (10 * (10 * (10 * (-10)))))))), (0, .int (zI (-(z)))), (1, .int (zI (0)))]) (j := 1) C dJ6_stringSize_0f7a4_36 rfl (congrArg zI (by omega)) (by decide) rfl ?_
              refine z_goto (tgt := 16) C dJ6_stringSize_0f7a4_39 (by decide) ?_
              refine z_iload_n C 0 dJ6_stringSize_0f7a4_16 rfl ?_
              refine z_bipush (z := 10) C dJ6_stringSize_0f7a4_17 (by decide) ?_
              refine z_icmp_ge (tgt := 42) C dJ6_stringSize_0f7a4_19 (by decide) (by omega) (by omega) (fun h => absurd h (by omega)) (fun _ => ?_)
              refine z_iload_n C 2 dJ6_stringSize_0f7a4_22 rfl ?_
              refine z_iload_n C 1 dJ6_stringSize_0f7a4_23 rfl ?_
              refine z_icmp_le (tgt := 31) C dJ6_stringSize_0f7a4_24 (by decide) (by omega) (by omega) (fun hby16 => ?_) (fun hby16 => ?_)
              · refine z_bipush (z := 10) C dJ6_stringSize_0f7a4_31 (by decide) ?_
                refine z_iload_n C 1 dJ6_stringSize_0f7a4_33 rfl ?_
                refine z_imul C dJ6_stringSize_0f7a4_34 ?_
                refine z_istore_n (lv' := [(2, .int (zI (10 * (10 * (10 * (10 * (10 * (10 * (-10))))))))), (3, .int (zI (6))), (0, .int (zI (-(z)))), (1, .int (zI (0)))]) C dJ6_stringSize_0f7a4_35 rfl (by decide) rfl ?_
                refine z_iinc (z := 7) (lv' := [(3, .int (zI (7))), (2, .int (zI (10 * (10 * (10 * (10 * (10 * (10 * (-10))))))))), (0, .int (zI (-(z)))), (1, .int (zI (0)))]) (j := 1) C dJ6_stringSize_0f7a4_36 rfl (congrArg zI (by omega)) (by decide) rfl ?_
                refine z_goto (tgt := 16) C dJ6_stringSize_0f7a4_39 (by decide) ?_
                refine z_iload_n C 0 dJ6_stringSize_0f7a4_16 rfl ?_
                refine z_bipush (z := 10) C dJ6_stringSize_0f7a4_17 (by decide) ?_
                refine z_icmp_ge (tgt := 42) C dJ6_stringSize_0f7a4_19 (by decide) (by omega) (by omega) (fun h => absurd h (by omega)) (fun _ => ?_)
                refine z_iload_n C 2 dJ6_stringSize_0f7a4_22 rfl ?_
                refine z_iload_n C 1 dJ6_stringSize_0f7a4_23 rfl ?_
                refine z_icmp_le (tgt := 31) C dJ6_stringSize_0f7a4_24 (by decide) (by omega) (by omega) (fun hby17 => ?_) (fun hby17 => ?_)
                · refine z_bipush (z := 10) C dJ6_stringSize_0f7a4_31 (by decide) ?_
                  refine z_iload_n C 1 dJ6_stringSize_0f7a4_33 rfl ?_
                  refine z_imul C dJ6_stringSize_0f7a4_34 ?_
                  refine z_istore_n (lv' := [(2, .int (zI (10 * (10 * (10 * (10 * (10 * (10 * (10 * (-10)))))))))), (3, .int (zI (7))), (0, .int (zI (-(z)))), (1, .int (zI (0)))]) C dJ6_stringSize_0f7a4_35 rfl (by decide) rfl ?_
                  refine z_iinc (z := 8) (lv' := [(3, .int (zI (8))), (2, .int (zI (10 * (10 * (10 * (10 * (10 * (10 * (10 * (-10)))))))))), (0, .int (zI (-(z)))), (1, .int (zI (0)))]) (j := 1) C dJ6_stringSize_0f7a4_36 rfl (congrArg zI (by omega)) (by decide) rfl ?_
                  refine z_goto (tgt := 16) C dJ6_stringSize_0f7a4_39 (by decide) ?_
                  refine z_iload_n C 0 dJ6_stringSize_0f7a4_16 rfl ?_
                  refine z_bipush (z := 10) C dJ6_stringSize_0f7a4_17 (by decide) ?_
                  refine z_icmp_ge (tgt := 42) C dJ6_stringSize_0f7a4_19 (by decide) (by omega) (by omega) (fun h => absurd h (by omega)) (fun _ => ?_)
                  refine z_iload_n C 2 dJ6_stringSize_0f7a4_22 rfl ?_
                  refine z_iload_n C 1 dJ6_stringSize_0f7a4_23 rfl ?_
                  refine z_icmp_le (tgt := 31) C dJ6_stringSize_0f7a4_24 (by decide) (by omega) (by omega) (fun hby18 => ?_) (fun hby18 => ?_)
                  · refine z_bipush (z := 10) C dJ6_stringSize_0f7a4_31 (by decide) ?_
                    refine z_iload_n C 1 dJ6_stringSize_0f7a4_33 rfl ?_
                    refine z_imul C dJ6_stringSize_0f7a4_34 ?_
                    refine z_istore_n (lv' := [(2, .int (zI (10 * (10 * (10 * (10 * (10 * (10 * (10 * (10 * (-10))))))))))), (3, .int (zI (8))), (0, .int (zI (-(z)))), (1, .int (zI (0)))]) C dJ6_stringSize_0f7a4_35 rfl (by decide) rfl ?_
                    refine z_iinc (z := 9) (lv' := [(3, .int (zI (9))), (2, .int (zI (10 * (10 * (10 * (10 * (10 * (10 * (10 * (10 * (-10))))))))))), (0, .int (zI (-(z)))), (1, .int (zI (0)))]) (j := 1) C dJ6_stringSize_0f7a4_36 rfl (congrArg zI (by omega)) (by decide) rfl ?_
                    refine z_goto (tgt := 16) C dJ6_stringSize_0f7a4_39 (by decide) ?_
                    refine z_iload_n C 0 dJ6_stringSize_0f7a4_16 rfl ?_
                    refine z_bipush (z := 10) C dJ6_stringSize_0f7a4_17 (by decide) ?_
                    refine z_icmp_ge (tgt := 42) C dJ6_stringSize_0f7a4_19 (by decide) (by omega) (by omega) (fun h => absurd h (by omega)) (fun _ => ?_)
                    refine z_iload_n C 2 dJ6_stringSize_0f7a4_22 rfl ?_
                    refine z_iload_n C 1 dJ6_stringSize_0f7a4_23 rfl ?_
                    refine z_icmp_le (tgt := 31) C dJ6_stringSize_0f7a4_24 (by decide) (by omega) (by omega) (fun hby19 => ?_) (fun hby19 => ?_)
                    · refine z_bipush (z := 10) C dJ6_stringSize_0f7a4_31 (by decide) ?_
                      refine z_iload_n C 1 dJ6_stringSize_0f7a4_33 rfl ?_
                      refine z_imul C dJ6_stringSize_0f7a4_34 ?_
                      refine z_istore_n (lv' := [(2, .int (zI (10 * (10 * (10 * (10 * (10 * (10 * (10 * (10 * (10 * (-10)))))))))))), (3, .int (zI (9))), (0, .int (zI (-(z)))), (1, .int (zI (0)))]) C dJ6_stringSize_0f7a4_35 rfl (by decide) rfl ?_
                      refine z_iinc (z := 10) (lv' := [(3, .int (zI (10))), (2, .int (zI (10 * (10 * (10 * (10 * (10 * (10 * (10 * (10 * (10 * (-10)))))))))))), (0, .int (zI (-(z)))), (1, .int (zI (0)))]) (j := 1) C dJ6_stringSize_0f7a4_36 rfl (congrArg zI (by omega)) (by decide) rfl ?_
                      refine z_goto (tgt := 16) C dJ6_stringSize_0f7a4_39 (by decide) ?_
                      refine z_iload_n C 0 dJ6_stringSize_0f7a4_16 rfl ?_
                      refine z_bipush (z := 10) C dJ6_stringSize_0f7a4_17 (by decide) ?_
                      refine z_icmp_ge (tgt := 42) C dJ6_stringSize_0f7a4_19 (by decide) (by omega) (by omega) (fun _ => ?_) (fun h => absurd h (by omega))
                      refine z_bipush (z := 10) C dJ6_stringSize_0f7a4_42 (by decide) ?_
                      refine z_iload_n C 3 dJ6_stringSize_0f7a4_44 rfl ?_
                      refine z_iadd C dJ6_stringSize_0f7a4_45 ?_
                      exact z_iret C hr hlk dJ6_stringSize_0f7a4_46 (by decide) (by decide) ⟨10 + 0, rfl, rfl, rfl, by omega, by omega, rfl⟩
                    · refine z_iload_n C 0 dJ6_stringSize_0f7a4_27 rfl ?_
                      refine z_iload_n C 3 dJ6_stringSize_0f7a4_28 rfl ?_
                      refine z_iadd C dJ6_stringSize_0f7a4_29 ?_
                      exact z_iret C hr hlk dJ6_stringSize_0f7a4_30 (by decide) (by decide) ⟨9 + 0, rfl, rfl, rfl, by omega, by omega, rfl⟩
                  · refine z_iload_n C 0 dJ6_stringSize_0f7a4_27 rfl ?_
                    refine z_iload_n C 3 dJ6_stringSize_0f7a4_28 rfl ?_
                    refine z_iadd C dJ6_stringSize_0f7a4_29 ?_
                    exact z_iret C hr hlk dJ6_stringSize_0f7a4_30 (by decide) (by decide) ⟨8 + 0, rfl, rfl, rfl, by omega, by omega, rfl⟩
                · refine z_iload_n C 0 dJ6_stringSize_0f7a4_27 rfl ?_
                  refine z_iload_n C 3 dJ6_stringSize_0f7a4_28 rfl ?_
                  refine z_iadd C dJ6_stringSize_0f7a4_29 ?_
                  exact z_iret C hr hlk dJ6_stringSize_0f7a4_30 (by decide) (by decide) ⟨7 + 0, rfl, rfl, rfl, by omega, by omega, rfl⟩
              · refine z_iload_n C 0 dJ6_stringSize_0f7a4_27 rfl ?_
                refine z_iload_n C 3 dJ6_stringSize_0f7a4_28 rfl ?_
                refine z_iadd C dJ6_stringSize_0f7a4_29 ?_
                exact z_iret C hr hlk dJ6_stringSize_0f7a4_30 (by decide) (by decide) ⟨6 + 0, rfl, rfl, rfl, by omega, by omega, rfl⟩
            · refine z_iload_n C 0 dJ6_stringSize_0f7a4_27 rfl ?_
              refine z_iload_n C 3 dJ6_stringSize_0f7a4_28 rfl ?_
              refine z_iadd C dJ6_stringSize_0f7a4_29 ?_
              exact z_iret C hr hlk dJ6_stringSize_0f7a4_30 (by decide) (by decide) ⟨5 + 0, rfl, rfl, rfl, by omega, by omega, rfl⟩
          · refine z_iload_n C 0 dJ6_stringSize_0f7a4_27 rfl ?_
            refine z_iload_n C 3 dJ6_stringSize_0f7a4_28 rfl ?_
            refine z_iadd C dJ6_stringSize_0f7a4_29 ?_
            exact z_iret C hr hlk dJ6_stringSize_0f7a4_30 (by decide) (by decide) ⟨4 + 0, rfl, rfl, rfl, by omega, by omega, rfl⟩
        · refine z_iload_n C 0 dJ6_stringSize_0f7a4_27 rfl ?_
          refine z_iload_n C 3 dJ6_stringSize_0f7a4_28 rfl ?_
          refine z_iadd C dJ6_stringSize_0f7a4_29 ?_
          exact z_iret C hr hlk dJ6_stringSize_0f7a4_30 (by decide) (by decide) ⟨3 + 0, rfl, rfl, rfl, by omega, by omega, rfl⟩
      · refine z_iload_n C 0 dJ6_stringSize_0f7a4_27 rfl ?_
        refine z_iload_n C 3 dJ6_stringSize_0f7a4_28 rfl ?_
        refine z_iadd C dJ6_stringSize_0f7a4_29 ?_
        exact z_iret C hr hlk dJ6_stringSize_0f7a4_30 (by decide) (by decide) ⟨2 + 0, rfl, rfl, rfl, by omega, by omega, rfl⟩
    · refine z_iload_n C 0 dJ6_stringSize_0f7a4_27 rfl ?_
      refine z_iload_n C 3 dJ6_stringSize_0f7a4_28 rfl ?_
      refine z_iadd C dJ6_stringSize_0f7a4_29 ?_
      exact z_iret C hr hlk dJ6_stringSize_0f7a4_30 (by decide) (by decide) ⟨1 + 0, rfl, rfl, rfl, by omega, by omega, rfl⟩

set_option maxRecDepth 100000 in
set_option maxHeartbeats 4000000 in
theorem c_getChars (l : Launch) (D : va_G) (A : Nat → Prop) (cs : Nat → ClassId) (tt : Nat) (N : Nat) (ad : Nat → Nat) (g : Nat → va_E) (v cap : Nat) (hv : v < N) (hcap : cap ≤ 1000) (b : Nat → Int) (hby : ∀ j, -128 ≤ b j ∧ b j ≤ 127) (hgv : g v = bA cs cap b) (z : Int) (hz : -2147483648 ≤ z ∧ z ≤ 2147483647) (z1 : Int) (hz1 : z1 ≤ (cap : Int)) (hdg : ((0 ≤ z ∧ ((1 ≤ z1 ∧ -10 < -(z)) ∨ (2 ≤ z1 ∧ -100 < -(z)) ∨ (3 ≤ z1 ∧ -1000 < -(z)) ∨ (4 ≤ z1 ∧ -10000 < -(z)) ∨ (5 ≤ z1 ∧ -100000 < -(z)) ∨ (6 ≤ z1 ∧ -1000000 < -(z)) ∨ (7 ≤ z1 ∧ -10000000 < -(z)) ∨ (8 ≤ z1 ∧ -100000000 < -(z)) ∨ (9 ≤ z1 ∧ -1000000000 < -(z)) ∨ (10 ≤ z1 ∧ -10000000000 < -(z)))) ∨ (z < 0 ∧ ((1 ≤ z1 - 1 ∧ -10 < z) ∨ (2 ≤ z1 - 1 ∧ -100 < z) ∨ (3 ≤ z1 - 1 ∧ -1000 < z) ∨ (4 ≤ z1 - 1 ∧ -10000 < z) ∨ (5 ≤ z1 - 1 ∧ -100000 < z) ∨ (6 ≤ z1 - 1 ∧ -1000000 < z) ∨ (7 ≤ z1 - 1 ∧ -10000000 < z) ∨ (8 ≤ z1 - 1 ∧ -100000000 < z) ∨ (9 ≤ z1 - 1 ∧ -1000000000 < z) ∨ (10 ≤ z1 - 1 ∧ -10000000000 < z))))) : zM l yJ6_getChars_ba4f3 cJ6_getChars_ba4f3 7 (some .int) ({ frames := 1, cells := 0, slots := 0, locals := 60 } : Room) D A cs tt N ad g [.int (zI (z)), .int (zI (z1)), .ref (ad v)] (rI0 N ad fun r g' => (-2147483648 ≤ r ∧ r ≤ 2147483647) ∧ (∃ b' : Nat → Int, (∀ j, -128 ≤ b' j ∧ b' j ≤ 127) ∧ g' v = bA cs cap b') ∧ ∀ j, j ≠ v → g' j = g j) := by
  have hay1 : zAt ad (v) (ad v) := rfl
  refine z_of (by decide) (Nat.le_of_ble_eq_true rfl) ?_
  intro p e s m below meth c C hr hlk hnm
  refine z_lv (lv' := [(0, .int (zI (z))), (1, .int (zI (z1))), (2, .ref (ad v))]) [0, 1, 2] rfl ?_
  have hz1p : 0 ≤ z1 := by omega
  refine z_iload_n C 1 dJ6_getChars_ba4f3_0 rfl ?_
  refine z_istore (lv' := [(5, .int (zI (z1))), (0, .int (zI (z))), (1, .int (zI (z1))), (2, .ref (ad v))]) C dJ6_getChars_ba4f3_1 (by decide) rfl ?_
  refine z_iload_n C 1 dJ6_getChars_ba4f3_3 rfl ?_
  refine z_if_ge (tgt := 11) C dJ6_getChars_ba4f3_4 (by decide) (by omega) (fun hby2 => ?_) (fun hby2 => ?_)
  · refine z_iconst (z := 0) C dJ6_getChars_ba4f3_11 rfl ?_
    refine z_istore (lv' := [(6, .int (zI (0))), (5, .int (zI (z1))), (0, .int (zI (z))), (1, .int (zI (z1))), (2, .ref (ad v))]) C dJ6_getChars_ba4f3_12 (by decide) rfl ?_
    refine z_iload C 0 dJ6_getChars_ba4f3_14 rfl ?_
    refine z_if_ne (tgt := 22) C dJ6_getChars_ba4f3_16 (by decide) (by omega) (fun h => absurd h (by omega)) (fun _ => ?_)
    refine z_iload_n C 2 dJ6_getChars_ba4f3_19 rfl ?_
    refine z_ineg C dJ6_getChars_ba4f3_20 ?_
    refine z_istore_n (lv' := [(0, .int (zI (-(z)))), (6, .int (zI (0))), (5, .int (zI (z1))), (1, .int (zI (z1))), (2, .ref (ad v))]) C dJ6_getChars_ba4f3_21 rfl (by decide) rfl ?_
    have lp : ∀ (n9 : Nat) (i9 : Int) (p9 : Int) (b9 : Nat → Int) (g1 : Nat → va_E), (p9).toNat = n9 → (g1 v = bA cs cap b9) → (∀ j, -128 ≤ b9 j ∧ b9 j ≤ 127) → (∀ j, j ≠ v → g1 j = g j) → ((-2147483648 ≤ i9 ∧ i9 ≤ 0) ∧ 0 ≤ p9 ∧ p9 ≤ (cap : Int)) → (((1 ≤ p9 - 0 ∧ -10 < i9) ∨ (2 ≤ p9 - 0 ∧ -100 < i9) ∨ (3 ≤ p9 - 0 ∧ -1000 < i9) ∨ (4 ≤ p9 - 0 ∧ -10000 < i9) ∨ (5 ≤ p9 - 0 ∧ -100000 < i9) ∨ (6 ≤ p9 - 0 ∧ -1000000 < i9) ∨ (7 ≤ p9 - 0 ∧ -10000000 < i9) ∨ (8 ≤ p9 - 0 ∧ -100000000 < i9) ∨ (9 ≤ p9 - 0 ∧ -1000000000 < i9) ∨ (10 ≤ p9 - 0 ∧ -10000000000 < i9))) → zV p l e ({ frames := 1, cells := 0, slots := 0, locals := 60 } : Room) s m ([.int (zI (z)), .int (zI (z1)), .ref (ad v)] : List Value).toArray below meth c (MQ below (zPost D A (rI0 N ad fun r g' => (-2147483648 ≤ r ∧ r ≤ 2147483647) ∧ (∃ b' : Nat → Int, (∀ j, -128 ≤ b' j ∧ b' j ≤ 127) ∧ g' v = bA cs cap b') ∧ ∀ j, j ≠ v → g' j = g j)) ([.int (zI (z)), .int (zI (z1)), .ref (ad v)] : List Value).toArray s ({ frames := 1, cells := 0, slots := 0, locals := 60 } : Room).cells ({ frames := 1, cells := 0, slots := 0, locals := 60 } : Room).slots A) D A 7 (N) ad g1 (0) (0) 22 [(0, .int (zI (i9))), (5, .int (zI (p9))), (6, .int (zI (0))), (2, .ref (ad v))] [] := by
      intro n9
      induction n9 using Nat.strongRecOn with
      | ind n9 ih =>
        intro i9 p9 b9 g1 hm9 f1 f6 f3 f4 f5
        have hay3 : zAt ad (v) (ad v) := rfl
        refine z_iload_n C 0 dJ6_getChars_ba4f3_22 rfl ?_
        refine z_bipush (z := -100) C dJ6_getChars_ba4f3_23 (by decide) ?_
        refine z_icmp_gt (tgt := 72) C dJ6_getChars_ba4f3_25 (by decide) (by omega) (by omega) (fun hby4 => ?_) (fun hby4 => ?_)
        · refine z_aload_n C 3 dJ6_getChars_ba4f3_72 rfl ?_
          refine z_iinc (z := p9 - 1) (lv' := [(5, .int (zI (p9 - 1))), (0, .int (zI (i9))), (6, .int (zI (0))), (2, .ref (ad v))]) (j := 1) C dJ6_getChars_ba4f3_73 rfl (congrArg zI (by omega)) (by decide) rfl ?_
          refine z_iload C 0 dJ6_getChars_ba4f3_76 rfl ?_
          refine z_getSt C stm1 q_1104 dJ6_getChars_ba4f3_78 ?_
          refine z_iload_n C 1 dJ6_getChars_ba4f3_81 rfl ?_
          refine z_ineg C dJ6_getChars_ba4f3_82 ?_
          obtain ⟨yy5, eyy5, hyy5⟩ := getD_b stv1 (j := (-(i9)).toNat) (by rw [stl1]; omega)
          refine z_stbald (y := yy5) C stm1 ((-(i9)).toNat) (by omega) (by rw [stl1]; omega) (by rw [stl1]; decide) eyy5 dJ6_getChars_ba4f3_83 ?_
          refine z_bast C (by omega) hay3 f1 ((p9 - 1).toNat) (by omega) (by omega) (by omega) (by omega) dJ6_getChars_ba4f3_84 (fun gy6 egy7 => ?_)
          have hgy8 := up_s egy7
          refine z_iload_n C 1 dJ6_getChars_ba4f3_85 rfl ?_
          refine z_bipush (z := -9) C dJ6_getChars_ba4f3_86 (by decide) ?_
          refine z_icmp_ge (tgt := 104) C dJ6_getChars_ba4f3_88 (by decide) (by omega) (by omega) (fun hby9 => ?_) (fun hby9 => ?_)
          · refine z_iload C 2 dJ6_getChars_ba4f3_104 rfl ?_
            refine z_if_eq (tgt := 118) C dJ6_getChars_ba4f3_106 (by decide) (by omega) (fun _ => ?_) (fun h => absurd h (by omega))
            refine z_iload C 0 dJ6_getChars_ba4f3_118 rfl ?_
            exact z_iret C hr hlk dJ6_getChars_ba4f3_120 (by decide) (by decide) ⟨p9 - 1, rfl, rfl, rfl, by omega, ⟨_, (uB f6 (by omega)), hgy8⟩, fun j j1 => by rw [egy7, va_up_ne _ _ (by omega)]; exact f3 j j1⟩
          · refine z_aload_n C 3 dJ6_getChars_ba4f3_91 rfl ?_
            refine z_iinc (z := p9 - 1 - 1) (lv' := [(5, .int (zI (p9 - 1 - 1))), (0, .int (zI (i9))), (6, .int (zI (0))), (2, .ref (ad v))]) (j := 0) C dJ6_getChars_ba4f3_92 rfl (congrArg zI (by omega)) (by decide) rfl ?_
            refine z_iload C 0 dJ6_getChars_ba4f3_95 rfl ?_
            refine z_getSt C stm2 q_1106 dJ6_getChars_ba4f3_97 ?_
            refine z_iload_n C 1 dJ6_getChars_ba4f3_100 rfl ?_
            refine z_ineg C dJ6_getChars_ba4f3_101 ?_
            obtain ⟨yy10, eyy10, hyy10⟩ := getD_b stv2 (j := (-(i9)).toNat) (by rw [stl2]; omega)
            refine z_stbald (y := yy10) C stm2 ((-(i9)).toNat) (by omega) (by rw [stl2]; omega) (by rw [stl2]; decide) eyy10 dJ6_getChars_ba4f3_102 ?_
            refine z_bast C (by omega) hay3 hgy8 ((p9 - 1 - 1).toNat) (by omega) (by omega) (by omega) (by omega) dJ6_getChars_ba4f3_103 (fun gy11 egy12 => ?_)
            have hgy13 := up_s egy12
            refine z_iload C 2 dJ6_getChars_ba4f3_104 rfl ?_
            refine z_if_eq (tgt := 118) C dJ6_getChars_ba4f3_106 (by decide) (by omega) (fun _ => ?_) (fun h => absurd h (by omega))
            refine z_iload C 0 dJ6_getChars_ba4f3_118 rfl ?_
            exact z_iret C hr hlk dJ6_getChars_ba4f3_120 (by decide) (by decide) ⟨p9 - 1 - 1, rfl, rfl, rfl, by omega, ⟨_, (uB (uB f6 (by omega)) (by omega)), hgy13⟩, fun j j1 => by rw [egy12, va_up_ne _ _ (by omega)]; rw [egy7, va_up_ne _ _ (by omega)]; exact f3 j j1⟩
        · refine z_iload_n C 0 dJ6_getChars_ba4f3_28 rfl ?_
          refine z_bipush (z := 100) C dJ6_getChars_ba4f3_29 (by decide) ?_
          refine z_idiv C dJ6_getChars_ba4f3_31 (by omega) (by omega) (by omega) ?_
          obtain ⟨xy14, exy14, hxy14⟩ := tdn (a := i9) (by omega)
          rw [exy14]
          refine z_istore_n (lv' := [(3, .int (zI (xy14))), (0, .int (zI (i9))), (5, .int (zI (p9))), (6, .int (zI (0))), (2, .ref (ad v))]) C dJ6_getChars_ba4f3_32 rfl (by decide) rfl ?_
          refine z_iload_n C 0 dJ6_getChars_ba4f3_33 rfl ?_
          refine z_bipush (z := 100) C dJ6_getChars_ba4f3_34 (by decide) ?_
          refine z_imul C dJ6_getChars_ba4f3_36 ?_
          refine z_iload_n C 1 dJ6_getChars_ba4f3_37 rfl ?_
          refine z_isub C dJ6_getChars_ba4f3_38 ?_
          refine z_istore (lv' := [(4, .int (zI ((xy14 * 100) - i9))), (3, .int (zI (xy14))), (0, .int (zI (i9))), (5, .int (zI (p9))), (6, .int (zI (0))), (2, .ref (ad v))]) C dJ6_getChars_ba4f3_39 (by decide) rfl ?_
          refine z_iload_n C 1 dJ6_getChars_ba4f3_41 rfl ?_
          refine z_istore_n (lv' := [(0, .int (zI (xy14))), (4, .int (zI ((xy14 * 100) - i9))), (3, .int (zI (xy14))), (5, .int (zI (p9))), (6, .int (zI (0))), (2, .ref (ad v))]) C dJ6_getChars_ba4f3_42 rfl (by decide) rfl ?_
          refine z_aload_n C 5 dJ6_getChars_ba4f3_43 rfl ?_
          refine z_iinc (z := p9 - 1) (lv' := [(5, .int (zI (p9 - 1))), (0, .int (zI (xy14))), (4, .int (zI ((xy14 * 100) - i9))), (3, .int (zI (xy14))), (6, .int (zI (0))), (2, .ref (ad v))]) (j := 3) C dJ6_getChars_ba4f3_44 rfl (congrArg zI (by omega)) (by decide) rfl ?_
          refine z_iload C 0 dJ6_getChars_ba4f3_47 rfl ?_
          refine z_getSt C stm1 q_1104 dJ6_getChars_ba4f3_49 ?_
          refine z_iload C 2 dJ6_getChars_ba4f3_52 rfl ?_
          obtain ⟨yy15, eyy15, hyy15⟩ := getD_b stv1 (j := ((xy14 * 100) - i9).toNat) (by rw [stl1]; omega)
          refine z_stbald (y := yy15) C stm1 (((xy14 * 100) - i9).toNat) (by omega) (by rw [stl1]; omega) (by rw [stl1]; decide) eyy15 dJ6_getChars_ba4f3_54 ?_
          refine z_bast C (by omega) hay3 f1 ((p9 - 1).toNat) (by omega) (by omega) (by omega) (by omega) dJ6_getChars_ba4f3_55 (fun gy16 egy17 => ?_)
          have hgy18 := up_s egy17
          refine z_aload_n C 5 dJ6_getChars_ba4f3_56 rfl ?_
          refine z_iinc (z := p9 - 1 - 1) (lv' := [(5, .int (zI (p9 - 1 - 1))), (0, .int (zI (xy14))), (4, .int (zI ((xy14 * 100) - i9))), (3, .int (zI (xy14))), (6, .int (zI (0))), (2, .ref (ad v))]) (j := 0) C dJ6_getChars_ba4f3_57 rfl (congrArg zI (by omega)) (by decide) rfl ?_
          refine z_iload C 0 dJ6_getChars_ba4f3_60 rfl ?_
          refine z_getSt C stm2 q_1106 dJ6_getChars_ba4f3_62 ?_
          refine z_iload C 2 dJ6_getChars_ba4f3_65 rfl ?_
          obtain ⟨yy19, eyy19, hyy19⟩ := getD_b stv2 (j := ((xy14 * 100) - i9).toNat) (by rw [stl2]; omega)
          refine z_stbald (y := yy19) C stm2 (((xy14 * 100) - i9).toNat) (by omega) (by rw [stl2]; omega) (by rw [stl2]; decide) eyy19 dJ6_getChars_ba4f3_67 ?_
          refine z_bast C (by omega) hay3 hgy18 ((p9 - 1 - 1).toNat) (by omega) (by omega) (by omega) (by omega) dJ6_getChars_ba4f3_68 (fun gy20 egy21 => ?_)
          have hgy22 := up_s egy21
          refine z_goto (tgt := 22) C dJ6_getChars_ba4f3_69 (by decide) ?_
          refine z_lv (lv' := [(0, .int (zI (xy14))), (5, .int (zI (p9 - 1 - 1))), (6, .int (zI (0))), (2, .ref (ad v))]) [1, 0, 4, 5] rfl ?_
          exact ih _ (by omega) (xy14) (p9 - 1 - 1) _ gy20 rfl hgy22 (uB (uB f6 (by omega)) (by omega)) (fun j j1 => by rw [egy21, va_up_ne _ _ (by omega)]; rw [egy17, va_up_ne _ _ (by omega)]; exact f3 j j1) (by omega) (by omega)
    refine z_lv (lv' := [(0, .int (zI (-(z)))), (5, .int (zI (z1))), (6, .int (zI (0))), (2, .ref (ad v))]) [0, 2, 1, 4] rfl ?_
    exact lp _ (-(z)) (z1) _ g rfl hgv hby (fun j j1 => by rfl) (by omega) (by omega)
  · refine z_iconst (z := 1) C dJ6_getChars_ba4f3_7 rfl ?_
    refine z_goto (tgt := 12) C dJ6_getChars_ba4f3_8 (by decide) ?_
    refine z_istore (lv' := [(6, .int (zI (1))), (5, .int (zI (z1))), (0, .int (zI (z))), (1, .int (zI (z1))), (2, .ref (ad v))]) C dJ6_getChars_ba4f3_12 (by decide) rfl ?_
    refine z_iload C 0 dJ6_getChars_ba4f3_14 rfl ?_
    refine z_if_ne (tgt := 22) C dJ6_getChars_ba4f3_16 (by decide) (by omega) (fun _ => ?_) (fun h => absurd h (by omega))
    have lp : ∀ (n9 : Nat) (i9 : Int) (p9 : Int) (b9 : Nat → Int) (g1 : Nat → va_E), (p9).toNat = n9 → (g1 v = bA cs cap b9) → (∀ j, -128 ≤ b9 j ∧ b9 j ≤ 127) → (∀ j, j ≠ v → g1 j = g j) → ((-2147483648 ≤ i9 ∧ i9 ≤ 0) ∧ 0 ≤ p9 ∧ p9 ≤ (cap : Int)) → (((1 ≤ p9 - 1 ∧ -10 < i9) ∨ (2 ≤ p9 - 1 ∧ -100 < i9) ∨ (3 ≤ p9 - 1 ∧ -1000 < i9) ∨ (4 ≤ p9 - 1 ∧ -10000 < i9) ∨ (5 ≤ p9 - 1 ∧ -100000 < i9) ∨ (6 ≤ p9 - 1 ∧ -1000000 < i9) ∨ (7 ≤ p9 - 1 ∧ -10000000 < i9) ∨ (8 ≤ p9 - 1 ∧ -100000000 < i9) ∨ (9 ≤ p9 - 1 ∧ -1000000000 < i9) ∨ (10 ≤ p9 - 1 ∧ -10000000000 < i9))) → zV p l e ({ frames := 1, cells := 0, slots := 0, locals := 60 } : Room) s m ([.int (zI (z)), .int (zI (z1)), .ref (ad v)] : List Value).toArray below meth c (MQ below (zPost D A (rI0 N ad fun r g' => (-2147483648 ≤ r ∧ r ≤ 2147483647) ∧ (∃ b' : Nat → Int, (∀ j, -128 ≤ b' j ∧ b' j ≤ 127) ∧ g' v = bA cs cap b') ∧ ∀ j, j ≠ v → g' j = g j)) ([.int (zI (z)), .int (zI (z1)), .ref (ad v)] : List Value).toArray s ({ frames := 1, cells := 0, slots := 0, locals := 60 } : Room).cells ({ frames := 1, cells := 0, slots := 0, locals := 60 } : Room).slots A) D A 7 (N) ad g1 (0) (0) 22 [(0, .int (zI (i9))), (5, .int (zI (p9))), (6, .int (zI (1))), (2, .ref (ad v))] [] := by
      intro n9
      induction n9 using Nat.strongRecOn with
      | ind n9 ih =>
        intro i9 p9 b9 g1 hm9 f1 f6 f3 f4 f5
        have hay23 : zAt ad (v) (ad v) := rfl
        refine z_iload_n C 0 dJ6_getChars_ba4f3_22 rfl ?_
        refine z_bipush (z := -100) C dJ6_getChars_ba4f3_23 (by decide) ?_
        refine z_icmp_gt (tgt := 72) C dJ6_getChars_ba4f3_25 (by decide) (by omega) (by omega) (fun hby24 => ?_) (fun hby24 => ?_)
        · refine z_aload_n C 3 dJ6_getChars_ba4f3_72 rfl ?_
          refine z_iinc (z := p9 - 1) (lv' := [(5, .int (zI (p9 - 1))), (0, .int (zI (i9))), (6, .int (zI (1))), (2, .ref (ad v))]) (j := 1) C dJ6_getChars_ba4f3_73 rfl (congrArg zI (by omega)) (by decide) rfl ?_
          refine z_iload C 0 dJ6_getChars_ba4f3_76 rfl ?_
          refine z_getSt C stm1 q_1104 dJ6_getChars_ba4f3_78 ?_
          refine z_iload_n C 1 dJ6_getChars_ba4f3_81 rfl ?_
          refine z_ineg C dJ6_getChars_ba4f3_82 ?_
          obtain ⟨yy25, eyy25, hyy25⟩ := getD_b stv1 (j := (-(i9)).toNat) (by rw [stl1]; omega)
          refine z_stbald (y := yy25) C stm1 ((-(i9)).toNat) (by omega) (by rw [stl1]; omega) (by rw [stl1]; decide) eyy25 dJ6_getChars_ba4f3_83 ?_
          refine z_bast C (by omega) hay23 f1 ((p9 - 1).toNat) (by omega) (by omega) (by omega) (by omega) dJ6_getChars_ba4f3_84 (fun gy26 egy27 => ?_)
          have hgy28 := up_s egy27
          refine z_iload_n C 1 dJ6_getChars_ba4f3_85 rfl ?_
          refine z_bipush (z := -9) C dJ6_getChars_ba4f3_86 (by decide) ?_
          refine z_icmp_ge (tgt := 104) C dJ6_getChars_ba4f3_88 (by decide) (by omega) (by omega) (fun hby29 => ?_) (fun hby29 => ?_)
          · refine z_iload C 2 dJ6_getChars_ba4f3_104 rfl ?_
            refine z_if_eq (tgt := 118) C dJ6_getChars_ba4f3_106 (by decide) (by omega) (fun h => absurd h (by omega)) (fun _ => ?_)
            refine z_aload_n C 3 dJ6_getChars_ba4f3_109 rfl ?_
            refine z_iinc (z := p9 - 1 - 1) (lv' := [(5, .int (zI (p9 - 1 - 1))), (0, .int (zI (i9))), (6, .int (zI (1))), (2, .ref (ad v))]) (j := 0) C dJ6_getChars_ba4f3_110 rfl (congrArg zI (by omega)) (by decide) rfl ?_
            refine z_iload C 0 dJ6_getChars_ba4f3_113 rfl ?_
            refine z_bipush (z := 45) C dJ6_getChars_ba4f3_115 (by decide) ?_
            refine z_bast C (by omega) hay23 hgy28 ((p9 - 1 - 1).toNat) (by omega) (by omega) (by omega) (by omega) dJ6_getChars_ba4f3_117 (fun gy30 egy31 => ?_)
            have hgy32 := up_s egy31
            refine z_iload C 0 dJ6_getChars_ba4f3_118 rfl ?_
            exact z_iret C hr hlk dJ6_getChars_ba4f3_120 (by decide) (by decide) ⟨p9 - 1 - 1, rfl, rfl, rfl, by omega, ⟨_, (uB (uB f6 (by omega)) (by omega)), hgy32⟩, fun j j1 => by rw [egy31, va_up_ne _ _ (by omega)]; rw [egy27, va_up_ne _ _ (by omega)]; exact f3 j j1⟩
          · refine z_aload_n C 3 dJ6_getChars_ba4f3_91 rfl ?_
            refine z_iinc (z := p9 - 1 - 1) (lv' := [(5, .int (zI (p9 - 1 - 1))), (0, .int (zI (i9))), (6, .int (zI (1))), (2, .ref (ad v))]) (j := 0) C dJ6_getChars_ba4f3_92 rfl (congrArg zI (by omega)) (by decide) rfl ?_
            refine z_iload C 0 dJ6_getChars_ba4f3_95 rfl ?_
            refine z_getSt C stm2 q_1106 dJ6_getChars_ba4f3_97 ?_
            refine z_iload_n C 1 dJ6_getChars_ba4f3_100 rfl ?_
            refine z_ineg C dJ6_getChars_ba4f3_101 ?_
            obtain ⟨yy33, eyy33, hyy33⟩ := getD_b stv2 (j := (-(i9)).toNat) (by rw [stl2]; omega)
            refine z_stbald (y := yy33) C stm2 ((-(i9)).toNat) (by omega) (by rw [stl2]; omega) (by rw [stl2]; decide) eyy33 dJ6_getChars_ba4f3_102 ?_
            refine z_bast C (by omega) hay23 hgy28 ((p9 - 1 - 1).toNat) (by omega) (by omega) (by omega) (by omega) dJ6_getChars_ba4f3_103 (fun gy34 egy35 => ?_)
            have hgy36 := up_s egy35
            refine z_iload C 2 dJ6_getChars_ba4f3_104 rfl ?_
            refine z_if_eq (tgt := 118) C dJ6_getChars_ba4f3_106 (by decide) (by omega) (fun h => absurd h (by omega)) (fun _ => ?_)
            refine z_aload_n C 3 dJ6_getChars_ba4f3_109 rfl ?_
            refine z_iinc (z := p9 - 1 - 1 - 1) (lv' := [(5, .int (zI (p9 - 1 - 1 - 1))), (0, .int (zI (i9))), (6, .int (zI (1))), (2, .ref (ad v))]) (j := 0) C dJ6_getChars_ba4f3_110 rfl (congrArg zI (by omega)) (by decide) rfl ?_
            refine z_iload C 0 dJ6_getChars_ba4f3_113 rfl ?_
            refine z_bipush (z := 45) C dJ6_getChars_ba4f3_115 (by decide) ?_
            refine z_bast C (by omega) hay23 hgy36 ((p9 - 1 - 1 - 1).toNat) (by omega) (by omega) (by omega) (by omega) dJ6_getChars_ba4f3_117 (fun gy37 egy38 => ?_)
            have hgy39 := up_s egy38
            refine z_iload C 0 dJ6_getChars_ba4f3_118 rfl ?_
            exact z_iret C hr hlk dJ6_getChars_ba4f3_120 (by decide) (by decide) ⟨p9 - 1 - 1 - 1, rfl, rfl, rfl, by omega, ⟨_, (uB (uB (uB f6 (by omega)) (by omega)) (by omega)), hgy39⟩, fun j j1 => by rw [egy38, va_up_ne _ _ (by omega)]; rw [egy35, va_up_ne _ _ (by omega)]; rw [egy27, va_up_ne _ _ (by omega)]; exact f3 j j1⟩
        · refine z_iload_n C 0 dJ6_getChars_ba4f3_28 rfl ?_
          refine z_bipush (z := 100) C dJ6_getChars_ba4f3_29 (by decide) ?_
          refine z_idiv C dJ6_getChars_ba4f3_31 (by omega) (by omega) (by omega) ?_
          obtain ⟨xy40, exy40, hxy40⟩ := tdn (a := i9) (by omega)
          rw [exy40]
          refine z_istore_n (lv' := [(3, .int (zI (xy40))), (0, .int (zI (i9))), (5, .int (zI (p9))), (6, .int (zI (1))), (2, .ref (ad v))]) C dJ6_getChars_ba4f3_32 rfl (by decide) rfl ?_
          refine z_iload_n C 0 dJ6_getChars_ba4f3_33 rfl ?_
          refine z_bipush (z := 100) C dJ6_getChars_ba4f3_34 (by decide) ?_
          refine z_imul C dJ6_getChars_ba4f3_36 ?_
          refine z_iload_n C 1 dJ6_getChars_ba4f3_37 rfl ?_
          refine z_isub C dJ6_getChars_ba4f3_38 ?_
          refine z_istore (lv' := [(4, .int (zI ((xy40 * 100) - i9))), (3, .int (zI (xy40))), (0, .int (zI (i9))), (5, .int (zI (p9))), (6, .int (zI (1))), (2, .ref (ad v))]) C dJ6_getChars_ba4f3_39 (by decide) rfl ?_
          refine z_iload_n C 1 dJ6_getChars_ba4f3_41 rfl ?_
          refine z_istore_n (lv' := [(0, .int (zI (xy40))), (4, .int (zI ((xy40 * 100) - i9))), (3, .int (zI (xy40))), (5, .int (zI (p9))), (6, .int (zI (1))), (2, .ref (ad v))]) C dJ6_getChars_ba4f3_42 rfl (by decide) rfl ?_
          refine z_aload_n C 5 dJ6_getChars_ba4f3_43 rfl ?_
          refine z_iinc (z := p9 - 1) (lv' := [(5, .int (zI (p9 - 1))), (0, .int (zI (xy40))), (4, .int (zI ((xy40 * 100) - i9))), (3, .int (zI (xy40))), (6, .int (zI (1))), (2, .ref (ad v))]) (j := 3) C dJ6_getChars_ba4f3_44 rfl (congrArg zI (by omega)) (by decide) rfl ?_
          refine z_iload C 0 dJ6_getChars_ba4f3_47 rfl ?_
          refine z_getSt C stm1 q_1104 dJ6_getChars_ba4f3_49 ?_
          refine z_iload C 2 dJ6_getChars_ba4f3_52 rfl ?_
          obtain ⟨yy41, eyy41, hyy41⟩ := getD_b stv1 (j := ((xy40 * 100) - i9).toNat) (by rw [stl1]; omega)
          refine z_stbald (y := yy41) C stm1 (((xy40 * 100) - i9).toNat) (by omega) (by rw [stl1]; omega) (by rw [stl1]; decide) eyy41 dJ6_getChars_ba4f3_54 ?_
          refine z_bast C (by omega) hay23 f1 ((p9 - 1).toNat) (by omega) (by omega) (by omega) (by omega) dJ6_getChars_ba4f3_55 (fun gy42 egy43 => ?_)
          have hgy44 := up_s egy43
          refine z_aload_n C 5 dJ6_getChars_ba4f3_56 rfl ?_
          refine z_iinc (z := p9 - 1 - 1) (lv' := [(5, .int (zI (p9 - 1 - 1))), (0, .int (zI (xy40))), (4, .int (zI ((xy40 * 100) - i9))), (3, .int (zI (xy40))), (6, .int (zI (1))), (2, .ref (ad v))]) (j := 0) C dJ6_getChars_ba4f3_57 rfl (congrArg zI (by omega)) (by decide) rfl ?_
          refine z_iload C 0 dJ6_getChars_ba4f3_60 rfl ?_
          refine z_getSt C stm2 q_1106 dJ6_getChars_ba4f3_62 ?_
          refine z_iload C 2 dJ6_getChars_ba4f3_65 rfl ?_
          obtain ⟨yy45, eyy45, hyy45⟩ := getD_b stv2 (j := ((xy40 * 100) - i9).toNat) (by rw [stl2]; omega)
          refine z_stbald (y := yy45) C stm2 (((xy40 * 100) - i9).toNat) (by omega) (by rw [stl2]; omega) (by rw [stl2]; decide) eyy45 dJ6_getChars_ba4f3_67 ?_
          refine z_bast C (by omega) hay23 hgy44 ((p9 - 1 - 1).toNat) (by omega) (by omega) (by omega) (by omega) dJ6_getChars_ba4f3_68 (fun gy46 egy47 => ?_)
          have hgy48 := up_s egy47
          refine z_goto (tgt := 22) C dJ6_getChars_ba4f3_69 (by decide) ?_
          refine z_lv (lv' := [(0, .int (zI (xy40))), (5, .int (zI (p9 - 1 - 1))), (6, .int (zI (1))), (2, .ref (ad v))]) [1, 0, 4, 5] rfl ?_
          exact ih _ (by omega) (xy40) (p9 - 1 - 1) _ gy46 rfl hgy48 (uB (uB f6 (by omega)) (by omega)) (fun j j1 => by rw [egy47, va_up_ne _ _ (by omega)]; rw [egy43, va_up_ne _ _ (by omega)]; exact f3 j j1) (by omega) (by omega)
    refine z_lv (lv' := [(0, .int (zI (z))), (5, .int (zI (z1))), (6, .int (zI (1))), (2, .ref (ad v))]) [2, 1, 0, 4] rfl ?_
    exact lp _ (z) (z1) _ g rfl hgv hby (fun j j1 => by rfl) (by omega) (by omega)

