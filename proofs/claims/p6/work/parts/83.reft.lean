section ZST2
variable {p : Program} {l : Launch} {e : Env} {R : Room} {s : State} {m : MethodId} {args : Array Value} {below : List Frame} {meth : Method} {c : Code} {Q : State → Prop} {D : va_G} {A : Nat → Prop} {cs : Nat → ClassId} {tt : Nat} {cc : ByteArray} {nL : Nat} {own : String} {N : Nat} {ad : Nat → Nat} {g : Nat → va_E} {k n pc : Nat} {lv lv' : List (Nat × Value)} {rest : List Value} {q : String × String × Nat × List Int32}
theorem z_stlen (C : zC p s m args c cc nL own D A cs tt) (hq : q ∈ STL) {L : Nat} (hL : q.2.2.2.length = L) (hdg : decode cc pc = .ok (.arraylength, 1)) (kk : zV p l e R s m args below meth c Q D A nL N ad g k n (pc + 1) (lv) (.int (zI (L : Int)) :: rest)) : zV p l e R s m args below meth c Q D A nL N ad g k n (pc) (lv) (.ref (cs (300 + q.2.2.1)) :: rest) := fun H locs ls hP hD hS hl => by
  subst hL
  exact va_tlen C.1 C.2.1 (C.S.2.1 q hq).2 hS (zI_nat _) hdg (kk H locs ls hP hD hS hl)
end ZST2
def RD (F : Nat → Int) : Prop := (0 ≤ F 32 ∧ F 32 ≤ F 34 ∧ F 34 ≤ 900) ∧ (0 ≤ F 33 ∧ F 33 ≤ 900) ∧ (0 ≤ F 35 ∧ F 35 ≤ 4) ∧ (-2147483648 ≤ F 36 ∧ F 36 ≤ 2147483647) ∧ (F 35 = 2 → 0 ≤ F 36 ∧ F 36 ≤ 99999) ∧ (-2147483648 ≤ F 37 ∧ F 37 ≤ 2147483647) ∧ (0 ≤ F 38 ∧ F 38 ≤ 5)

set_option maxRecDepth 100000 in
set_option maxHeartbeats 4000000 in
theorem c_X10_byteAt (l : Launch) (D : va_G) (A : Nat → Prop) (cs : Nat → ClassId) (tt : Nat) (N : Nat) (ad : Nat → Nat) (g : Nat → va_E) (i : Nat) (hN : i + 30 ≤ N) (F : Nat → Int) (hg : g i = mC ad i F) (tp : Nat → Int) (ha13 : g (i + 13) = iA cs 900 tp) (htp : ∀ k, k < 900 → 0 ≤ tp k ∧ tp k ≤ 255) (h34 : 0 ≤ F 34 ∧ F 34 ≤ 900) (z : Int) (hz : 0 ≤ z ∧ z ≤ 2000) : zM l yX10_byteAt cX10_byteAt 2 (some .int) ({ frames := 1, cells := 0, slots := 0, locals := 60 } : Room) D A cs tt N ad g [.ref (ad i), .int (zI (z))] (rI0 N ad fun r g' => (0 ≤ r ∧ r ≤ 255) ∧ ((z < F 34 ∧ r = tp z.toNat) ∨ (F 34 ≤ z ∧ r = 0)) ∧ g = g') := by
  have hay1 : zAt ad (i) (ad i) := rfl
  have hay2 : zAt ad (i + 13) (ad (i + 13)) := rfl
  refine z_of (by decide) (Nat.le_of_ble_eq_true rfl) ?_
  intro pZ eZ sZ mZ below meth cZ C hr hlk hnm
  refine z_lv (lv' := [(0, .ref (ad i)), (1, .int (zI (z)))]) [0, 1] rfl ?_
  refine z_iload_n C 1 dX10_byteAt_0 rfl ?_
  refine z_aload_n C 0 dX10_byteAt_1 rfl ?_
  refine z_get (v := .int (zI (F 34))) C (lt_A0 hN rfl) hay1 hg rfl inA_X10 34 (by decide) q_1493 rfl (fv (F := F) (f := 34) rfl) dX10_byteAt_2 ?_
  refine z_icmp_ge (tgt := 17) C dX10_byteAt_5 (by decide) (by omega) (by omega) (fun hby3 => ?_) (fun hby3 => ?_)
  · refine z_iconst (z := 0) C dX10_byteAt_17 rfl ?_
    exact z_iret C hr hlk dX10_byteAt_18 (by decide) (by decide) ⟨0, rfl, rfl, rfl, by omega, by omega, rfl⟩
  · refine z_aload_n C 0 dX10_byteAt_8 rfl ?_
    refine z_get (v := .ref (ad (i + 13))) C (lt_A0 hN rfl) hay1 hg rfl inA_X10 22 (by decide) q_1481 rfl rfl dX10_byteAt_9 ?_
    refine z_iload_n C 1 dX10_byteAt_12 rfl ?_
    refine z_iald C (lt_A (c := 13) hN rfl) hay2 ha13 ((z).toNat) (by omega) (by omega) (by decide) dX10_byteAt_13 ?_
    have hrfy4 := htp ((z).toNat) (by omega)
    refine z_goto (tgt := 18) C dX10_byteAt_14 (by decide) ?_
    exact z_iret C hr hlk dX10_byteAt_18 (by decide) (by decide) ⟨tp ((z).toNat), rfl, rfl, rfl, by omega, by omega, rfl⟩

