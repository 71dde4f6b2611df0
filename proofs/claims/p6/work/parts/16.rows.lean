theorem zJ_of (x : Int64) : ∃ z : Int, x = zJ z ∧ -9223372036854775808 ≤ z ∧ z ≤ 9223372036854775807 := ⟨x.toInt, (Int64.ofInt_toInt x).symm, by have := x.le_toInt; omega, by have := x.toInt_lt; omega⟩
theorem zJ_div {a b : Int} (ha : -9223372036854775808 ≤ a ∧ a ≤ 9223372036854775807) (hb : -9223372036854775808 ≤ b ∧ b ≤ 9223372036854775807) : zJ a / zJ b = zJ (a.tdiv b) := (Int64.ofInt_tdiv (by show (-9223372036854775808 : Int) ≤ a; omega) (by show a ≤ (9223372036854775807 : Int); omega) (by show (-9223372036854775808 : Int) ≤ b; omega) (by show b ≤ (9223372036854775807 : Int); omega)).symm
theorem zI_and (x : Int32) {m : Int32} (k : Nat) (hm : m.toBitVec.toNat = 2 ^ k - 1) : ∃ z : Int, x &&& m = zI z ∧ 0 ≤ z ∧ z < ((2 ^ k : Nat) : Int) := by
  obtain ⟨j, hj, e⟩ := pk_andE x k hm
  exact ⟨(j : Int), by rw [e]; exact zI_nat j, by omega, by omega⟩
def cmpZ (a b : Int) : Int := if b < a then 1 else if a = b then 0 else -1
theorem cmpZ_eq {a b : Int} : cmpZ a b = 0 ↔ a = b := by unfold cmpZ; split <;> (try split) <;> omega
theorem cmpZ_lt {a b : Int} : cmpZ a b < 0 ↔ a < b := by unfold cmpZ; split <;> (try split) <;> omega
theorem cmpZ_le {a b : Int} : cmpZ a b ≤ 0 ↔ a ≤ b := by unfold cmpZ; split <;> (try split) <;> omega
theorem cmpZ_gt {a b : Int} : 0 < cmpZ a b ↔ b < a := by unfold cmpZ; split <;> (try split) <;> omega
theorem cmpZ_ge {a b : Int} : 0 ≤ cmpZ a b ↔ b ≤ a := by unfold cmpZ; split <;> (try split) <;> omega
theorem cmpZ_r {a b : Int} : -1 ≤ cmpZ a b ∧ cmpZ a b ≤ 1 := by unfold cmpZ; split <;> (try split) <;> omega
theorem lg_cmpZ {a b : Int} (ha : -9223372036854775808 ≤ a ∧ a ≤ 9223372036854775807) (hb : -9223372036854775808 ≤ b ∧ b ≤ 9223372036854775807) : lg_cmp (zJ a) (zJ b) = zI (cmpZ a b) := by
  unfold lg_cmp cmpZ
  simp only [gt_iff_lt, zJ_lt hb ha, zJ_eq ha hb]
  by_cases h1 : b < a
  · rw [if_pos h1, if_pos h1]; rfl
  · rw [if_neg h1, if_neg h1]
    by_cases h2 : a = b
    · rw [if_pos h2, if_pos h2]; rfl
    · rw [if_neg h2, if_neg h2]; rfl
theorem mm_min (a b : Int) : ∃ x : Int, (if b < a then b else a) = x ∧ ((x = a ∧ a ≤ b) ∨ (x = b ∧ b < a)) := ⟨_, rfl, by split <;> omega⟩
theorem mm_max (a b : Int) : ∃ x : Int, (if a < b then b else a) = x ∧ ((x = a ∧ b ≤ a) ∨ (x = b ∧ a < b)) := ⟨_, rfl, by split <;> omega⟩
theorem mm_maxl (a b : Int) : ∃ x : Int, (if b < a then a else b) = x ∧ ((x = a ∧ b < a) ∨ (x = b ∧ a ≤ b)) := ⟨_, rfl, by split <;> omega⟩
theorem mm_abs (a : Int) : ∃ x : Int, (if 0 ≤ a then a else 0 - a) = x ∧ ((x = a ∧ 0 ≤ a) ∨ (x = -a ∧ a < 0)) := ⟨_, rfl, by split <;> omega⟩
section ZL
variable {p : Program} {l : Launch} {e : Env} {R : Room} {s : State} {m : MethodId} {args : Array Value} {below : List Frame} {meth : Method} {c : Code} {Q : State → Prop} {D : va_G} {A : Nat → Prop} {cs : Nat → ClassId} {tt : Nat} {cc : ByteArray} {nL : Nat} {own : String} {N : Nat} {ad : Nat → Nat} {g : Nat → va_E} {k n pc : Nat} {lv lv' : List (Nat × Value)} {rest : List Value}
theorem z_ldcw (C : zC p s m args c cc nL own D A cs tt) {i : Nat} {x : Int32} {z : Int} (hdg : decode cc pc = .ok (.ldc_w i, 3)) (hw : Cond.constant own i x ∈ AW) (hz : x = zI z) (kk : zV p l e R s m args below meth c Q D A nL N ad g k n (pc + 3) (lv) (.int (zI z) :: rest)) : zV p l e R s m args below meth c Q D A nL N ad g k n (pc) (lv) (rest) := fun H locs ls hP hD hS hl => lv_ldcw C.1 C.2.1 C.2.2.2.1 (C.2.2.2.2.1 _ hw) hdg (by rw [hz]; exact kk H locs ls hP hD hS hl)
theorem z_lookup (C : zC p s m args c cc nL own D A cs tt) {a dflt off : Int} {ps : Array (Int × Int)} {len tgt : Nat} (hdg : decode cc pc = .ok (.lookupswitch dflt ps, len)) (hp : (ps.toList.zip (ps.toList.drop 1)).all (fun (a, next) => a.1 < next.1) = true) (ha : -2147483648 ≤ a ∧ a ≤ 2147483647) (ho : Op.lookupswitch.offset ps.toList dflt a = off) (ht : (pc : Int) + off = (tgt : Int)) (kk : zV p l e R s m args below meth c Q D A nL N ad g k n (tgt) (lv) (rest)) : zV p l e R s m args below meth c Q D A nL N ad g k n (pc) (lv) (.int (zI a) :: rest) := fun H locs ls hP hD hS hl => lv_lookup C.1 C.2.1 hdg hp (by rw [zI_to ha]; exact ho) ht (kk H locs ls hP hD hS hl)
theorem z_ldiv (C : zC p s m args c cc nL own D A cs tt) {a b : Int} (hdg : decode cc pc = .ok (.ldiv, 1)) (ha : -9223372036854775808 ≤ a ∧ a ≤ 9223372036854775807) (hb : -9223372036854775808 ≤ b ∧ b ≤ 9223372036854775807) (h0 : b ≠ 0) (kk : zV p l e R s m args below meth c Q D A nL N ad g k n (pc + 1) (lv) (.long (zJ (a.tdiv b)) :: rest)) : zV p l e R s m args below meth c Q D A nL N ad g k n (pc) (lv) (.long (zJ b) :: .long (zJ a) :: rest) := fun H locs ls hP hD hS hl => lv_ldiv C.1 C.2.1 hdg (by rw [show (0 : Int64) = zJ 0 from rfl, zJ_eq hb (by omega)]; exact h0) (by rw [zJ_div ha hb]; exact kk H locs ls hP hD hS hl)
theorem z_lcmp (C : zC p s m args c cc nL own D A cs tt) {a b : Int} (hdg : decode cc pc = .ok (.lcmp, 1)) (ha : -9223372036854775808 ≤ a ∧ a ≤ 9223372036854775807) (hb : -9223372036854775808 ≤ b ∧ b ≤ 9223372036854775807) (kk : zV p l e R s m args below meth c Q D A nL N ad g k n (pc + 1) (lv) (.int (zI (cmpZ a b)) :: rest)) : zV p l e R s m args below meth c Q D A nL N ad g k n (pc) (lv) (.long (zJ b) :: .long (zJ a) :: rest) := fun H locs ls hP hD hS hl => W.lcmp C.1 C.2.1 hdg (by rw [lg_cmpZ ha hb]; exact kk H locs ls hP hD hS hl)
theorem z_mabs (C : zC p s m args c cc nL own D A cs tt) {index : Nat} {a : Int} (hlk : Cond.methodLink own index Lib.Math.abs.name ∈ AW) (hstat : Cond.static Lib.Math.abs.name ∈ AW) (hini : Cond.initialized "java/lang/Math" ∈ AW) (hcd : Cond.code Lib.Math.abs.name Lib.Math.abs.code 1 (some .int) ∈ AW) (ha : -2147483648 ≤ a ∧ a ≤ 2147483647) (hframes : 1 ≤ R.frames) (hlocals : (rest.map fun v => v.category).sum + 13 ≤ R.locals) (hc : k ≤ R.cells) (hs : n ≤ R.slots) (hdg : decode cc pc = .ok (.invokestatic index, 3)) (kk : zV p l e R s m args below meth c Q D A nL N ad g k n (pc + 3) (lv) (.int (zI (if 0 ≤ a then a else 0 - a)) :: rest)) : zV p l e R s m args below meth c Q D A nL N ad g k n (pc) (lv) (.int (zI a) :: rest) := fun H locs ls hP hD hS hl => va_mabs C.1 C.2.1 (by rw [C.2.2.1]; exact hl.1.symm) C.2.2.2.1 (C.2.2.2.2.1 _ hlk) (C.2.2.2.2.1 _ hstat) (C.2.2.2.2.1 _ hini) (C.2.2.2.2.1 _ hcd) hframes hlocals hc hs hdg (by
  have e : (if (0 : Int32) ≤ zI a then zI a else 0 - zI a) = zI (if 0 ≤ a then a else 0 - a) := by
    rw [show (0 : Int32) = zI 0 from rfl]
    simp only [zI_le (show -2147483648 ≤ (0 : Int) ∧ (0 : Int) ≤ 2147483647 by omega) ha]
    by_cases h : 0 ≤ a
    · rw [if_pos h, if_pos h]
    · rw [if_neg h, if_neg h, zI_sub]
  rw [e]
  exact kk H locs ls hP hD hS hl)
theorem z_lmaxx (C : zC p s m args c cc nL own D A cs tt) {index : Nat} {a b : Int} (hlk : Cond.methodLink own index Lib.MathLoose.max_long.x ∈ AW) (hstat : Cond.static Lib.MathLoose.max_long.x ∈ AW) (hini : Cond.initialized "java/lang/Math" ∈ AW) (hcd : Cond.code Lib.MathLoose.max_long.x Lib.MathLoose.max_long.code 4 (some .long) ∈ AW) (ha : -9223372036854775808 ≤ a ∧ a ≤ 9223372036854775807) (hb : -9223372036854775808 ≤ b ∧ b ≤ 9223372036854775807) (hframes : 1 ≤ R.frames) (hlocals : (rest.map fun v => v.category).sum + 15 ≤ R.locals) (hc : k ≤ R.cells) (hs : n ≤ R.slots) (hdg : decode cc pc = .ok (.invokestatic index, 3)) (kk : zV p l e R s m args below meth c Q D A nL N ad g k n (pc + 3) (lv) (.long (zJ (if b < a then a else b)) :: rest)) : zV p l e R s m args below meth c Q D A nL N ad g k n (pc) (lv) (.long (zJ b) :: .long (zJ a) :: rest) := fun H locs ls hP hD hS hl => va_mmax_long C.1 C.2.1 (by rw [C.2.2.1]; exact hl.1.symm) C.2.2.2.1 (C.2.2.2.2.1 _ hlk) (C.2.2.2.2.1 _ hstat) (C.2.2.2.2.1 _ hini) (C.2.2.2.2.1 _ hcd) hframes hlocals hc hs hdg (by
  have e : (if zJ b < zJ a then zJ a else zJ b) = zJ (if b < a then a else b) := by
    simp only [zJ_lt hb ha]
    by_cases h : b < a
    · rw [if_pos h, if_pos h]
    · rw [if_neg h, if_neg h]
  rw [e]
  exact kk H locs ls hP hD hS hl)
theorem z_lminx (C : zC p s m args c cc nL own D A cs tt) {index : Nat} {a b : Int} (hlk : Cond.methodLink own index Lib.MathLoose.min_long.x ∈ AW) (hstat : Cond.static Lib.MathLoose.min_long.x ∈ AW) (hini : Cond.initialized "java/lang/Math" ∈ AW) (hcd : Cond.code Lib.MathLoose.min_long.x Lib.MathLoose.min_long.code 4 (some .long) ∈ AW) (ha : -9223372036854775808 ≤ a ∧ a ≤ 9223372036854775807) (hb : -9223372036854775808 ≤ b ∧ b ≤ 9223372036854775807) (hframes : 1 ≤ R.frames) (hlocals : (rest.map fun v => v.category).sum + 15 ≤ R.locals) (hc : k ≤ R.cells) (hs : n ≤ R.slots) (hdg : decode cc pc = .ok (.invokestatic index, 3)) (kk : zV p l e R s m args below meth c Q D A nL N ad g k n (pc + 3) (lv) (.long (zJ (if b < a then b else a)) :: rest)) : zV p l e R s m args below meth c Q D A nL N ad g k n (pc) (lv) (.long (zJ b) :: .long (zJ a) :: rest) := fun H locs ls hP hD hS hl => va_mmin_long C.1 C.2.1 (by rw [C.2.2.1]; exact hl.1.symm) C.2.2.2.1 (C.2.2.2.2.1 _ hlk) (C.2.2.2.2.1 _ hstat) (C.2.2.2.2.1 _ hini) (C.2.2.2.2.1 _ hcd) hframes hlocals hc hs hdg (by
  have e : (if zJ b < zJ a then zJ b else zJ a) = zJ (if b < a then b else a) := by
    simp only [zJ_lt hb ha]
    by_cases h : b < a
    · rw [if_pos h, if_pos h]
    · rw [if_neg h, if_neg h]
  rw [e]
  exact kk H locs ls hP hD hS hl)
theorem z_ixor (C : zC p s m args c cc nL own D A cs tt) {a b z : Int} (hdg : decode cc pc = .ok (.ixor, 1)) (hz : zI a ^^^ zI b = zI z) (kk : zV p l e R s m args below meth c Q D A nL N ad g k n (pc + 1) (lv) (.int (zI z) :: rest)) : zV p l e R s m args below meth c Q D A nL N ad g k n (pc) (lv) (.int (zI b) :: .int (zI a) :: rest) := fun H locs ls hP hD hS hl => lv_ixor C.1 C.2.1 hdg (by rw [hz]; exact kk H locs ls hP hD hS hl)
theorem z_i2c (C : zC p s m args c cc nL own D A cs tt) {a z : Int} (hdg : decode cc pc = .ok (.i2c, 1)) (hz : ((zI a).toUInt32 % 65536).toInt32 = zI z) (kk : zV p l e R s m args below meth c Q D A nL N ad g k n (pc + 1) (lv) (.int (zI z) :: rest)) : zV p l e R s m args below meth c Q D A nL N ad g k n (pc) (lv) (.int (zI a) :: rest) := fun H locs ls hP hD hS hl => lv_i2c C.1 C.2.1 hdg hz (kk H locs ls hP hD hS hl)
theorem z_ifnn (C : zC p s m args c cc nL own D A cs tt) {a : Nat} {off : Int} {tgt : Nat} (hdg : decode cc pc = .ok (.ifnonnull off, 3)) (ht : (pc : Int) + off = (tgt : Int)) (kk : zV p l e R s m args below meth c Q D A nL N ad g k n (tgt) (lv) (rest)) : zV p l e R s m args below meth c Q D A nL N ad g k n (pc) (lv) (.ref a :: rest) := fun H locs ls hP hD hS hl => lv_ifnonnull C.1 C.2.1 hdg ht (kk H locs ls hP hD hS hl)
end ZL

