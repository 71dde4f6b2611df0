section
-- 03.base.lean.txt
/-! ===== numbers: every int of the program is zI z, z an integer; longs zJ z ===== -/
def zI (z : Int) : Int32 := Int32.ofInt z
def zJ (z : Int) : Int64 := Int64.ofInt z
theorem zI_add (a b : Int) : zI a + zI b = zI (a + b) := (Int32.ofInt_add a b).symm
theorem zI_sub (a b : Int) : zI a - zI b = zI (a - b) := (Int32.ofInt_sub a b).symm
theorem zI_mul (a b : Int) : zI a * zI b = zI (a * b) := (Int32.ofInt_mul a b).symm
theorem zI_neg (a : Int) : -zI a = zI (-a) := (Int32.ofInt_neg a).symm
theorem zJ_add (a b : Int) : zJ a + zJ b = zJ (a + b) := (Int64.ofInt_add a b).symm
theorem zJ_sub (a b : Int) : zJ a - zJ b = zJ (a - b) := (Int64.ofInt_sub a b).symm
theorem zJ_mul (a b : Int) : zJ a * zJ b = zJ (a * b) := (Int64.ofInt_mul a b).symm
theorem zI_to {z : Int} (h : -2147483648 ≤ z ∧ z ≤ 2147483647) : (zI z).toInt = z := Int32.toInt_ofInt_of_le (by omega) (by omega)
theorem zJ_to {z : Int} (h : -9223372036854775808 ≤ z ∧ z ≤ 9223372036854775807) : (zJ z).toInt = z := Int64.toInt_ofInt_of_le (by omega) (by omega)
theorem zI_of (x : Int32) : ∃ z : Int, x = zI z ∧ -2147483648 ≤ z ∧ z ≤ 2147483647 := ⟨x.toInt, (Int32.ofInt_toInt x).symm, by have := x.le_toInt; omega, by have := x.toInt_lt; omega⟩
theorem zI_lt {a b : Int} (ha : -2147483648 ≤ a ∧ a ≤ 2147483647) (hb : -2147483648 ≤ b ∧ b ≤ 2147483647) : zI a < zI b ↔ a < b := by rw [Int32.lt_iff_toInt_lt, zI_to ha, zI_to hb]
theorem zI_le {a b : Int} (ha : -2147483648 ≤ a ∧ a ≤ 2147483647) (hb : -2147483648 ≤ b ∧ b ≤ 2147483647) : zI a ≤ zI b ↔ a ≤ b := by rw [Int32.le_iff_toInt_le, zI_to ha, zI_to hb]
theorem zI_eq {a b : Int} (ha : -2147483648 ≤ a ∧ a ≤ 2147483647) (hb : -2147483648 ≤ b ∧ b ≤ 2147483647) : zI a = zI b ↔ a = b := by rw [← Int32.toInt_inj, zI_to ha, zI_to hb]
theorem zI_0 : zI 0 = 0 := rfl
theorem zJ_lt {a b : Int} (ha : -9223372036854775808 ≤ a ∧ a ≤ 9223372036854775807) (hb : -9223372036854775808 ≤ b ∧ b ≤ 9223372036854775807) : zJ a < zJ b ↔ a < b := by rw [Int64.lt_iff_toInt_lt, zJ_to ha, zJ_to hb]
theorem zJ_eq {a b : Int} (ha : -9223372036854775808 ≤ a ∧ a ≤ 9223372036854775807) (hb : -9223372036854775808 ≤ b ∧ b ≤ 9223372036854775807) : zJ a = zJ b ↔ a = b := by rw [← Int64.toInt_inj, zJ_to ha, zJ_to hb]
theorem zI_div {a b : Int} (ha : -2147483648 ≤ a ∧ a ≤ 2147483647) (hb : -2147483648 ≤ b ∧ b ≤ 2147483647) : zI a / zI b = zI (a.tdiv b) := (Int32.ofInt_tdiv (by show (-2147483648 : Int) ≤ a; omega) (by show a ≤ (2147483647 : Int); omega) (by show (-2147483648 : Int) ≤ b; omega) (by show b ≤ (2147483647 : Int); omega)).symm
theorem zI_rem {a b : Int} (ha : -2147483648 ≤ a ∧ a ≤ 2147483647) (hb : -2147483648 ≤ b ∧ b ≤ 2147483647) : zI a - zI a / zI b * zI b = zI (a.tmod b) := by rw [zI_div ha hb, zI_mul, zI_sub, Int.tmod_def, Int.mul_comm]
theorem zI_nat (k : Nat) : Int32.ofNat k = zI (k : Int) := Int32.ofInt_eq_ofNat.symm
theorem zI_clamp {z : Int} (h : 0 ≤ z ∧ z ≤ 2147483647) : (zI z).toNatClampNeg = z.toNat := by
  show (zI z).toInt.toNat = _
  rw [zI_to (by omega)]
theorem zI_clN {k : Nat} (h : k ≤ 2147483647) : (zI (k : Int)).toNatClampNeg = k := by rw [zI_clamp (by omega)]; omega
theorem zI_in {k n : Nat} (hk : k < n) (hn : n ≤ 2147483647) : vp_in (zI (k : Int)) n := by
  rw [vp_in_iff, zI_to (by omega)]
  omega
theorem zI_ltN {a b : Int} (h : ¬ zI a < 0) (ha : -2147483648 ≤ a ∧ a ≤ 2147483647) : 0 ≤ a := by
  rw [← zI_0, zI_lt ha (by omega)] at h; omega
theorem zI_l {z : Int} (h : -2147483648 ≤ z ∧ z ≤ 2147483647) : (zI z).toInt64 = zJ z := by
  show (zI z).toInt64 = Int64.ofInt z
  rw [← Int64.ofInt_int32ToInt, zI_to h]
theorem zJ_i (z : Int) : (zJ z).toInt32 = zI z := Int64.toInt32_ofInt
theorem zI_b8 {x : Int} (h : -128 ≤ x ∧ x ≤ 127) : (zI x).toInt8.toInt32 = zI x := by
  rw [← Int32.toInt_inj, zI_to (by omega)]
  simp only [Int8.toInt_toInt32, Int32.toInt_toInt8, zI_to (show -2147483648 ≤ x ∧ x ≤ 2147483647 by omega)]
  exact Int.bmod_eq_of_le (by omega) (by omega)
/-! ===== the world: cells by their roles 0 .. N - 1: role i lies at ad i and holds g i ===== -/
def wl (N : Nat) (ad : Nat → Nat) (g : Nat → va_E) : va_W := (List.range N).map (fun i => (ad i, g i))
theorem wl_at {N i : Nat} {ad : Nat → Nat} {g : Nat → va_E} (h : i < N) : (wl N ad g)[i]? = some (ad i, g i) := by simp [wl, h]
theorem wl_set {N i : Nat} {ad : Nat → Nat} {g : Nat → va_E} {e : va_E} : (wl N ad g).set i (ad i, e) = wl N ad (va_up g i e) := by
  apply List.ext_getElem?
  intro j
  by_cases hj : j < N
  · rw [wl_at hj]
    by_cases e1 : i = j
    · subst e1
      rw [List.getElem?_set_self (by simp [wl]; exact hj), va_up_self]
    · rw [List.getElem?_set_ne e1, wl_at hj, va_up_ne _ _ (fun h => e1 h.symm)]
  · rw [List.getElem?_eq_none (by simp [wl]; omega), List.getElem?_eq_none (by simp [wl]; omega)]
theorem wl_push {N q : Nat} {ad : Nat → Nat} {g : Nat → va_E} {e : va_E} : wl N ad g ++ [(q, e)] = wl (N + 1) (va_up ad N q) (va_up g N e) := by
  unfold wl
  rw [List.range_succ, List.map_append, List.map_singleton, va_up_self, va_up_self]
  congr 1
  apply List.map_congr_left
  intro a ha
  have : a ≠ N := Nat.ne_of_lt (List.mem_range.mp ha)
  rw [va_up_ne _ _ this, va_up_ne _ _ this]
def uZ (r : Nat → Int) (k : Nat) (v : Int) : Nat → Int := fun j => if j = k then v else r j
theorem uZ_s (r : Nat → Int) (k : Nat) (v : Int) : uZ r k v k = v := if_pos rfl
theorem uZ_n (r : Nat → Int) {k j : Nat} (v : Int) (h : j ≠ k) : uZ r k v j = r j := if_neg h
theorem uZ_upd (r : Nat → Int) (k : Nat) (v : Int) : upd (fun j => zI (r j)) k (zI v) = fun j => zI (uZ r k v j) := by
  funext j
  show (if j = k then zI v else zI (r j)) = zI (if j = k then v else r j)
  by_cases h : j = k
  · rw [if_pos h, if_pos h]
  · rw [if_neg h, if_neg h]
theorem uZ_updL (r : Nat → Int) (k : Nat) (v : Int) : vp_updL (fun j => zJ (r j)) k (zJ v) = fun j => zJ (uZ r k v j) := by
  funext j
  show (if j = k then zJ v else zJ (r j)) = zJ (if j = k then v else r j)
  by_cases h : j = k
  · rw [if_pos h, if_pos h]
  · rw [if_neg h, if_neg h]
def zAt (ad : Nat → Nat) (i a : Nat) : Prop := ad i = a
theorem ne_o {i c d : Nat} (h : (c == d) = false) : i + c ≠ i + d := fun e => by
  have e2 : c = d := by omega
  subst e2
  simp at h
theorem lt_o {i c d : Nat} (h : Nat.blt c d = true) : i + c < i + d := by
  have h2 : c < d := Nat.le_of_ble_eq_true h
  omega
abbrev oC (ci : Nat) (fs : List Value) : va_E := .inr (ci, fs)
abbrev iA (cs : Nat → ClassId) (n : Nat) (r : Nat → Int) : va_E := .inl (cs 1, n, .inl (fun k => zI (r k)))
abbrev bA (cs : Nat → ClassId) (n : Nat) (r : Nat → Int) : va_E := .inl (cs 0, n, .inl (fun k => zI (r k)))
abbrev jA (cs : Nat → ClassId) (n : Nat) (r : Nat → Int) : va_E := .inl (cs 2, n, .inr (.inl (fun k => zJ (r k))))
abbrev rA (c : ClassId) (n : Nat) (r : Nat → Option Nat) : va_E := .inl (c, n, .inr (.inr (.inr (.inr r))))
theorem up_s {α : Type} {g g' : Nat → α} {i : Nat} {e : α} (h : g' = va_up g i e) : g' i = e := by rw [h, va_up_self]
theorem up_n {α : Type} {g g' : Nat → α} {i j : Nat} {e x : α} (h : g' = va_up g i e) (hx : g j = x) (hn : j ≠ i) : g' j = x := by rw [h, va_up_ne _ _ hn]; exact hx
/-! ===== the words ===== -/
def zcst (w : Cond) : Bool := match w with
  | .castable _ _ => true
  | .declares _ => true
  | .privateMethod _ => true
  | _ => false
def AW : List Cond := lw_tbl.filter goodWord
def NW : List Cond := lw_tbl.filter (fun w => w.onTables && (w.keepsH || zcst w))
theorem AW_m {w : Cond} (i : Nat) (h : lw_tbl[i]? = some w) (hg : goodWord w = true) : w ∈ AW := List.mem_filter.mpr ⟨List.mem_of_getElem? h, hg⟩
theorem NW_m {w : Cond} (i : Nat) (h : lw_tbl[i]? = some w) (hg : (w.onTables && (w.keepsH || zcst w)) = true) : w ∈ NW := List.mem_filter.mpr ⟨List.mem_of_getElem? h, hg⟩
theorem tb_1 {w : Cond} (h : w ∈ tables_1_1) : w ∈ lw_tbl := List.mem_append_right _ (show w ∈ tables_1 from List.mem_append_left _ h)
theorem AW_m1 {w : Cond} (i : Nat) (h : tables_1_1[i]? = some w) (hg : goodWord w = true) : w ∈ AW := List.mem_filter.mpr ⟨tb_1 (List.mem_of_getElem? h), hg⟩
theorem NW_m1 {w : Cond} (i : Nat) (h : tables_1_1[i]? = some w) (hg : (w.onTables && (w.keepsH || zcst w)) = true) : w ∈ NW := List.mem_filter.mpr ⟨tb_1 (List.mem_of_getElem? h), hg⟩
theorem tb_2 {w : Cond} (h : w ∈ tables_1_2) : w ∈ lw_tbl := List.mem_append_right _ (show w ∈ tables_1 from List.mem_append_right _ (List.mem_append_left _ h))
theorem AW_m2 {w : Cond} (i : Nat) (h : tables_1_2[i]? = some w) (hg : goodWord w = true) : w ∈ AW := List.mem_filter.mpr ⟨tb_2 (List.mem_of_getElem? h), hg⟩
theorem NW_m2 {w : Cond} (i : Nat) (h : tables_1_2[i]? = some w) (hg : (w.onTables && (w.keepsH || zcst w)) = true) : w ∈ NW := List.mem_filter.mpr ⟨tb_2 (List.mem_of_getElem? h), hg⟩
theorem tb_3 {w : Cond} (h : w ∈ tables_1_3) : w ∈ lw_tbl := List.mem_append_right _ (show w ∈ tables_1 from List.mem_append_right _ (List.mem_append_right _ (List.mem_append_left _ h)))
theorem AW_m3 {w : Cond} (i : Nat) (h : tables_1_3[i]? = some w) (hg : goodWord w = true) : w ∈ AW := List.mem_filter.mpr ⟨tb_3 (List.mem_of_getElem? h), hg⟩
theorem NW_m3 {w : Cond} (i : Nat) (h : tables_1_3[i]? = some w) (hg : (w.onTables && (w.keepsH || zcst w)) = true) : w ∈ NW := List.mem_filter.mpr ⟨tb_3 (List.mem_of_getElem? h), hg⟩
theorem tb_4 {w : Cond} (h : w ∈ tables_1_4) : w ∈ lw_tbl := List.mem_append_right _ (show w ∈ tables_1 from List.mem_append_right _ (List.mem_append_right _ (List.mem_append_right _ (List.mem_append_left _ h))))
theorem AW_m4 {w : Cond} (i : Nat) (h : tables_1_4[i]? = some w) (hg : goodWord w = true) : w ∈ AW := List.mem_filter.mpr ⟨tb_4 (List.mem_of_getElem? h), hg⟩
theorem NW_m4 {w : Cond} (i : Nat) (h : tables_1_4[i]? = some w) (hg : (w.onTables && (w.keepsH || zcst w)) = true) : w ∈ NW := List.mem_filter.mpr ⟨tb_4 (List.mem_of_getElem? h), hg⟩
theorem tb_5 {w : Cond} (h : w ∈ tables_1_5) : w ∈ lw_tbl := List.mem_append_right _ (show w ∈ tables_1 from List.mem_append_right _ (List.mem_append_right _ (List.mem_append_right _ (List.mem_append_right _ (List.mem_append_left _ h)))))
theorem AW_m5 {w : Cond} (i : Nat) (h : tables_1_5[i]? = some w) (hg : goodWord w = true) : w ∈ AW := List.mem_filter.mpr ⟨tb_5 (List.mem_of_getElem? h), hg⟩
theorem NW_m5 {w : Cond} (i : Nat) (h : tables_1_5[i]? = some w) (hg : (w.onTables && (w.keepsH || zcst w)) = true) : w ∈ NW := List.mem_filter.mpr ⟨tb_5 (List.mem_of_getElem? h), hg⟩
theorem tb_6 {w : Cond} (h : w ∈ tables_1_6) : w ∈ lw_tbl := List.mem_append_right _ (show w ∈ tables_1 from List.mem_append_right _ (List.mem_append_right _ (List.mem_append_right _ (List.mem_append_right _ (List.mem_append_right _ (List.mem_append_left _ h))))))
theorem AW_m6 {w : Cond} (i : Nat) (h : tables_1_6[i]? = some w) (hg : goodWord w = true) : w ∈ AW := List.mem_filter.mpr ⟨tb_6 (List.mem_of_getElem? h), hg⟩
theorem NW_m6 {w : Cond} (i : Nat) (h : tables_1_6[i]? = some w) (hg : (w.onTables && (w.keepsH || zcst w)) = true) : w ∈ NW := List.mem_filter.mpr ⟨tb_6 (List.mem_of_getElem? h), hg⟩
theorem tb_7 {w : Cond} (h : w ∈ tables_1_7) : w ∈ lw_tbl := List.mem_append_right _ (show w ∈ tables_1 from List.mem_append_right _ (List.mem_append_right _ (List.mem_append_right _ (List.mem_append_right _ (List.mem_append_right _ (List.mem_append_right _ (List.mem_append_left _ h)))))))
theorem AW_m7 {w : Cond} (i : Nat) (h : tables_1_7[i]? = some w) (hg : goodWord w = true) : w ∈ AW := List.mem_filter.mpr ⟨tb_7 (List.mem_of_getElem? h), hg⟩
theorem NW_m7 {w : Cond} (i : Nat) (h : tables_1_7[i]? = some w) (hg : (w.onTables && (w.keepsH || zcst w)) = true) : w ∈ NW := List.mem_filter.mpr ⟨tb_7 (List.mem_of_getElem? h), hg⟩
theorem tb_8 {w : Cond} (h : w ∈ tables_1_8) : w ∈ lw_tbl := List.mem_append_right _ (show w ∈ tables_1 from List.mem_append_right _ (List.mem_append_right _ (List.mem_append_right _ (List.mem_append_right _ (List.mem_append_right _ (List.mem_append_right _ (List.mem_append_right _ (List.mem_append_left _ h))))))))
theorem AW_m8 {w : Cond} (i : Nat) (h : tables_1_8[i]? = some w) (hg : goodWord w = true) : w ∈ AW := List.mem_filter.mpr ⟨tb_8 (List.mem_of_getElem? h), hg⟩
theorem NW_m8 {w : Cond} (i : Nat) (h : tables_1_8[i]? = some w) (hg : (w.onTables && (w.keepsH || zcst w)) = true) : w ∈ NW := List.mem_filter.mpr ⟨tb_8 (List.mem_of_getElem? h), hg⟩
theorem tb_9 {w : Cond} (h : w ∈ tables_1_9) : w ∈ lw_tbl := List.mem_append_right _ (show w ∈ tables_1 from List.mem_append_right _ (List.mem_append_right _ (List.mem_append_right _ (List.mem_append_right _ (List.mem_append_right _ (List.mem_append_right _ (List.mem_append_right _ (List.mem_append_right _ (h)))))))))
theorem AW_m9 {w : Cond} (i : Nat) (h : tables_1_9[i]? = some w) (hg : goodWord w = true) : w ∈ AW := List.mem_filter.mpr ⟨tb_9 (List.mem_of_getElem? h), hg⟩
theorem NW_m9 {w : Cond} (i : Nat) (h : tables_1_9[i]? = some w) (hg : (w.onTables && (w.keepsH || zcst w)) = true) : w ∈ NW := List.mem_filter.mpr ⟨tb_9 (List.mem_of_getElem? h), hg⟩
theorem lt_K {k K N : Nat} (h : K ≤ N) (e : Nat.blt k K = true) : k < N := Nat.lt_of_lt_of_le (Nat.le_of_ble_eq_true e) h
theorem lt_A {a c d N : Nat} (h : a + d ≤ N) (e : Nat.blt c d = true) : a + c < N := Nat.lt_of_lt_of_le (Nat.add_lt_add_left (Nat.le_of_ble_eq_true e) a) h
theorem lt_A0 {a d N : Nat} (h : a + d ≤ N) (e : Nat.blt 0 d = true) : a < N := Nat.lt_of_lt_of_le (Nat.lt_add_of_pos_right (Nat.le_of_ble_eq_true e)) h
theorem AW_good {w : Cond} (h : w ∈ AW) : goodWord w = true := (List.mem_filter.mp h).2
theorem AW_in {ws : List Cond} (h : ∀ w ∈ ws, w ∈ AW) : GoodIn AW ws := fun w hw => ⟨h w hw, good_of_word (AW_good (h w hw))⟩
theorem va_Nw.warmP {x : MethodName} {s U : State} (hW : s.WarmedH U.vm) (hZ : va_Nw (.privateMethod x) s) : va_Nw (.privateMethod x) U := va_tabs rfl (rfl : (s.setVm U.vm).vm = U.vm) (by rw [Cond.privateMethod_setVm hW.alike]; exact hZ)
theorem NW_warm {w : Cond} {s U : State} (hW : s.WarmedH U.vm) (h : w ∈ NW) (hw : va_Nw w s) : va_Nw w U := by
  have h1 := (List.mem_filter.mp h).2
  simp only [Bool.and_eq_true, Bool.or_eq_true] at h1
  obtain ⟨h1, h2⟩ := h1
  rcases h2 with h2 | h2
  · exact va_tabs h1 (rfl : (U.setVm U.vm).vm = U.vm) (Cond.onTables_warmH (args := #[]) (args' := #[]) (T := U) hW h1 h2 hw)
  · cases w with
    | castable a b => exact va_Nw.warmC hW hw
    | declares a => exact va_Nw.warmD hW hw
    | privateMethod a => exact va_Nw.warmP hW hw
    | _ => exact absurd h2 (by simp [zcst])
theorem NW_same {w : Cond} {u U : State} (hv : u.vm = U.vm) (h : w ∈ NW) (hw : va_Nw w u) : va_Nw w U := by
  have h1 := (List.mem_filter.mp h).2
  simp only [Bool.and_eq_true] at h1
  exact va_Nw.same h1.1 hv hw
theorem NW_use {w : Cond} {U : State} {a : Array Value} (h : w ∈ NW) (hw : va_Nw w U) : w.before a U = true := by
  have h1 := (List.mem_filter.mp h).2
  simp only [Bool.and_eq_true] at h1
  exact va_Nw.use h1.1 hw
theorem va_AOA.moved {t : FieldType} {u U : State} (hvm : u.vm.Alike U.vm) (h : va_AOA t u) : va_AOA t U := by
  obtain ⟨comp, c, k, h1, h2, h3, h4, h5⟩ := arrayOverA_spec h
  obtain ⟨k', hk', he⟩ := hvm.2.2 _ _ h3
  have hi : (U.vm.classes.findIdx? fun (x : Class) => match x.kind with | .array component _ => component == comp | _ => false) = some c := by
    have e1 := va_idx_bare U.vm comp
    have e2 := va_idx_bare u.vm comp
    first | rw [hvm.bare_eq] at e1 | rw [← hvm.bare_eq] at e1
    exact e1.symm.trans (e2.trans h2)
  have hkind : k'.kind = .array comp (.array t) := by rw [he]; exact h4
  have f1 : U.vm.findClass (FieldType.array t).toString = some comp := by rw [hvm.findClass]; exact h1
  have f2 : U.vm.findClass ("[" ++ (FieldType.array t).toString) = some c := by rw [hvm.findClass]; exact h5
  unfold va_AOA Cond.before Cond.holds
  simp only [Cond.value]
  rw [f1, Option.bind_some]
  refine (congrArg (fun o : Option Nat => (o.bind (fun c => (U.vm.classes[c]?).map fun (k : Class) => match k.kind with | .array _ ty => decide (ty = FieldType.array t) && decide (U.vm.findClass ("[" ++ (FieldType.array t).toString) = some c) | _ => false) == some true)) hi).trans ?_
  simp [hk', hkind, f2]

/-! ===== what a method may lean on beside its own cells ===== -/
abbrev tyL (cs : Nat → ClassId) : List (ClassId × FieldType) := [(cs 0, .byte), (cs 1, .int), (cs 2, .long), (cs 3, .object RX3), (cs 4, .object RX8), (cs 5, .object RX4), (cs 6, .array .int)]
def tabZ (k : Nat) : Int := [3, 12, 4, 40, 1, 5, 8, 3, 2, 1, 1000, 4000, 6000, 9000, 8000].getD k 0
/-- the static row TABLE -/
def zTB (tt : Nat) (A : Nat → Prop) (U : State) (H : Heap) : Prop := ∃ cell : Cell, H[tt]? = some cell ∧ U.isArrayOf cell .int ∧ cell.vm ≠ .unknown ∧ cell.slots.size = 15 ∧ (∀ j : Nat, j < 15 → cell.slots[j]? = some (.int (zI (tabZ j)))) ∧ U.vm.findClass "[I" = some cell.cls ∧ ¬ A tt
theorem zTB.moved {tt : Nat} {A : Nat → Prop} {u U : State} {H : Heap} (hvm : u.vm.Alike U.vm) (h : zTB tt A u H) : zTB tt A U H := by
  obtain ⟨cell, h1, h2, h3, h4, h5, h6, h7⟩ := h
  exact ⟨cell, h1, State.isArrayOf_alike hvm h2, h3, h4, h5, by rw [hvm.findClass]; exact h6, h7⟩
theorem zTB.kept {tt : Nat} {A : Nat → Prop} {U : State} {H H1 : Heap} (h : zTB tt A U H) (hq : ∀ a : Nat, a < H.size → ¬ A a → H1[a]? = H[a]?) : zTB tt A U H1 := by
  obtain ⟨cell, h1, h2, h3, h4, h5, h6, h7⟩ := h
  exact ⟨cell, by rw [hq tt (Array.getElem?_eq_some_iff.mp h1).1 h7]; exact h1, h2, h3, h4, h5, h6, h7⟩
/-- the String constants that are thrown with: the class, the entry, the text -/
def SRL : List (String × Nat × String) := [("SnowRecorder", 88, "the tape has not so many bytes"), ("SnowRecorder", 167, "no such count"), ("SnowRecorder", 170, "no such hour"), ("SnowRecorder", 181, "no such thing of an hour"), ("SnowRecorder", 414, "no such slope"), ("SnowRecorder", 210, "no such thing of a slope"), ("SnowRecorder", 416, "no such layer"), ("SnowRecorder", 241, "no such thing of a layer"), ("SnowRecorder", 249, "no such sign"), ("SnowRecorder", 420, "no such thing to ask"), ("SnowRecorder", 422, "not so many hours"), ("SnowRecorder", 316, "that name isn't given"), ("SnowRecorder", 418, "no such pit"), ("SnowRecorder", 354, "no such thing of a pit"), ("SnowRecorder", 371, "no such comparison"), ("SnowRecorder", 396, "tenths are 0 to 10"), ("SnowRecorder", 406, "years are 0 to 30")]
/-- the String constants whose letters are read: class, entry, text, number, bytes; String k lies at cs (100 + k), its bytes at cs (200 + k) -/
def SKL : List (String × Nat × String × Nat × List Int32) := [("SnowRecorder$TextReader", 61, "slope", 0, [115, 108, 111, 112, 101]), ("SnowRecorder$TextReader", 71, "layer", 1, [108, 97, 121, 101, 114]), ("SnowRecorder", 495, "powder", 2, [112, 111, 119, 100, 101, 114]), ("SnowRecorder", 497, "grains", 3, [103, 114, 97, 105, 110, 115]), ("SnowRecorder", 499, "facets", 4, [102, 97, 99, 101, 116, 115]), ("SnowRecorder", 501, "crust", 5, [99, 114, 117, 115, 116]), ("SnowRecorder", 503, "hoar", 6, [104, 111, 97, 114]), ("SnowRecorder$TextReader", 76, "hour", 7, [104, 111, 117, 114]), ("SnowRecorder$TextReader", 149, "snow", 8, [115, 110, 111, 119]), ("SnowRecorder$TextReader", 151, "rain", 9, [114, 97, 105, 110]), ("SnowRecorder$TextReader", 153, "hoar", 10, [104, 111, 97, 114]), ("SnowRecorder$TextReader", 81, "strong", 11, [115, 116, 114, 111, 110, 103]), ("SnowRecorder$TextReader", 87, "holds", 12, [104, 111, 108, 100, 115]), ("SnowRecorder$TextReader", 89, "stiff", 13, [115, 116, 105, 102, 102]), ("SnowRecorder", 487, " of ", 14, [32, 111, 102, 32]), ("SnowRecorder", 489, " wet ", 15, [32, 119, 101, 116, 32]), ("SnowRecorder", 491, " in ", 16, [32, 105, 110, 32]), ("SnowRecorder", 493, " at ", 17, [32, 97, 116, 32])]
/-- static rows of bytes that nobody writes: class, name, number, bytes: at cs (300 + k) -/
def STL : List (String × String × Nat × List Int32) := [("SnowRecorderModel", "KNOWN", 0, [115, 108, 111, 112, 101, 32, 108, 97, 121, 101, 114, 32, 104, 111, 117, 114, 32, 115, 110, 111, 119, 32, 114, 97, 105, 110, 32, 104, 111, 97, 114, 32, 115, 116, 114, 111, 110, 103, 32, 104, 111, 108, 100, 115, 32, 115, 116, 105, 102, 102, 32, 112, 111, 119, 100, 101, 114, 32, 103, 114, 97, 105, 110, 115, 32, 102, 97, 99, 101, 116, 115, 32, 99, 114, 117, 115, 116, 32]), ("java/lang/Integer", "DigitOnes", 1, [48, 49, 50, 51, 52, 53, 54, 55, 56, 57, 48, 49, 50, 51, 52, 53, 54, 55, 56, 57, 48, 49, 50, 51, 52, 53, 54, 55, 56, 57, 48, 49, 50, 51, 52, 53, 54, 55, 56, 57, 48, 49, 50, 51, 52, 53, 54, 55, 56, 57, 48, 49, 50, 51, 52, 53, 54, 55, 56, 57, 48, 49, 50, 51, 52, 53, 54, 55, 56, 57, 48, 49, 50, 51, 52, 53, 54, 55, 56, 57, 48, 49, 50, 51, 52, 53, 54, 55, 56, 57, 48, 49, 50, 51, 52, 53, 54, 55, 56, 57]), ("java/lang/Integer", "DigitTens", 2, [48, 48, 48, 48, 48, 48, 48, 48, 48, 48, 49, 49, 49, 49, 49, 49, 49, 49, 49, 49, 50, 50, 50, 50, 50, 50, 50, 50, 50, 50, 51, 51, 51, 51, 51, 51, 51, 51, 51, 51, 52, 52, 52, 52, 52, 52, 52, 52, 52, 52, 53, 53, 53, 53, 53, 53, 53, 53, 53, 53, 54, 54, 54, 54, 54, 54, 54, 54, 54, 54, 55, 55, 55, 55, 55, 55, 55, 55, 55, 55, 56, 56, 56, 56, 56, 56, 56, 56, 56, 56, 57, 57, 57, 57, 57, 57, 57, 57, 57, 57])]
def zS (A : Nat → Prop) (cs : Nat → ClassId) (U : State) : Prop :=
  (∀ q ∈ SKL, vk_R q.1 q.2.1 q.2.2.1 (cs (100 + q.2.2.2.1)) U ∧ va_O "java/lang/String" (cs (100 + q.2.2.2.1)) A U U.heap ∧ va_OF "java/lang/String" "coder" "B" (.int 0) (cs (100 + q.2.2.2.1)) A U U.heap ∧ va_OF "java/lang/String" "value" "[B" (.ref (cs (200 + q.2.2.2.1))) (cs (100 + q.2.2.2.1)) A U U.heap ∧ va_T .byte (cs (200 + q.2.2.2.1)) q.2.2.2.2.length (fun j => .int (q.2.2.2.2.getD j 0)) A U U.heap) ∧
  (∀ q ∈ STL, va_Z q.1 q.2.1 "[B" (.ref (cs (300 + q.2.2.1))) A U U.heap ∧ va_T .byte (cs (300 + q.2.2.1)) q.2.2.2.length (fun j => .int (q.2.2.2.getD j 0)) A U U.heap) ∧
  va_Zq "jdk/internal/util/Preconditions" "SIOOBE_FORMATTER" "Ljava/util/function/BiFunction;" A U U.heap
theorem zS.next {A : Nat → Prop} {cs : Nat → ClassId} {s U : State} (h : zS A cs s) (hq : ∀ a : Nat, a < s.heap.size → ¬ A a → U.heap[a]? = s.heap[a]?) (hW : s.WarmedH U.vm) : zS A cs U := by
  have hv := hW.alike
  refine ⟨fun q hm => ?_, fun q hm => ?_, va_Zq.moved hv (h.2.2.kept hq)⟩
  · obtain ⟨h1, h2, h3, h4, h5⟩ := h.1 q hm
    exact ⟨vk_R.warm hW h1, va_O.moved hv (h2.kept hq), va_OF.moved hv (h3.kept hq), va_OF.moved hv (h4.kept hq), va_T.moved hv (h5.kept hq)⟩
  · obtain ⟨h1, h2⟩ := h.2.1 q hm
    exact ⟨va_Z.moved hv (h1.kept hq), va_T.moved hv (h2.kept hq)⟩
theorem zS.calling {A : Nat → Prop} {cs : Nat → ClassId} {U : State} {g : JFrame} {mk : MethodId} {a : Array Value} (h : zS A cs U) : zS A cs (U.calling g mk a) := by
  have hv : U.vm.Alike (U.calling g mk a).vm := Vm.Alike.refl U.vm
  refine ⟨fun q hm => ?_, fun q hm => ?_, va_Zq.moved hv h.2.2⟩
  · obtain ⟨h1, h2, h3, h4, h5⟩ := h.1 q hm
    exact ⟨vk_R.same rfl h1, va_O.moved hv h2, va_OF.moved hv h3, va_OF.moved hv h4, va_T.moved hv h5⟩
  · obtain ⟨h1, h2⟩ := h.2.1 q hm
    exact ⟨va_Z.moved hv h1, va_T.moved hv h2⟩
def zE (D : va_G) (A : Nat → Prop) (cs : Nat → ClassId) (tt : Nat) (U : State) : Prop :=
  va_K D vwCl (tyL cs) U ∧ (∀ w ∈ NW, va_Nw w U) ∧ (∀ q : Nat, U.heap.size ≤ q → A q) ∧ (va_AO RX3 U ∧ va_AO RX8 U ∧ va_AO RX4 U ∧ va_AOA .int U) ∧
  (va_Z RX9 "TABLE" "[I" (.ref tt) A U U.heap ∧ zTB tt A U U.heap ∧ va_Z RJ0 "COMPACT_STRINGS" "Z" (.int 1) A U U.heap) ∧
  (vx_Zq Bundle.tN "UNASSIGNED_STACK" Bundle.steD A U U.heap ∧ vx_Zq Bundle.tN "SUPPRESSED_SENTINEL" Bundle.listD A U U.heap) ∧ (∀ q ∈ SRL, ∃ sa : Nat, vk_R q.1 q.2.1 q.2.2 sa U) ∧ va_Nc "java/lang/IllegalArgumentException" "java/util/NoSuchElementException" U ∧ zS A cs U
theorem zE.next {D : va_G} {A : Nat → Prop} {cs : Nat → ClassId} {tt : Nat} {s U : State} {H : Heap} {locs : List Loc} (h : zE D A cs tt s) (hS : va_S A s.heap H locs) (hH : U.heap = H) (hW : s.WarmedH U.vm) : zE D A cs tt U := by
  obtain ⟨h1, h2, h3, ⟨a1, a2, a3, a4⟩, ⟨t1, t2, t3⟩, ⟨u1, u2⟩, h7, h8, h9⟩ := h
  have hq : ∀ a : Nat, a < s.heap.size → ¬ A a → U.heap[a]? = s.heap[a]? := by rw [hH]; exact hS.2.1
  have hv := hW.alike
  refine ⟨va_K.moved hv h1, fun w hw => NW_warm hW hw (h2 w hw), fun q hq => h3 q (Nat.le_trans (by rw [hH] at hq; exact Nat.le_trans hS.1 hq) (Nat.le_refl _)), ⟨va_AO.moved hv a1, va_AO.moved hv a2, va_AO.moved hv a3, va_AOA.moved hv a4⟩, ⟨va_Z.moved hv (t1.kept hq), zTB.moved hv (t2.kept hq), va_Z.moved hv (t3.kept hq)⟩, ⟨vx_Zq.moved hv (u1.kept hq), vx_Zq.moved hv (u2.kept hq)⟩, fun q hq => ?_, va_Nc.moved hv h8, h9.next hq hW⟩
  obtain ⟨sa, hs⟩ := h7 q hq
  exact ⟨sa, vk_R.warm hW hs⟩
theorem zE.calling {D : va_G} {A : Nat → Prop} {cs : Nat → ClassId} {tt : Nat} {U : State} {g : JFrame} {mk : MethodId} {a : Array Value} (h : zE D A cs tt U) : zE D A cs tt (U.calling g mk a) := by
  obtain ⟨h1, h2, h3, ⟨a1, a2, a3, a4⟩, ⟨t1, t2, t3⟩, ⟨u1, u2⟩, h7, h8, h9⟩ := h
  have hv : U.vm.Alike (U.calling g mk a).vm := Vm.Alike.refl U.vm
  refine ⟨va_K.moved hv h1, fun w hw => NW_same (u := U) rfl hw (h2 w hw), h3, ⟨va_AO.moved hv a1, va_AO.moved hv a2, va_AO.moved hv a3, va_AOA.moved hv a4⟩, ⟨va_Z.moved hv t1, zTB.moved hv t2, va_Z.moved hv t3⟩, ⟨vx_Zq.moved hv u1, vx_Zq.moved hv u2⟩, fun q hq => ?_, va_Nc.moved hv h8, h9.calling⟩
  obtain ⟨sa, hs⟩ := h7 q hq
  exact ⟨sa, vk_R.same rfl hs⟩
/-! ===== the judgement: in a world of roles, at pc, with these locals and this stack ===== -/
def zC (p : Program) (s : State) (m : MethodId) (args : Array Value) (c : Code) (cc : ByteArray) (nL : Nat) (own : String) (D : va_G) (A : Nat → Prop) (cs : Nat → ClassId) (tt : Nat) : Prop :=
  p.tables.exec = Jvm.exec ∧ c.code = cc ∧ c.maxLocals = nL ∧ s.vm.findClass own = some m.cls ∧ (∀ w ∈ AW, w.before args s = true) ∧ zE D A cs tt s
def zV (p : Program) (l : Launch) (e : Env) (R : Room) (s : State) (m : MethodId) (args : Array Value) (below : List Frame) (meth : Method) (c : Code) (Q : State → Prop) (D : va_G) (A : Nat → Prop) (nL : Nat) (N : Nat) (ad : Nat → Nat) (g : Nat → va_E) (k n pc : Nat) (lv : List (Nat × Value)) (st : List Value) : Prop :=
  ∀ (H : Heap) (locs : List Loc) (ls : Array Slot), va_P D vwCl (wl N ad g) H → va_D A (wl N ad g) → va_S A s.heap H locs → lv_has ls nL lv → W p l e R s m args below meth c H locs k n Q (F0 m pc ls st)

section ZV
variable {p : Program} {l : Launch} {e : Env} {R : Room} {s : State} {m : MethodId} {args : Array Value} {below : List Frame} {meth : Method} {c : Code} {Q : State → Prop} {D : va_G} {A : Nat → Prop} {cs : Nat → ClassId} {tt : Nat} {cc : ByteArray} {nL : Nat} {own : String} {N : Nat} {ad : Nat → Nat} {g : Nat → va_E} {k n pc : Nat} {lv lv' : List (Nat × Value)} {rest : List Value}
theorem z_iconst (C : zC p s m args c cc nL own D A cs tt) {i z : Int} (hdg : decode cc pc = .ok (.iconst i, 1)) (hz : zI i = zI z) (kk : zV p l e R s m args below meth c Q D A nL N ad g k n (pc + 1) (lv) (.int (zI z) :: rest)) : zV p l e R s m args below meth c Q D A nL N ad g k n (pc) (lv) (rest) := fun H locs ls hP hD hS hl => lv_iconst C.1 C.2.1 hdg hz (kk H locs ls hP hD hS hl)
theorem z_bipush (C : zC p s m args c cc nL own D A cs tt) {i z : Int} (hdg : decode cc pc = .ok (.bipush i, 2)) (hz : (Int8.ofInt i).toInt32 = zI z) (kk : zV p l e R s m args below meth c Q D A nL N ad g k n (pc + 2) (lv) (.int (zI z) :: rest)) : zV p l e R s m args below meth c Q D A nL N ad g k n (pc) (lv) (rest) := fun H locs ls hP hD hS hl => lv_bipush C.1 C.2.1 hdg hz (kk H locs ls hP hD hS hl)
theorem z_sipush (C : zC p s m args c cc nL own D A cs tt) {i z : Int} (hdg : decode cc pc = .ok (.sipush i, 3)) (hz : (Int16.ofInt i).toInt32 = zI z) (kk : zV p l e R s m args below meth c Q D A nL N ad g k n (pc + 3) (lv) (.int (zI z) :: rest)) : zV p l e R s m args below meth c Q D A nL N ad g k n (pc) (lv) (rest) := fun H locs ls hP hD hS hl => lv_sipush C.1 C.2.1 hdg hz (kk H locs ls hP hD hS hl)
theorem z_ldc (C : zC p s m args c cc nL own D A cs tt) {i : Nat} {x : Int32} {z : Int} (hdg : decode cc pc = .ok (.ldc i, 2)) (hw : Cond.constant own i x ∈ AW) (hz : x = zI z) (kk : zV p l e R s m args below meth c Q D A nL N ad g k n (pc + 2) (lv) (.int (zI z) :: rest)) : zV p l e R s m args below meth c Q D A nL N ad g k n (pc) (lv) (rest) := fun H locs ls hP hD hS hl => lv_ldc C.1 C.2.1 C.2.2.2.1 (C.2.2.2.2.1 _ hw) hdg (by rw [hz]; exact kk H locs ls hP hD hS hl)
theorem z_ldc2 (C : zC p s m args c cc nL own D A cs tt) {i : Nat} {x : Int64} {z : Int} (hdg : decode cc pc = .ok (.ldc2_w i, 3)) (hw : Cond.constantLong own i x ∈ AW) (hz : x = zJ z) (kk : zV p l e R s m args below meth c Q D A nL N ad g k n (pc + 3) (lv) (.long (zJ z) :: rest)) : zV p l e R s m args below meth c Q D A nL N ad g k n (pc) (lv) (rest) := fun H locs ls hP hD hS hl => lv_ldc2 C.1 C.2.1 C.2.2.2.1 (C.2.2.2.2.1 _ hw) hdg (by rw [hz]; exact kk H locs ls hP hD hS hl)
theorem z_lconst (C : zC p s m args c cc nL own D A cs tt) {i : Fin 2} {z : Int} (hdg : decode cc pc = .ok (.lconst i, 1)) (hz : Int64.ofNat (i : Nat) = zJ z) (kk : zV p l e R s m args below meth c Q D A nL N ad g k n (pc + 1) (lv) (.long (zJ z) :: rest)) : zV p l e R s m args below meth c Q D A nL N ad g k n (pc) (lv) (rest) := fun H locs ls hP hD hS hl => lv_lconst C.1 C.2.1 hdg hz (kk H locs ls hP hD hS hl)
theorem z_iload_n (C : zC p s m args c cc nL own D A cs tt) {f : Fin 4} {x : Int32} (j : Nat) (hdg : decode cc pc = .ok (.iload_n f, 1)) (hj : lv[j]? = some ((f : Nat), .int x)) (kk : zV p l e R s m args below meth c Q D A nL N ad g k n (pc + 1) (lv) (.int x :: rest)) : zV p l e R s m args below meth c Q D A nL N ad g k n (pc) (lv) (rest) := fun H locs ls hP hD hS hl => lv_iload_n C.1 C.2.1 hdg rfl (lv_at hl j hj) (kk H locs ls hP hD hS hl)
theorem z_iload (C : zC p s m args c cc nL own D A cs tt) {f : Nat} {x : Int32} (j : Nat) (hdg : decode cc pc = .ok (.iload f, 2)) (hj : lv[j]? = some (f, .int x)) (kk : zV p l e R s m args below meth c Q D A nL N ad g k n (pc + 2) (lv) (.int x :: rest)) : zV p l e R s m args below meth c Q D A nL N ad g k n (pc) (lv) (rest) := fun H locs ls hP hD hS hl => lv_iload C.1 C.2.1 hdg (lv_at hl j hj) (kk H locs ls hP hD hS hl)
theorem z_aload_n (C : zC p s m args c cc nL own D A cs tt) {f : Fin 4} {x : Nat} (j : Nat) (hdg : decode cc pc = .ok (.aload_n f, 1)) (hj : lv[j]? = some ((f : Nat), .ref x)) (kk : zV p l e R s m args below meth c Q D A nL N ad g k n (pc + 1) (lv) (.ref x :: rest)) : zV p l e R s m args below meth c Q D A nL N ad g k n (pc) (lv) (rest) := fun H locs ls hP hD hS hl => lv_aload_n C.1 C.2.1 hdg rfl (lv_at hl j hj) (kk H locs ls hP hD hS hl)
theorem z_aload (C : zC p s m args c cc nL own D A cs tt) {f : Nat} {x : Nat} (j : Nat) (hdg : decode cc pc = .ok (.aload f, 2)) (hj : lv[j]? = some (f, .ref x)) (kk : zV p l e R s m args below meth c Q D A nL N ad g k n (pc + 2) (lv) (.ref x :: rest)) : zV p l e R s m args below meth c Q D A nL N ad g k n (pc) (lv) (rest) := fun H locs ls hP hD hS hl => lv_aload C.1 C.2.1 hdg (lv_at hl j hj) (kk H locs ls hP hD hS hl)
theorem z_lload_n (C : zC p s m args c cc nL own D A cs tt) {f : Fin 4} {x : Int64} (j : Nat) (hdg : decode cc pc = .ok (.lload_n f, 1)) (hj : lv[j]? = some ((f : Nat), .long x)) (kk : zV p l e R s m args below meth c Q D A nL N ad g k n (pc + 1) (lv) (.long x :: rest)) : zV p l e R s m args below meth c Q D A nL N ad g k n (pc) (lv) (rest) := fun H locs ls hP hD hS hl => lv_lload_n C.1 C.2.1 hdg rfl (lv_at hl j hj) (kk H locs ls hP hD hS hl)
theorem z_lload (C : zC p s m args c cc nL own D A cs tt) {f : Nat} {x : Int64} (j : Nat) (hdg : decode cc pc = .ok (.lload f, 2)) (hj : lv[j]? = some (f, .long x)) (kk : zV p l e R s m args below meth c Q D A nL N ad g k n (pc + 2) (lv) (.long x :: rest)) : zV p l e R s m args below meth c Q D A nL N ad g k n (pc) (lv) (rest) := fun H locs ls hP hD hS hl => lv_lload C.1 C.2.1 hdg (lv_at hl j hj) (kk H locs ls hP hD hS hl)
theorem z_istore_n (C : zC p s m args c cc nL own D A cs tt) {f : Fin 4} {i : Nat} {x : Int32} (hdg : decode cc pc = .ok (.istore_n f, 1)) (hi : (f : Nat) = i) (hn : i < nL) (hl9 : (i, Value.int x) :: lv.filter (fun q => !(q.1 == i) && !(q.1 + 1 == i && q.2.category == 2)) = lv') (kk : zV p l e R s m args below meth c Q D A nL N ad g k n (pc + 1) (lv') (rest)) : zV p l e R s m args below meth c Q D A nL N ad g k n (pc) (lv) (.int x :: rest) := fun H locs ls hP hD hS hl => lv_istore_n C.1 C.2.1 hdg hi hl hn hl9 (fun ls hl => kk H locs ls hP hD hS hl)
theorem z_istore (C : zC p s m args c cc nL own D A cs tt) {i : Nat} {x : Int32} (hdg : decode cc pc = .ok (.istore i, 2)) (hn : i < nL) (hl9 : (i, Value.int x) :: lv.filter (fun q => !(q.1 == i) && !(q.1 + 1 == i && q.2.category == 2)) = lv') (kk : zV p l e R s m args below meth c Q D A nL N ad g k n (pc + 2) (lv') (rest)) : zV p l e R s m args below meth c Q D A nL N ad g k n (pc) (lv) (.int x :: rest) := fun H locs ls hP hD hS hl => lv_istore C.1 C.2.1 hdg hl hn hl9 (fun ls hl => kk H locs ls hP hD hS hl)
theorem z_astore_n (C : zC p s m args c cc nL own D A cs tt) {f : Fin 4} {i : Nat} {x : Nat} (hdg : decode cc pc = .ok (.astore_n f, 1)) (hi : (f : Nat) = i) (hn : i < nL) (hl9 : (i, Value.ref x) :: lv.filter (fun q => !(q.1 == i) && !(q.1 + 1 == i && q.2.category == 2)) = lv') (kk : zV p l e R s m args below meth c Q D A nL N ad g k n (pc + 1) (lv') (rest)) : zV p l e R s m args below meth c Q D A nL N ad g k n (pc) (lv) (.ref x :: rest) := fun H locs ls hP hD hS hl => lv_astore_n C.1 C.2.1 hdg hi hl hn hl9 (fun ls hl => kk H locs ls hP hD hS hl)
theorem z_astore (C : zC p s m args c cc nL own D A cs tt) {i : Nat} {x : Nat} (hdg : decode cc pc = .ok (.astore i, 2)) (hn : i < nL) (hl9 : (i, Value.ref x) :: lv.filter (fun q => !(q.1 == i) && !(q.1 + 1 == i && q.2.category == 2)) = lv') (kk : zV p l e R s m args below meth c Q D A nL N ad g k n (pc + 2) (lv') (rest)) : zV p l e R s m args below meth c Q D A nL N ad g k n (pc) (lv) (.ref x :: rest) := fun H locs ls hP hD hS hl => lv_astore C.1 C.2.1 hdg hl hn hl9 (fun ls hl => kk H locs ls hP hD hS hl)
theorem z_lstore_n (C : zC p s m args c cc nL own D A cs tt) {f : Fin 4} {i : Nat} {x : Int64} (hdg : decode cc pc = .ok (.lstore_n f, 1)) (hi : (f : Nat) = i) (hn : i + 1 < nL) (hl9 : (i, Value.long x) :: lv.filter (fun q => !(q.1 == i) && (!(q.1 == i + 1) && !(q.1 + 1 == i && q.2.category == 2))) = lv') (kk : zV p l e R s m args below meth c Q D A nL N ad g k n (pc + 1) (lv') (rest)) : zV p l e R s m args below meth c Q D A nL N ad g k n (pc) (lv) (.long x :: rest) := fun H locs ls hP hD hS hl => lv_lstore_n C.1 C.2.1 hdg hi hl hn hl9 (fun ls hl => kk H locs ls hP hD hS hl)
theorem z_lstore (C : zC p s m args c cc nL own D A cs tt) {i : Nat} {x : Int64} (hdg : decode cc pc = .ok (.lstore i, 2)) (hn : i + 1 < nL) (hl9 : (i, Value.long x) :: lv.filter (fun q => !(q.1 == i) && (!(q.1 == i + 1) && !(q.1 + 1 == i && q.2.category == 2))) = lv') (kk : zV p l e R s m args below meth c Q D A nL N ad g k n (pc + 2) (lv') (rest)) : zV p l e R s m args below meth c Q D A nL N ad g k n (pc) (lv) (.long x :: rest) := fun H locs ls hP hD hS hl => lv_lstore C.1 C.2.1 hdg hl hn hl9 (fun ls hl => kk H locs ls hP hD hS hl)
theorem z_iinc (C : zC p s m args c cc nL own D A cs tt) {i j : Nat} {d x z : Int} (hdg : decode cc pc = .ok (.iinc i d, 3)) (hj : lv[j]? = some (i, .int (zI x))) (hz : zI (x + d) = zI z) (hn : i < nL) (hl9 : (i, Value.int (zI z)) :: lv.filter (fun q => !(q.1 == i) && !(q.1 + 1 == i && q.2.category == 2)) = lv') (kk : zV p l e R s m args below meth c Q D A nL N ad g k n (pc + 3) (lv') (rest)) : zV p l e R s m args below meth c Q D A nL N ad g k n (pc) (lv) (rest) := fun H locs ls hP hD hS hl => lv_iinc C.1 C.2.1 hdg hl hj (by show zI x + zI d = _; rw [zI_add]; exact hz) hn hl9 (fun ls hl => kk H locs ls hP hD hS hl)
theorem z_iadd (C : zC p s m args c cc nL own D A cs tt) {a b : Int} (hdg : decode cc pc = .ok (.iadd, 1)) (kk : zV p l e R s m args below meth c Q D A nL N ad g k n (pc + 1) (lv) (.int (zI (a + b)) :: rest)) : zV p l e R s m args below meth c Q D A nL N ad g k n (pc) (lv) (.int (zI b) :: .int (zI a) :: rest) := fun H locs ls hP hD hS hl => lv_iadd C.1 C.2.1 hdg (by rw [zI_add]; exact kk H locs ls hP hD hS hl)
theorem z_isub (C : zC p s m args c cc nL own D A cs tt) {a b : Int} (hdg : decode cc pc = .ok (.isub, 1)) (kk : zV p l e R s m args below meth c Q D A nL N ad g k n (pc + 1) (lv) (.int (zI (a - b)) :: rest)) : zV p l e R s m args below meth c Q D A nL N ad g k n (pc) (lv) (.int (zI b) :: .int (zI a) :: rest) := fun H locs ls hP hD hS hl => lv_isub C.1 C.2.1 hdg (by rw [zI_sub]; exact kk H locs ls hP hD hS hl)
theorem z_imul (C : zC p s m args c cc nL own D A cs tt) {a b : Int} (hdg : decode cc pc = .ok (.imul, 1)) (kk : zV p l e R s m args below meth c Q D A nL N ad g k n (pc + 1) (lv) (.int (zI (a * b)) :: rest)) : zV p l e R s m args below meth c Q D A nL N ad g k n (pc) (lv) (.int (zI b) :: .int (zI a) :: rest) := fun H locs ls hP hD hS hl => lv_imul C.1 C.2.1 hdg (by rw [zI_mul]; exact kk H locs ls hP hD hS hl)
theorem z_ladd (C : zC p s m args c cc nL own D A cs tt) {a b : Int} (hdg : decode cc pc = .ok (.ladd, 1)) (kk : zV p l e R s m args below meth c Q D A nL N ad g k n (pc + 1) (lv) (.long (zJ (a + b)) :: rest)) : zV p l e R s m args below meth c Q D A nL N ad g k n (pc) (lv) (.long (zJ b) :: .long (zJ a) :: rest) := fun H locs ls hP hD hS hl => lv_ladd C.1 C.2.1 hdg (by rw [zJ_add]; exact kk H locs ls hP hD hS hl)
theorem z_lsub (C : zC p s m args c cc nL own D A cs tt) {a b : Int} (hdg : decode cc pc = .ok (.lsub, 1)) (kk : zV p l e R s m args below meth c Q D A nL N ad g k n (pc + 1) (lv) (.long (zJ (a - b)) :: rest)) : zV p l e R s m args below meth c Q D A nL N ad g k n (pc) (lv) (.long (zJ b) :: .long (zJ a) :: rest) := fun H locs ls hP hD hS hl => lv_lsub C.1 C.2.1 hdg (by rw [zJ_sub]; exact kk H locs ls hP hD hS hl)
theorem z_lmul (C : zC p s m args c cc nL own D A cs tt) {a b : Int} (hdg : decode cc pc = .ok (.lmul, 1)) (kk : zV p l e R s m args below meth c Q D A nL N ad g k n (pc + 1) (lv) (.long (zJ (a * b)) :: rest)) : zV p l e R s m args below meth c Q D A nL N ad g k n (pc) (lv) (.long (zJ b) :: .long (zJ a) :: rest) := fun H locs ls hP hD hS hl => lv_lmul C.1 C.2.1 hdg (by rw [zJ_mul]; exact kk H locs ls hP hD hS hl)
theorem z_ineg (C : zC p s m args c cc nL own D A cs tt) {a : Int} (hdg : decode cc pc = .ok (.ineg, 1)) (kk : zV p l e R s m args below meth c Q D A nL N ad g k n (pc + 1) (lv) (.int (zI (-a)) :: rest)) : zV p l e R s m args below meth c Q D A nL N ad g k n (pc) (lv) (.int (zI a) :: rest) := fun H locs ls hP hD hS hl => lv_ineg C.1 C.2.1 hdg (by rw [zI_neg]; exact kk H locs ls hP hD hS hl)
theorem z_idiv (C : zC p s m args c cc nL own D A cs tt) {a b : Int} (hdg : decode cc pc = .ok (.idiv, 1)) (ha : -2147483648 ≤ a ∧ a ≤ 2147483647) (hb : -2147483648 ≤ b ∧ b ≤ 2147483647) (h0 : b ≠ 0) (kk : zV p l e R s m args below meth c Q D A nL N ad g k n (pc + 1) (lv) (.int (zI (a.tdiv b)) :: rest)) : zV p l e R s m args below meth c Q D A nL N ad g k n (pc) (lv) (.int (zI b) :: .int (zI a) :: rest) := fun H locs ls hP hD hS hl => lv_idiv C.1 C.2.1 hdg (by rw [← zI_0, zI_eq hb (by omega)]; exact h0) (by rw [zI_div ha hb]; exact kk H locs ls hP hD hS hl)
theorem z_irem (C : zC p s m args c cc nL own D A cs tt) {a b : Int} (hdg : decode cc pc = .ok (.irem, 1)) (ha : -2147483648 ≤ a ∧ a ≤ 2147483647) (hb : -2147483648 ≤ b ∧ b ≤ 2147483647) (h0 : b ≠ 0) (kk : zV p l e R s m args below meth c Q D A nL N ad g k n (pc + 1) (lv) (.int (zI (a.tmod b)) :: rest)) : zV p l e R s m args below meth c Q D A nL N ad g k n (pc) (lv) (.int (zI b) :: .int (zI a) :: rest) := fun H locs ls hP hD hS hl => lv_irem C.1 C.2.1 hdg (by rw [← zI_0, zI_eq hb (by omega)]; exact h0) (by rw [zI_rem ha hb]; exact kk H locs ls hP hD hS hl)
theorem z_ishl (C : zC p s m args c cc nL own D A cs tt) {a b z : Int} (hdg : decode cc pc = .ok (.ishl, 1)) (hz : zI a <<< (zI b &&& 31) = zI z) (kk : zV p l e R s m args below meth c Q D A nL N ad g k n (pc + 1) (lv) (.int (zI z) :: rest)) : zV p l e R s m args below meth c Q D A nL N ad g k n (pc) (lv) (.int (zI b) :: .int (zI a) :: rest) := fun H locs ls hP hD hS hl => lv_ishl C.1 C.2.1 hdg (by rw [hz]; exact kk H locs ls hP hD hS hl)
theorem z_ishr (C : zC p s m args c cc nL own D A cs tt) {a b z : Int} (hdg : decode cc pc = .ok (.ishr, 1)) (hz : zI a >>> (zI b &&& 31) = zI z) (kk : zV p l e R s m args below meth c Q D A nL N ad g k n (pc + 1) (lv) (.int (zI z) :: rest)) : zV p l e R s m args below meth c Q D A nL N ad g k n (pc) (lv) (.int (zI b) :: .int (zI a) :: rest) := fun H locs ls hP hD hS hl => lv_ishr C.1 C.2.1 hdg (by rw [hz]; exact kk H locs ls hP hD hS hl)
theorem z_iushr (C : zC p s m args c cc nL own D A cs tt) {a b z : Int} (hdg : decode cc pc = .ok (.iushr, 1)) (hz : ((zI a).toUInt32 >>> ((zI b).toUInt32 &&& Int32.toUInt32 31)).toInt32 = zI z) (kk : zV p l e R s m args below meth c Q D A nL N ad g k n (pc + 1) (lv) (.int (zI z) :: rest)) : zV p l e R s m args below meth c Q D A nL N ad g k n (pc) (lv) (.int (zI b) :: .int (zI a) :: rest) := fun H locs ls hP hD hS hl => lv_iushr C.1 C.2.1 hdg hz (kk H locs ls hP hD hS hl)
theorem z_iand (C : zC p s m args c cc nL own D A cs tt) {a b z : Int} (hdg : decode cc pc = .ok (.iand, 1)) (hz : zI a &&& zI b = zI z) (kk : zV p l e R s m args below meth c Q D A nL N ad g k n (pc + 1) (lv) (.int (zI z) :: rest)) : zV p l e R s m args below meth c Q D A nL N ad g k n (pc) (lv) (.int (zI b) :: .int (zI a) :: rest) := fun H locs ls hP hD hS hl => lv_iand C.1 C.2.1 hdg (by rw [hz]; exact kk H locs ls hP hD hS hl)
theorem z_ior (C : zC p s m args c cc nL own D A cs tt) {a b z : Int} (hdg : decode cc pc = .ok (.ior, 1)) (hz : zI a ||| zI b = zI z) (kk : zV p l e R s m args below meth c Q D A nL N ad g k n (pc + 1) (lv) (.int (zI z) :: rest)) : zV p l e R s m args below meth c Q D A nL N ad g k n (pc) (lv) (.int (zI b) :: .int (zI a) :: rest) := fun H locs ls hP hD hS hl => lv_ior C.1 C.2.1 hdg (by rw [hz]; exact kk H locs ls hP hD hS hl)
theorem z_i2l (C : zC p s m args c cc nL own D A cs tt) {a : Int} (hdg : decode cc pc = .ok (.i2l, 1)) (ha : -2147483648 ≤ a ∧ a ≤ 2147483647) (kk : zV p l e R s m args below meth c Q D A nL N ad g k n (pc + 1) (lv) (.long (zJ a) :: rest)) : zV p l e R s m args below meth c Q D A nL N ad g k n (pc) (lv) (.int (zI a) :: rest) := fun H locs ls hP hD hS hl => lv_i2l C.1 C.2.1 hdg (zI_l ha) (kk H locs ls hP hD hS hl)
theorem z_l2i (C : zC p s m args c cc nL own D A cs tt) {a : Int} (hdg : decode cc pc = .ok (.l2i, 1)) (kk : zV p l e R s m args below meth c Q D A nL N ad g k n (pc + 1) (lv) (.int (zI a) :: rest)) : zV p l e R s m args below meth c Q D A nL N ad g k n (pc) (lv) (.long (zJ a) :: rest) := fun H locs ls hP hD hS hl => lv_l2i C.1 C.2.1 hdg (zJ_i a) (kk H locs ls hP hD hS hl)
theorem z_i2b (C : zC p s m args c cc nL own D A cs tt) {a z : Int} (hdg : decode cc pc = .ok (.i2b, 1)) (hz : (zI a).toInt8.toInt32 = zI z) (kk : zV p l e R s m args below meth c Q D A nL N ad g k n (pc + 1) (lv) (.int (zI z) :: rest)) : zV p l e R s m args below meth c Q D A nL N ad g k n (pc) (lv) (.int (zI a) :: rest) := fun H locs ls hP hD hS hl => lv_i2b C.1 C.2.1 hdg hz (kk H locs ls hP hD hS hl)
theorem z_dup (C : zC p s m args c cc nL own D A cs tt) {v : Value} (hdg : decode cc pc = .ok (.dup, 1)) (hv : v.category = 1) (kk : zV p l e R s m args below meth c Q D A nL N ad g k n (pc + 1) (lv) (v :: v :: rest)) : zV p l e R s m args below meth c Q D A nL N ad g k n (pc) (lv) (v :: rest) := fun H locs ls hP hD hS hl => lv_dup C.1 C.2.1 hdg hv (kk H locs ls hP hD hS hl)
theorem z_pop (C : zC p s m args c cc nL own D A cs tt) {v : Value} (hdg : decode cc pc = .ok (.pop, 1)) (hv : v.category = 1) (kk : zV p l e R s m args below meth c Q D A nL N ad g k n (pc + 1) (lv) (rest)) : zV p l e R s m args below meth c Q D A nL N ad g k n (pc) (lv) (v :: rest) := fun H locs ls hP hD hS hl => lv_pop C.1 C.2.1 hdg hv (kk H locs ls hP hD hS hl)
theorem z_dup_x1 (C : zC p s m args c cc nL own D A cs tt) {v w : Value} (hdg : decode cc pc = .ok (.dup_x1, 1)) (hv : v.category = 1) (hw : w.category = 1) (kk : zV p l e R s m args below meth c Q D A nL N ad g k n (pc + 1) (lv) (v :: w :: v :: rest)) : zV p l e R s m args below meth c Q D A nL N ad g k n (pc) (lv) (v :: w :: rest) := fun H locs ls hP hD hS hl => lv_dup_x1 C.1 C.2.1 hdg hv hw (kk H locs ls hP hD hS hl)
theorem z_dup2 (C : zC p s m args c cc nL own D A cs tt) {v w : Value} (hdg : decode cc pc = .ok (.dup2, 1)) (hv : v.category = 1) (hw : w.category = 1) (kk : zV p l e R s m args below meth c Q D A nL N ad g k n (pc + 1) (lv) (v :: w :: v :: w :: rest)) : zV p l e R s m args below meth c Q D A nL N ad g k n (pc) (lv) (v :: w :: rest) := fun H locs ls hP hD hS hl => lv_dup2_11 C.1 C.2.1 hdg hv hw (kk H locs ls hP hD hS hl)
theorem z_icmp_eq (C : zC p s m args c cc nL own D A cs tt) {a b : Int} {off : Int} {tgt : Nat} (hdg : decode cc pc = .ok (.if_icmp .eq off, 3)) (ht : (pc : Int) + off = (tgt : Int)) (ha : -2147483648 ≤ a ∧ a ≤ 2147483647) (hb : -2147483648 ≤ b ∧ b ≤ 2147483647) (kt : a = b → zV p l e R s m args below meth c Q D A nL N ad g k n (tgt) (lv) (rest)) (kf : ¬ (a = b) → zV p l e R s m args below meth c Q D A nL N ad g k n (pc + 3) (lv) (rest)) : zV p l e R s m args below meth c Q D A nL N ad g k n (pc) (lv) (.int (zI b) :: .int (zI a) :: rest) := fun H locs ls hP hD hS hl => lv_icmp_eq C.1 C.2.1 hdg ht (fun h => kt ((zI_eq ha hb).mp h) H locs ls hP hD hS hl) (fun h => kf (fun q => h ((zI_eq ha hb).mpr q)) H locs ls hP hD hS hl)
theorem z_if_eq (C : zC p s m args c cc nL own D A cs tt) {a : Int} {off : Int} {tgt : Nat} (hdg : decode cc pc = .ok (.ifCond .eq off, 3)) (ht : (pc : Int) + off = (tgt : Int)) (ha : -2147483648 ≤ a ∧ a ≤ 2147483647) (kt : a = 0 → zV p l e R s m args below meth c Q D A nL N ad g k n (tgt) (lv) (rest)) (kf : ¬ (a = 0) → zV p l e R s m args below meth c Q D A nL N ad g k n (pc + 3) (lv) (rest)) : zV p l e R s m args below meth c Q D A nL N ad g k n (pc) (lv) (.int (zI a) :: rest) := fun H locs ls hP hD hS hl => lv_if_eq C.1 C.2.1 hdg ht (fun h => kt ((zI_eq ha (show -2147483648 ≤ (0 : Int) ∧ (0 : Int) ≤ 2147483647 by omega)).mp h) H locs ls hP hD hS hl) (fun h => kf (fun q => h ((zI_eq ha (show -2147483648 ≤ (0 : Int) ∧ (0 : Int) ≤ 2147483647 by omega)).mpr q)) H locs ls hP hD hS hl)
theorem z_icmp_ne (C : zC p s m args c cc nL own D A cs tt) {a b : Int} {off : Int} {tgt : Nat} (hdg : decode cc pc = .ok (.if_icmp .ne off, 3)) (ht : (pc : Int) + off = (tgt : Int)) (ha : -2147483648 ≤ a ∧ a ≤ 2147483647) (hb : -2147483648 ≤ b ∧ b ≤ 2147483647) (kt : a ≠ b → zV p l e R s m args below meth c Q D A nL N ad g k n (tgt) (lv) (rest)) (kf : a = b → zV p l e R s m args below meth c Q D A nL N ad g k n (pc + 3) (lv) (rest)) : zV p l e R s m args below meth c Q D A nL N ad g k n (pc) (lv) (.int (zI b) :: .int (zI a) :: rest) := fun H locs ls hP hD hS hl => lv_icmp_ne C.1 C.2.1 hdg ht (fun h => kt (fun q => h ((zI_eq ha hb).mpr q)) H locs ls hP hD hS hl) (fun h => kf ((zI_eq ha hb).mp h) H locs ls hP hD hS hl)
theorem z_if_ne (C : zC p s m args c cc nL own D A cs tt) {a : Int} {off : Int} {tgt : Nat} (hdg : decode cc pc = .ok (.ifCond .ne off, 3)) (ht : (pc : Int) + off = (tgt : Int)) (ha : -2147483648 ≤ a ∧ a ≤ 2147483647) (kt : a ≠ 0 → zV p l e R s m args below meth c Q D A nL N ad g k n (tgt) (lv) (rest)) (kf : a = 0 → zV p l e R s m args below meth c Q D A nL N ad g k n (pc + 3) (lv) (rest)) : zV p l e R s m args below meth c Q D A nL N ad g k n (pc) (lv) (.int (zI a) :: rest) := fun H locs ls hP hD hS hl => lv_if_ne C.1 C.2.1 hdg ht (fun h => kt (fun q => h ((zI_eq ha (show -2147483648 ≤ (0 : Int) ∧ (0 : Int) ≤ 2147483647 by omega)).mpr q)) H locs ls hP hD hS hl) (fun h => kf ((zI_eq ha (show -2147483648 ≤ (0 : Int) ∧ (0 : Int) ≤ 2147483647 by omega)).mp h) H locs ls hP hD hS hl)
theorem z_icmp_lt (C : zC p s m args c cc nL own D A cs tt) {a b : Int} {off : Int} {tgt : Nat} (hdg : decode cc pc = .ok (.if_icmp .lt off, 3)) (ht : (pc : Int) + off = (tgt : Int)) (ha : -2147483648 ≤ a ∧ a ≤ 2147483647) (hb : -2147483648 ≤ b ∧ b ≤ 2147483647) (kt : a < b → zV p l e R s m args below meth c Q D A nL N ad g k n (tgt) (lv) (rest)) (kf : ¬ (a < b) → zV p l e R s m args below meth c Q D A nL N ad g k n (pc + 3) (lv) (rest)) : zV p l e R s m args below meth c Q D A nL N ad g k n (pc) (lv) (.int (zI b) :: .int (zI a) :: rest) := fun H locs ls hP hD hS hl => lv_icmp_lt C.1 C.2.1 hdg ht (fun h => kt ((zI_lt ha hb).mp h) H locs ls hP hD hS hl) (fun h => kf (fun q => h ((zI_lt ha hb).mpr q)) H locs ls hP hD hS hl)
theorem z_if_lt (C : zC p s m args c cc nL own D A cs tt) {a : Int} {off : Int} {tgt : Nat} (hdg : decode cc pc = .ok (.ifCond .lt off, 3)) (ht : (pc : Int) + off = (tgt : Int)) (ha : -2147483648 ≤ a ∧ a ≤ 2147483647) (kt : a < 0 → zV p l e R s m args below meth c Q D A nL N ad g k n (tgt) (lv) (rest)) (kf : ¬ (a < 0) → zV p l e R s m args below meth c Q D A nL N ad g k n (pc + 3) (lv) (rest)) : zV p l e R s m args below meth c Q D A nL N ad g k n (pc) (lv) (.int (zI a) :: rest) := fun H locs ls hP hD hS hl => lv_if_lt C.1 C.2.1 hdg ht (fun h => kt ((zI_lt ha (show -2147483648 ≤ (0 : Int) ∧ (0 : Int) ≤ 2147483647 by omega)).mp h) H locs ls hP hD hS hl) (fun h => kf (fun q => h ((zI_lt ha (show -2147483648 ≤ (0 : Int) ∧ (0 : Int) ≤ 2147483647 by omega)).mpr q)) H locs ls hP hD hS hl)
theorem z_icmp_ge (C : zC p s m args c cc nL own D A cs tt) {a b : Int} {off : Int} {tgt : Nat} (hdg : decode cc pc = .ok (.if_icmp .ge off, 3)) (ht : (pc : Int) + off = (tgt : Int)) (ha : -2147483648 ≤ a ∧ a ≤ 2147483647) (hb : -2147483648 ≤ b ∧ b ≤ 2147483647) (kt : b ≤ a → zV p l e R s m args below meth c Q D A nL N ad g k n (tgt) (lv) (rest)) (kf : ¬ (b ≤ a) → zV p l e R s m args below meth c Q D A nL N ad g k n (pc + 3) (lv) (rest)) : zV p l e R s m args below meth c Q D A nL N ad g k n (pc) (lv) (.int (zI b) :: .int (zI a) :: rest) := fun H locs ls hP hD hS hl => lv_icmp_ge C.1 C.2.1 hdg ht (fun h => kt ((zI_le hb ha).mp h) H locs ls hP hD hS hl) (fun h => kf (fun q => h ((zI_le hb ha).mpr q)) H locs ls hP hD hS hl)
theorem z_if_ge (C : zC p s m args c cc nL own D A cs tt) {a : Int} {off : Int} {tgt : Nat} (hdg : decode cc pc = .ok (.ifCond .ge off, 3)) (ht : (pc : Int) + off = (tgt : Int)) (ha : -2147483648 ≤ a ∧ a ≤ 2147483647) (kt : 0 ≤ a → zV p l e R s m args below meth c Q D A nL N ad g k n (tgt) (lv) (rest)) (kf : ¬ (0 ≤ a) → zV p l e R s m args below meth c Q D A nL N ad g k n (pc + 3) (lv) (rest)) : zV p l e R s m args below meth c Q D A nL N ad g k n (pc) (lv) (.int (zI a) :: rest) := fun H locs ls hP hD hS hl => lv_if_ge C.1 C.2.1 hdg ht (fun h => kt ((zI_le (show -2147483648 ≤ (0 : Int) ∧ (0 : Int) ≤ 2147483647 by omega) ha).mp h) H locs ls hP hD hS hl) (fun h => kf (fun q => h ((zI_le (show -2147483648 ≤ (0 : Int) ∧ (0 : Int) ≤ 2147483647 by omega) ha).mpr q)) H locs ls hP hD hS hl)
theorem z_icmp_gt (C : zC p s m args c cc nL own D A cs tt) {a b : Int} {off : Int} {tgt : Nat} (hdg : decode cc pc = .ok (.if_icmp .gt off, 3)) (ht : (pc : Int) + off = (tgt : Int)) (ha : -2147483648 ≤ a ∧ a ≤ 2147483647) (hb : -2147483648 ≤ b ∧ b ≤ 2147483647) (kt : b < a → zV p l e R s m args below meth c Q D A nL N ad g k n (tgt) (lv) (rest)) (kf : ¬ (b < a) → zV p l e R s m args below meth c Q D A nL N ad g k n (pc + 3) (lv) (rest)) : zV p l e R s m args below meth c Q D A nL N ad g k n (pc) (lv) (.int (zI b) :: .int (zI a) :: rest) := fun H locs ls hP hD hS hl => lv_icmp_gt C.1 C.2.1 hdg ht (fun h => kt ((zI_lt hb ha).mp h) H locs ls hP hD hS hl) (fun h => kf (fun q => h ((zI_lt hb ha).mpr q)) H locs ls hP hD hS hl)
theorem z_if_gt (C : zC p s m args c cc nL own D A cs tt) {a : Int} {off : Int} {tgt : Nat} (hdg : decode cc pc = .ok (.ifCond .gt off, 3)) (ht : (pc : Int) + off = (tgt : Int)) (ha : -2147483648 ≤ a ∧ a ≤ 2147483647) (kt : 0 < a → zV p l e R s m args below meth c Q D A nL N ad g k n (tgt) (lv) (rest)) (kf : ¬ (0 < a) → zV p l e R s m args below meth c Q D A nL N ad g k n (pc + 3) (lv) (rest)) : zV p l e R s m args below meth c Q D A nL N ad g k n (pc) (lv) (.int (zI a) :: rest) := fun H locs ls hP hD hS hl => lv_if_gt C.1 C.2.1 hdg ht (fun h => kt ((zI_lt (show -2147483648 ≤ (0 : Int) ∧ (0 : Int) ≤ 2147483647 by omega) ha).mp h) H locs ls hP hD hS hl) (fun h => kf (fun q => h ((zI_lt (show -2147483648 ≤ (0 : Int) ∧ (0 : Int) ≤ 2147483647 by omega) ha).mpr q)) H locs ls hP hD hS hl)
theorem z_icmp_le (C : zC p s m args c cc nL own D A cs tt) {a b : Int} {off : Int} {tgt : Nat} (hdg : decode cc pc = .ok (.if_icmp .le off, 3)) (ht : (pc : Int) + off = (tgt : Int)) (ha : -2147483648 ≤ a ∧ a ≤ 2147483647) (hb : -2147483648 ≤ b ∧ b ≤ 2147483647) (kt : a ≤ b → zV p l e R s m args below meth c Q D A nL N ad g k n (tgt) (lv) (rest)) (kf : ¬ (a ≤ b) → zV p l e R s m args below meth c Q D A nL N ad g k n (pc + 3) (lv) (rest)) : zV p l e R s m args below meth c Q D A nL N ad g k n (pc) (lv) (.int (zI b) :: .int (zI a) :: rest) := fun H locs ls hP hD hS hl => lv_icmp_le C.1 C.2.1 hdg ht (fun h => kt ((zI_le ha hb).mp h) H locs ls hP hD hS hl) (fun h => kf (fun q => h ((zI_le ha hb).mpr q)) H locs ls hP hD hS hl)
theorem z_if_le (C : zC p s m args c cc nL own D A cs tt) {a : Int} {off : Int} {tgt : Nat} (hdg : decode cc pc = .ok (.ifCond .le off, 3)) (ht : (pc : Int) + off = (tgt : Int)) (ha : -2147483648 ≤ a ∧ a ≤ 2147483647) (kt : a ≤ 0 → zV p l e R s m args below meth c Q D A nL N ad g k n (tgt) (lv) (rest)) (kf : ¬ (a ≤ 0) → zV p l e R s m args below meth c Q D A nL N ad g k n (pc + 3) (lv) (rest)) : zV p l e R s m args below meth c Q D A nL N ad g k n (pc) (lv) (.int (zI a) :: rest) := fun H locs ls hP hD hS hl => lv_if_le C.1 C.2.1 hdg ht (fun h => kt ((zI_le ha (show -2147483648 ≤ (0 : Int) ∧ (0 : Int) ≤ 2147483647 by omega)).mp h) H locs ls hP hD hS hl) (fun h => kf (fun q => h ((zI_le ha (show -2147483648 ≤ (0 : Int) ∧ (0 : Int) ≤ 2147483647 by omega)).mpr q)) H locs ls hP hD hS hl)
theorem z_goto (C : zC p s m args c cc nL own D A cs tt) {off : Int} {tgt : Nat} (hdg : decode cc pc = .ok (.goto off, 3)) (ht : (pc : Int) + off = (tgt : Int)) (kk : zV p l e R s m args below meth c Q D A nL N ad g k n (tgt) (lv) (rest)) : zV p l e R s m args below meth c Q D A nL N ad g k n (pc) (lv) (rest) := fun H locs ls hP hD hS hl => lv_goto C.1 C.2.1 hdg ht (kk H locs ls hP hD hS hl)
theorem z_tin (C : zC p s m args c cc nL own D A cs tt) {a dflt lo hi off : Int} {offs : Array Int} {len tgt : Nat} (hdg : decode cc pc = .ok (.tableswitch dflt lo hi offs, len)) (ha : -2147483648 ≤ a ∧ a ≤ 2147483647) (h1 : lo ≤ a) (h2 : a ≤ hi) (ho : offs[(a - lo).toNat]? = some off) (ht : (pc : Int) + off = (tgt : Int)) (kk : zV p l e R s m args below meth c Q D A nL N ad g k n (tgt) (lv) (rest)) : zV p l e R s m args below meth c Q D A nL N ad g k n (pc) (lv) (.int (zI a) :: rest) := fun H locs ls hP hD hS hl => lv_tableIn C.1 C.2.1 hdg (by rw [zI_to ha]; omega) (by rw [zI_to ha]; omega) (by rw [zI_to ha]; exact ho) ht (kk H locs ls hP hD hS hl)
theorem z_tout (C : zC p s m args c cc nL own D A cs tt) {a dflt lo hi : Int} {offs : Array Int} {len tgt : Nat} (hdg : decode cc pc = .ok (.tableswitch dflt lo hi offs, len)) (ha : -2147483648 ≤ a ∧ a ≤ 2147483647) (h1 : a < lo ∨ hi < a) (ht : (pc : Int) + dflt = (tgt : Int)) (kk : zV p l e R s m args below meth c Q D A nL N ad g k n (tgt) (lv) (rest)) : zV p l e R s m args below meth c Q D A nL N ad g k n (pc) (lv) (.int (zI a) :: rest) := fun H locs ls hP hD hS hl => lv_tableOut C.1 C.2.1 hdg (by rw [zI_to ha]; exact h1) ht (kk H locs ls hP hD hS hl)
theorem z_get (C : zC p s m args c cc nL own D A cs tt) {i a : Nat} (hi : i < N) (ha : ad i = a) {ci : Nat} {fs : List Value} (hg : g i = oC ci fs) {Cn ref : String} {T : u_T} {M index : Nat} (hc : vwCl[ci]? = some (Cn, T, M)) (hin : ∀ w ∈ u_ws Cn T M, w ∈ AW) (f : Nat) (hk : f < M) (hw : Cond.fieldLink own index ref (T f).2.1 (T f).2.2.1 ∈ AW) (hr : (T f).1 = ref) {v : Value} (hv : fs[f]? = some v) (hdg : decode cc pc = .ok (.getfield index, 3)) (kk : zV p l e R s m args below meth c Q D A nL N ad g k n (pc + 3) (lv) (v :: rest)) : zV p l e R s m args below meth c Q D A nL N ad g k n (pc) (lv) (.ref a :: rest) := fun H locs ls hP hD hS hl => va_get C.1 C.2.1 C.2.2.2.2.1 hin C.2.2.2.1 C.2.2.2.2.2.1 hP i ((wl_at hi).trans (by rw [hg, ha])) hc f hk (C.2.2.2.2.1 _ hw) (fun x h => by rw [← hr]; exact h) hv hdg (kk H locs ls hP hD hS hl)
theorem z_put (C : zC p s m args c cc nL own D A cs tt) {i a : Nat} (hi : i < N) (ha : ad i = a) {ci : Nat} {fs fs' : List Value} (hg : g i = oC ci fs) {Cn ref : String} {T : u_T} {M index : Nat} (ty0 : Nat → FieldType) (hty : ∀ k, k < M → parseFieldDescriptor (T k).2.2.1 = some (ty0 k)) (hnm : ∀ a, a < M → ∀ b, b < M → a ≠ b → (T a).2.1 ≠ (T b).2.1) (hc : vwCl[ci]? = some (Cn, T, M)) (hin : ∀ w ∈ u_ws Cn T M, w ∈ AW) (f : Nat) (hk : f < M) (hw : Cond.fieldLink own index ref (T f).2.1 (T f).2.2.1 ∈ AW) (hr : (T f).1 = ref) (hfin : (T f).2.2.2 = false) {v : Value} (hn : narrow (ty0 f) v = v) (hfit : fits (ty0 f) v = true) (hl0 : f < fs.length) (hfs : fs.set f v = fs') (hdg : decode cc pc = .ok (.putfield index, 3)) (kk : ∀ g' : Nat → va_E, g' = va_up g i (oC ci fs') → zV p l e R s m args below meth c Q D A nL N ad g' k n (pc + 3) (lv) (rest)) : zV p l e R s m args below meth c Q D A nL N ad g k n (pc) (lv) (v :: .ref a :: rest) := fun H locs ls hP hD hS hl => va_put C.1 C.2.1 C.2.2.2.2.1 hin ty0 hty hnm C.2.2.2.1 C.2.2.2.2.2.1 hP hD hS i ((wl_at hi).trans (by rw [hg, ha])) hc f hk (C.2.2.2.2.1 _ hw) (fun x h => by rw [← hr]; exact h) hfin (hty f hk) hn hfit hl0 hdg (fun H1 locs1 hP1 hD1 hS1 => by subst hfs; subst ha; rw [wl_set] at hP1 hD1; exact kk _ rfl H1 locs1 ls hP1 hD1 hS1 hl)
theorem z_putF (C : zC p s m args c cc nL own D A cs tt) {i a : Nat} (hi : i < N) (ha : ad i = a) {ci : Nat} {fs fs' : List Value} (hg : g i = oC ci fs) {Cn ref : String} {T : u_T} {M index : Nat} (ty0 : Nat → FieldType) (hty : ∀ k, k < M → parseFieldDescriptor (T k).2.2.1 = some (ty0 k)) (hnm : ∀ a, a < M → ∀ b, b < M → a ≠ b → (T a).2.1 ≠ (T b).2.1) (hc : vwCl[ci]? = some (Cn, T, M)) (hin : ∀ w ∈ u_ws Cn T M, w ∈ AW) (f : Nat) (hk : f < M) (hw : Cond.fieldLink own index ref (T f).2.1 (T f).2.2.1 ∈ AW) (hr : (T f).1 = ref) (hfin : (T f).2.2.2 = true) (hin2 : meth.name = "<init>") (hdecl : (T f).1 = own) {v : Value} (hn : narrow (ty0 f) v = v) (hfit : fits (ty0 f) v = true) (hl0 : f < fs.length) (hfs : fs.set f v = fs') (hdg : decode cc pc = .ok (.putfield index, 3)) (kk : ∀ g' : Nat → va_E, g' = va_up g i (oC ci fs') → zV p l e R s m args below meth c Q D A nL N ad g' k n (pc + 3) (lv) (rest)) : zV p l e R s m args below meth c Q D A nL N ad g k n (pc) (lv) (v :: .ref a :: rest) := fun H locs ls hP hD hS hl => va_putF C.1 C.2.1 C.2.2.2.2.1 hin ty0 hty hnm C.2.2.2.1 C.2.2.2.2.2.1 hP hD hS i ((wl_at hi).trans (by rw [hg, ha])) hc f hk (C.2.2.2.2.1 _ hw) (fun x h => by rw [← hr]; exact h) hfin hin2 hdecl (hty f hk) hn hfit hl0 hdg (fun H1 locs1 hP1 hD1 hS1 => by subst hfs; subst ha; rw [wl_set] at hP1 hD1; exact kk _ rfl H1 locs1 ls hP1 hD1 hS1 hl)
theorem z_alen (C : zC p s m args c cc nL own D A cs tt) {i a : Nat} (hi : i < N) (ha : ad i = a) {cA : ClassId} {x : vp_A} (hg : g i = .inl (cA, x)) (t : Nat) {ty : FieldType} (ht : (tyL cs)[t]? = some (cA, ty)) {z : Int} (hz : (x.1 : Int) = z) (hdg : decode cc pc = .ok (.arraylength, 1)) (kk : zV p l e R s m args below meth c Q D A nL N ad g k n (pc + 1) (lv) (.int (zI z) :: rest)) : zV p l e R s m args below meth c Q D A nL N ad g k n (pc) (lv) (.ref a :: rest) := fun H locs ls hP hD hS hl => va_alen C.1 C.2.1 C.2.2.2.2.2.1 hP i t ((wl_at hi).trans (by rw [hg, ha])) ht (by rw [← hz]; exact zI_nat x.1) hdg (kk H locs ls hP hD hS hl)
theorem z_iald (C : zC p s m args c cc nL own D A cs tt) {i a : Nat} (hi : i < N) (ha : ad i = a) {M : Nat} {r : Nat → Int} (hg : g i = iA cs M r) (j : Nat) {z : Int} (hz : z = (j : Int)) (hj : j < M) (hM : M ≤ 2147483647) (hdg : decode cc pc = .ok (.iaload, 1)) (kk : zV p l e R s m args below meth c Q D A nL N ad g k n (pc + 1) (lv) (.int (zI (r j)) :: rest)) : zV p l e R s m args below meth c Q D A nL N ad g k n (pc) (lv) (.int (zI z) :: .ref a :: rest) := by
  subst hz; subst ha
  exact fun H locs ls hP hD hS hl => va_iald C.1 C.2.1 C.2.2.2.2.2.1 hP i 1 ((wl_at hi).trans (by rw [hg])) rfl (zI_in hj hM) hdg (by rw [zI_clN (by omega)]; exact kk H locs ls hP hD hS hl)
theorem z_bald (C : zC p s m args c cc nL own D A cs tt) {i a : Nat} (hi : i < N) (ha : ad i = a) {M : Nat} {r : Nat → Int} (hg : g i = bA cs M r) (j : Nat) {z : Int} (hz : z = (j : Int)) (hj : j < M) (hM : M ≤ 2147483647) (hdg : decode cc pc = .ok (.baload, 1)) (kk : zV p l e R s m args below meth c Q D A nL N ad g k n (pc + 1) (lv) (.int (zI (r j)) :: rest)) : zV p l e R s m args below meth c Q D A nL N ad g k n (pc) (lv) (.int (zI z) :: .ref a :: rest) := by
  subst hz; subst ha
  exact fun H locs ls hP hD hS hl => va_bald C.1 C.2.1 C.2.2.2.2.2.1 hP i 0 ((wl_at hi).trans (by rw [hg])) rfl (zI_in hj hM) hdg (by rw [zI_clN (by omega)]; exact kk H locs ls hP hD hS hl)
theorem z_lald (C : zC p s m args c cc nL own D A cs tt) {i a : Nat} (hi : i < N) (ha : ad i = a) {M : Nat} {r : Nat → Int} (hg : g i = jA cs M r) (j : Nat) {z : Int} (hz : z = (j : Int)) (hj : j < M) (hM : M ≤ 2147483647) (hdg : decode cc pc = .ok (.laload, 1)) (kk : zV p l e R s m args below meth c Q D A nL N ad g k n (pc + 1) (lv) (.long (zJ (r j)) :: rest)) : zV p l e R s m args below meth c Q D A nL N ad g k n (pc) (lv) (.int (zI z) :: .ref a :: rest) := by
  subst hz; subst ha
  exact fun H locs ls hP hD hS hl => va_lald C.1 C.2.1 C.2.2.2.2.2.1 hP i 2 ((wl_at hi).trans (by rw [hg])) rfl (zI_in hj hM) hdg (by rw [zI_clN (by omega)]; exact kk H locs ls hP hD hS hl)
theorem z_iast (C : zC p s m args c cc nL own D A cs tt) {i a : Nat} (hi : i < N) (ha : ad i = a) {M : Nat} {r : Nat → Int} (hg : g i = iA cs M r) (j : Nat) {z x : Int} (hz : z = (j : Int)) (hj : j < M) (hM : M ≤ 2147483647) (hdg : decode cc pc = .ok (.iastore, 1)) (kk : ∀ g' : Nat → va_E, g' = va_up g i (iA cs M (uZ r j x)) → zV p l e R s m args below meth c Q D A nL N ad g' k n (pc + 1) (lv) (rest)) : zV p l e R s m args below meth c Q D A nL N ad g k n (pc) (lv) (.int (zI x) :: .int (zI z) :: .ref a :: rest) := by
  subst hz; subst ha
  exact fun H locs ls hP hD hS hl => va_iast C.1 C.2.1 C.2.2.2.2.2.1 hP hD hS i 1 ((wl_at hi).trans (by rw [hg])) rfl (zI_in hj hM) hdg (fun H1 locs1 hP1 hD1 hS1 => by rw [zI_clN (by omega), uZ_upd, wl_set] at hP1 hD1; exact kk _ rfl H1 locs1 ls hP1 hD1 hS1 hl)
theorem z_bast (C : zC p s m args c cc nL own D A cs tt) {i a : Nat} (hi : i < N) (ha : ad i = a) {M : Nat} {r : Nat → Int} (hg : g i = bA cs M r) (j : Nat) {z x : Int} (hz : z = (j : Int)) (hj : j < M) (hM : M ≤ 2147483647) (hb : -128 ≤ x ∧ x ≤ 127) (hdg : decode cc pc = .ok (.bastore, 1)) (kk : ∀ g' : Nat → va_E, g' = va_up g i (bA cs M (uZ r j x)) → zV p l e R s m args below meth c Q D A nL N ad g' k n (pc + 1) (lv) (rest)) : zV p l e R s m args below meth c Q D A nL N ad g k n (pc) (lv) (.int (zI x) :: .int (zI z) :: .ref a :: rest) := by
  subst hz; subst ha
  exact fun H locs ls hP hD hS hl => va_bast C.1 C.2.1 C.2.2.2.2.2.1 hP hD hS i 0 ((wl_at hi).trans (by rw [hg])) rfl (zI_in hj hM) hdg (fun H1 locs1 hP1 hD1 hS1 => by rw [vp_nar_byte, zI_b8 hb] at hP1 hD1; rw [zI_clN (by omega), uZ_upd, wl_set] at hP1 hD1; exact kk _ rfl H1 locs1 ls hP1 hD1 hS1 hl)
theorem z_last (C : zC p s m args c cc nL own D A cs tt) {i a : Nat} (hi : i < N) (ha : ad i = a) {M : Nat} {r : Nat → Int} (hg : g i = jA cs M r) (j : Nat) {z x : Int} (hz : z = (j : Int)) (hj : j < M) (hM : M ≤ 2147483647) (hdg : decode cc pc = .ok (.lastore, 1)) (kk : ∀ g' : Nat → va_E, g' = va_up g i (jA cs M (uZ r j x)) → zV p l e R s m args below meth c Q D A nL N ad g' k n (pc + 1) (lv) (rest)) : zV p l e R s m args below meth c Q D A nL N ad g k n (pc) (lv) (.long (zJ x) :: .int (zI z) :: .ref a :: rest) := by
  subst hz; subst ha
  exact fun H locs ls hP hD hS hl => va_last C.1 C.2.1 C.2.2.2.2.2.1 hP hD hS i 2 ((wl_at hi).trans (by rw [hg])) rfl (zI_in hj hM) hdg (fun H1 locs1 hP1 hD1 hS1 => by rw [zI_clN (by omega), uZ_updL, wl_set] at hP1 hD1; exact kk _ rfl H1 locs1 ls hP1 hD1 hS1 hl)
theorem z_aald (C : zC p s m args c cc nL own D A cs tt) {i a : Nat} (hi : i < N) (ha : ad i = a) {cA : ClassId} {Cn : String} {M : Nat} {r : Nat → Option Nat} (hg : g i = rA cA M r) (t : Nat) (ht : (tyL cs)[t]? = some (cA, .object Cn)) (j : Nat) {z : Int} (hz : z = (j : Int)) (hj : j < M) (hM : M ≤ 2147483647) {v : Nat} (hv : r j = some v) (hdg : decode cc pc = .ok (.aaload, 1)) (kk : zV p l e R s m args below meth c Q D A nL N ad g k n (pc + 1) (lv) (.ref v :: rest)) : zV p l e R s m args below meth c Q D A nL N ad g k n (pc) (lv) (.int (zI z) :: .ref a :: rest) := by
  subst hz; subst ha
  exact fun H locs ls hP hD hS hl => va_aldq C.1 C.2.1 C.2.2.2.2.2.1 hP i t ((wl_at hi).trans (by rw [hg])) ht (zI_in hj hM) hdg (by rw [zI_clN (by omega), hv]; exact kk H locs ls hP hD hS hl)
theorem z_aast (C : zC p s m args c cc nL own D A cs tt) {i a a2 : Nat} (hi : i < N) (ha : ad i = a) {cA : ClassId} {q : vw_C} {M : Nat} {r : Nat → Option Nat} (hg : g i = rA cA M r) (t : Nat) (ht : (tyL cs)[t]? = some (cA, .object q.1)) {i2 ci : Nat} {fs : List Value} (hi2 : i2 < N) (ha2 : ad i2 = a2) (hg2 : g i2 = oC ci fs) (hc : vwCl[ci]? = some q) (j : Nat) {z : Int} (hz : z = (j : Int)) (hj : j < M) (hM : M ≤ 2147483647) (hdg : decode cc pc = .ok (.aastore, 1)) (kk : ∀ g' : Nat → va_E, g' = va_up g i (rA cA M (va_up r j (some a2))) → zV p l e R s m args below meth c Q D A nL N ad g' k n (pc + 1) (lv) (rest)) : zV p l e R s m args below meth c Q D A nL N ad g k n (pc) (lv) (.ref a2 :: .int (zI z) :: .ref a :: rest) := by
  subst hz; subst ha; subst ha2
  exact fun H locs ls hP hD hS hl => va_astq C.1 C.2.1 C.2.2.2.2.2.1 hP hD hS i t i2 ci ((wl_at hi).trans (by rw [hg])) ht ((wl_at hi2).trans (by rw [hg2])) hc (zI_in hj hM) hdg (fun H1 locs1 hP1 hD1 hS1 => by rw [zI_clN (by omega), wl_set] at hP1 hD1; exact kk _ rfl H1 locs1 ls hP1 hD1 hS1 hl)
theorem z_new (C : zC p s m args c cc nL own D A cs tt) {Cn : String} {T : u_T} {M ci index : Nat} (ty : Nat → FieldType) (hty : ∀ k, k < M → parseFieldDescriptor (T k).2.2.1 = some (ty k)) (hc : vwCl[ci]? = some (Cn, T, M)) (hin : ∀ w ∈ u_ws Cn T M, w ∈ AW) (hw1 : Cond.classLink own index Cn ∈ AW) (hw2 : Cond.instantiable Cn M ∈ AW) (hw3 : Cond.initialized Cn ∈ AW) {fs : List Value} (hfs : ∀ j, j < M → defaultValue (ty j) = vp_V fs j) (hcells : k + 1 ≤ R.cells) (hslots : n + M ≤ R.slots) (hdg : decode cc pc = .ok (.new index, 3)) (kk : ∀ (q : Nat) (ad' : Nat → Nat) (g' : Nat → va_E), ad' = va_up ad N q → g' = va_up g N (oC ci fs) → zV p l e R s m args below meth c Q D A nL (N + 1) ad' g' (k + 1) (n + M) (pc + 3) (lv) (.ref q :: rest)) : zV p l e R s m args below meth c Q D A nL N ad g k n (pc) (lv) (rest) := fun H locs ls hP hD hS hl => va_new C.1 C.2.1 C.2.2.2.2.1 hin ty hty C.2.2.2.1 (C.2.2.2.2.1 _ hw1) (C.2.2.2.2.1 _ hw2) (C.2.2.2.2.1 _ hw3) C.2.2.2.2.2.1 hP hD hS C.2.2.2.2.2.2.2.1 hc hfs hcells hslots hdg (fun q H1 hP1 hD1 hS1 => by rw [wl_push] at hP1 hD1; exact kk q _ _ rfl rfl H1 locs ls hP1 hD1 hS1 hl)
end ZV
end
section
-- 03a.bytes.lean.txt
/-- byte s (0 the highest) of an int: 0 to 255 -/
def by8 (v : Int) (s : Nat) : Int := (((zI v).toUInt32.toNat >>> (24 - 8 * s)) % 256 : Nat)
theorem by8_r (v : Int) (s : Nat) : 0 ≤ by8 v s ∧ by8 v s ≤ 255 := by unfold by8; omega
/-- such a byte, signed -/
def sB (v : Int) (s : Nat) (y : Int) : Prop := (-128 ≤ y ∧ y ≤ 127) ∧ (y = by8 v s ∨ y = by8 v s - 256)
theorem sh_u : ∀ s : Fin 4, ((zI (24 - 8 * (s.val : Int))).toUInt32 &&& Int32.toUInt32 31).toNat = 24 - 8 * s.val := by decide
theorem sB_c {v x y sh : Int} {s : Nat} (hs : s < 4 ∧ sh = 24 - 8 * (s : Int)) (e1 : ((zI v).toUInt32 >>> ((zI sh).toUInt32 &&& Int32.toUInt32 31)).toInt32 = zI x) (h1 : -2147483648 ≤ x ∧ x ≤ 2147483647) (e2 : (zI x).toInt8.toInt32 = zI y) (h2 : -128 ≤ y ∧ y ≤ 127) : sB v s y := by
  obtain ⟨hs, rfl⟩ := hs
  have e3 : (zI x).toInt8.toInt = y := by
    have e4 := congrArg Int32.toInt e2
    rw [zI_to (by omega)] at e4
    rw [← e4, Int8.toInt_toInt32]
  rw [← e1, Int32.toInt_toInt8] at e3
  have hk := sh_u ⟨s, hs⟩
  have e5 : (((zI v).toUInt32 >>> ((zI (24 - 8 * (s : Int))).toUInt32 &&& Int32.toUInt32 31)).toInt32).toInt = (((zI v).toUInt32 >>> ((zI (24 - 8 * (s : Int))).toUInt32 &&& Int32.toUInt32 31)).toNat : Int).bmod (2 ^ 32) := by
    rw [← Int32.toInt_toBitVec, UInt32.toBitVec_toInt32, BitVec.toInt_eq_toNat_bmod, UInt32.toNat_toBitVec]
  rw [e5, UInt32.toNat_shiftRight] at e3
  have e6 : ((zI (24 - 8 * (s : Int))).toUInt32 &&& Int32.toUInt32 31).toNat % 32 = 24 - 8 * s := by
    rw [show ((zI (24 - 8 * (s : Int))).toUInt32 &&& Int32.toUInt32 31).toNat = 24 - 8 * s from hk]
    omega
  rw [e6, Int.bmod_bmod_of_dvd (by decide)] at e3
  have e7 : by8 v s = (((zI v).toUInt32.toNat >>> (24 - 8 * s) : Nat) : Int) % 256 := by unfold by8; omega
  refine ⟨h2, ?_⟩
  rw [e7, ← e3, Int.bmod_def]
  show (if _ then _ else _) = _ ∨ (if _ then _ else _) = _
  split
  · exact Or.inl rfl
  · exact Or.inr rfl
/-- as the reference takes it -/
theorem by8_r2 {v x y sh : Int} {s : Nat} (hs : s < 4 ∧ sh = 24 - 8 * (s : Int)) (e1 : zI v >>> (zI sh &&& 31) = zI x) (e2 : zI x &&& zI 255 = zI y) (h2 : 0 ≤ y ∧ y ≤ 255) : y = by8 v s := by
  obtain ⟨hs, rfl⟩ := hs
  have hk : ∀ s : Fin 4, (zI (24 - 8 * (s.val : Int)) &&& 31).toBitVec.smod 32 = BitVec.ofNat 32 (24 - 8 * s.val) := by decide
  have e0 := hk ⟨s, hs⟩
  have e3 : (zI y).toBitVec = ((zI v).toBitVec >>> (24 - 8 * s)) &&& 255#32 := by
    rw [← e2, ← e1, Int32.toBitVec_and, Int32.toBitVec_shiftRight, e0, show (zI 255).toBitVec = 255#32 from rfl]
    apply BitVec.eq_of_getLsbD_eq
    intro i hi
    have h255 : ∀ i, i < 32 → (255#32).getLsbD i = decide (i < 8) := by decide
    rw [BitVec.getLsbD_and, BitVec.getLsbD_and, h255 i hi]
    by_cases h8 : i < 8
    · rw [BitVec.sshiftRight_eq', BitVec.getLsbD_sshiftRight, BitVec.getLsbD_ushiftRight]
      rw [show (BitVec.ofNat 32 (24 - 8 * s)).toNat = 24 - 8 * s by rw [BitVec.toNat_ofNat]; omega]
      rw [if_pos (by omega)]
      simp [show ¬ 32 ≤ i by omega]
    · simp [h8]
  have e4 : (zI y).toBitVec.toNat = (((zI v).toBitVec.toNat >>> (24 - 8 * s)) % 256) := by
    rw [e3, BitVec.toNat_and, BitVec.toNat_ushiftRight]
    exact Nat.and_two_pow_sub_one_eq_mod _ 8
  have e5 : y = ((zI y).toBitVec.toNat : Int) := by
    obtain ⟨n, rfl⟩ := Int.eq_ofNat_of_zero_le h2.1
    rw [← zI_nat]
    show (n : Int) = ((Int32.ofNat n).toBitVec.toNat : Int)
    have hn : n < 256 := by omega
    simp
    omega
  rw [e5, e4]
  rfl
end
section
-- 04.calls.lean.txt
/-! ===== contracts ===== -/
abbrev zR : Type := Option Value → Nat → (Nat → Nat) → (Nat → va_E) → Prop
def zPre (D : va_G) (A : Nat → Prop) (cs : Nat → ClassId) (tt : Nat) (N : Nat) (ad : Nat → Nat) (g : Nat → va_E) (avs : List Value) : Array Value → State → Prop := fun v U => v = avs.toArray ∧ zE D A cs tt U ∧ va_P D vwCl (wl N ad g) U.heap ∧ va_D A (wl N ad g)
def zPost (D : va_G) (A : Nat → Prop) (Qr : zR) : Array Value → State → Outcome → State → Prop := fun _ st oc t => ∃ (r : Option Value) (N' : Nat) (ad' : Nat → Nat) (g' : Nat → va_E), oc = .returned r ∧ Qr r N' ad' g' ∧ va_P D vwCl (wl N' ad' g') t.heap ∧ va_D A (wl N' ad' g') ∧ va_F A st t
def zM (l : Launch) (y : MethodName) (cc : ByteArray) (mL : Nat) (ret : Option FieldType) (rm : Room) (D : va_G) (A : Nat → Prop) (cs : Nat → ClassId) (tt : Nat) (N : Nat) (ad : Nat → Nat) (g : Nat → va_E) (avs : List Value) (Qr : zR) : Prop := Met l y (.code y cc mL ret :: AW) rm (zPre D A cs tt N ad g avs) (zPost D A Qr) rm.cells rm.slots A
abbrev rI (Qz : Int → Nat → (Nat → Nat) → (Nat → va_E) → Prop) : zR := fun r N' ad' g' => ∃ z : Int, r = some (.int (zI z)) ∧ Qz z N' ad' g'
abbrev rV (Qz : Nat → (Nat → Nat) → (Nat → va_E) → Prop) : zR := fun r N' ad' g' => r = none ∧ Qz N' ad' g'
abbrev rR (Qz : Nat → Nat → (Nat → Nat) → (Nat → va_E) → Prop) : zR := fun r N' ad' g' => ∃ a : Nat, r = some (.ref a) ∧ Qz a N' ad' g'
abbrev rI0 (N : Nat) (ad : Nat → Nat) (Qz : Int → (Nat → va_E) → Prop) : zR := rI (fun z N' ad' g' => N' = N ∧ ad' = ad ∧ Qz z g')
abbrev rV0 (N : Nat) (ad : Nat → Nat) (Qz : (Nat → va_E) → Prop) : zR := rV (fun N' ad' g' => N' = N ∧ ad' = ad ∧ Qz g')
abbrev rR0 (N : Nat) (ad : Nat → Nat) (Qz : Nat → (Nat → va_E) → Prop) : zR := rR (fun a N' ad' g' => N' = N ∧ ad' = ad ∧ Qz a g')
theorem zPre.blind {D : va_G} {A : Nat → Prop} {cs : Nat → ClassId} {tt N : Nat} {ad : Nat → Nat} {g : Nat → va_E} {avs : List Value} : FrameBlind (zPre D A cs tt N ad g avs) := fun _ _ _ _ h => ⟨h.1, h.2.1.calling, h.2.2.1, h.2.2.2⟩
theorem z_of {l : Launch} {y : MethodName} {cc : ByteArray} {mL : Nat} {ret : Option FieldType} {rm : Room} {D : va_G} {A : Nat → Prop} {cs : Nat → ClassId} {tt N : Nat} {ad : Nat → Nat} {g : Nat → va_E} {avs : List Value} {Qr : zR} (hy : plainName y.cls = true) (hlen : (lg_sl avs).length ≤ mL)
    (body : ∀ (p : Program) (e : Env) (s : State) (m : MethodId) (below : List Frame) (meth : Method) (c : Code), zC p s m avs.toArray c cc mL y.cls D A cs tt → meth.sig.returnType = ret → meth.locks = false → meth.name = y.name →
      zV p l e rm s m avs.toArray below meth c (MQ below (zPost D A Qr) avs.toArray s rm.cells rm.slots A) D A mL N ad g 0 0 0 (lv_args 0 avs) []) : zM l y cc mL ret rm D A cs tt N ad g avs Qr := by
  refine Met.ofW (cc := cc) (maxL := mL) (ret := ret) hy rfl ?_
  intro p e s m args below meth c s₁ B hml hv
  obtain ⟨rfl, hE, hP, hD⟩ := hv
  have hts := atoms_spec (ws := Cond.code y cc mL ret :: AW) B.pre
  have hl := lv_entry avs (n := mL) hlen
  rw [lg_entry_eq]
  exact body p e s m below meth c ⟨B.exec, B.bytes, hml, findClass_of_methodNamed B.named, fun w h => hts w (List.mem_cons_of_mem _ h), hE⟩ B.returns B.notSynchronized (name_of_methodNamed B.named B.method).1 s.heap [] _ hP hD va_S.rf hl
def zWv (y : MethodName) (cb : ByteArray) (mL : Nat) (ret : Option FieldType) : Prop := Cond.instanceMethod y ∈ AW ∧ Cond.selects y.cls y y ∈ AW ∧ Cond.initialized y.cls ∈ AW ∧ Cond.code y cb mL ret ∈ AW
def zWs (y : MethodName) (cb : ByteArray) (mL : Nat) (ret : Option FieldType) : Prop := Cond.static y ∈ AW ∧ Cond.initialized y.cls ∈ AW ∧ Cond.code y cb mL ret ∈ AW
def zWi (y : MethodName) (cb : ByteArray) (mL : Nat) : Prop := Cond.instanceMethod y ∈ AW ∧ Cond.initialized y.cls ∈ AW ∧ Cond.code y cb mL none ∈ AW
section ZM
variable {p : Program} {l : Launch} {e : Env} {R : Room} {s : State} {m : MethodId} {args : Array Value} {below : List Frame} {meth : Method} {c : Code} {Q : State → Prop} {D : va_G} {A : Nat → Prop} {cs : Nat → ClassId} {tt : Nat} {cc : ByteArray} {nL : Nat} {own : String} {N : Nat} {ad : Nat → Nat} {g : Nat → va_E} {k n pc : Nat} {lv lv' : List (Nat × Value)} {rest st : List Value} {Qr : zR} {mc ms : Nat}
theorem z_iret (C : zC p s m args c cc nL own D A cs tt) {z : Int} (hr : meth.sig.returnType = some .int) (hlocks : meth.locks = false) (hdg : decode cc pc = .ok (.ireturn, 1)) (hk : k ≤ mc) (hn : n ≤ ms) (hq : Qr (some (.int (zI z))) N ad g) : zV p l e R s m args below meth c (MQ below (zPost D A Qr) args s mc ms A) D A nL N ad g k n (pc) (lv) ([.int (zI z)]) := fun H locs ls hP hD hS hl => W.widen hk hn (W.iret C.1 C.2.1 hr (fun t ht hW => ⟨_, _, _, _, rfl, hq, by rw [ht]; exact hP, hD, hS.F ht⟩) hS.2.2 hdg hlocks)
theorem z_zret (C : zC p s m args c cc nL own D A cs tt) {z : Int} {ty : FieldType} (hr : meth.sig.returnType = some ty) (hlocks : meth.locks = false) (hdg : decode cc pc = .ok (.ireturn, 1)) (hnz : narrow ty (.int (zI z)) = .int (zI z)) (hk : k ≤ mc) (hn : n ≤ ms) (hq : Qr (some (.int (zI z))) N ad g) : zV p l e R s m args below meth c (MQ below (zPost D A Qr) args s mc ms A) D A nL N ad g k n (pc) (lv) ([.int (zI z)]) := fun H locs ls hP hD hS hl => W.widen hk hn (W.zret C.1 C.2.1 hr hnz (fun t ht hW => ⟨_, _, _, _, rfl, hq, by rw [ht]; exact hP, hD, hS.F ht⟩) hS.2.2 hdg hlocks)
theorem z_vret (C : zC p s m args c cc nL own D A cs tt) (hr : meth.sig.returnType = none) (hlocks : meth.locks = false) (hdg : decode cc pc = .ok (.return_, 1)) (hk : k ≤ mc) (hn : n ≤ ms) (hq : Qr none N ad g) : zV p l e R s m args below meth c (MQ below (zPost D A Qr) args s mc ms A) D A nL N ad g k n (pc) (lv) ([]) := fun H locs ls hP hD hS hl => W.widen hk hn (W.vret C.1 C.2.1 hr (fun t ht hW => ⟨_, _, _, _, rfl, hq, by rw [ht]; exact hP, hD, hS.F ht⟩) hS.2.2 hdg hlocks)
theorem z_aret (C : zC p s m args c cc nL own D A cs tt) {a : Nat} {rt : FieldType} (hr : meth.sig.returnType = some rt) (hrt : (∃ n, rt = .object n) ∨ ∃ t, rt = .array t) (hlocks : meth.locks = false) (hdg : decode cc pc = .ok (.areturn, 1)) (hk : k ≤ mc) (hn : n ≤ ms) (hq : Qr (some (.ref a)) N ad g) : zV p l e R s m args below meth c (MQ below (zPost D A Qr) args s mc ms A) D A nL N ad g k n (pc) (lv) ([.ref a]) := fun H locs ls hP hD hS hl => W.widen hk hn (W.aret C.1 C.2.1 hr hrt (Or.inr ⟨a, rfl⟩) (fun t ht hW => ⟨_, _, _, _, rfl, hq, by rw [ht]; exact hP, hD, hS.F ht⟩) hS.2.2 hdg hlocks)
theorem z_widen {k2 n2 : Nat} (hk : k ≤ k2) (hn : n ≤ n2) (kk : zV p l e R s m args below meth c Q D A nL N ad g k2 n2 (pc) (lv) (st)) : zV p l e R s m args below meth c Q D A nL N ad g k n (pc) (lv) (st) := fun H locs ls hP hD hS hl => W.widen hk hn (kk H locs ls hP hD hS hl)
theorem z_lv (ks : List Nat) (h : lv_pick lv ks = lv') (kk : zV p l e R s m args below meth c Q D A nL N ad g k n (pc) (lv') (st)) : zV p l e R s m args below meth c Q D A nL N ad g k n (pc) (lv) (st) := fun H locs ls hP hD hS hl => kk H locs ls hP hD hS (lv_sub hl ks h)
theorem z_objInit (C : zC p s m args c cc nL own D A cs tt) {v : Nat} {idx : Nat} (hlk : Cond.methodLink own idx Lib.objectInit ∈ AW) (hw : Cond.instanceMethod Lib.objectInit ∈ AW) (hcd : Cond.code Lib.objectInit ⟨#[0xb1]⟩ 1 none ∈ AW) (hd : decode cc pc = .ok (.invokespecial idx, 3)) (hframes : 1 ≤ R.frames) (hlocals : (rest.map fun v => v.category).sum + 12 ≤ R.locals) (kk : zV p l e R s m args below meth c Q D A nL N ad g k n (pc + 3) (lv) (rest)) : zV p l e R s m args below meth c Q D A nL N ad g k n (pc) (lv) (.ref v :: rest) := fun H locs ls hP hD hS hl => W.objInit C.1 C.2.1 C.2.2.2.1 (C.2.2.2.2.1 _ hlk) (C.2.2.2.2.1 _ hw) (C.2.2.2.2.1 _ hcd) rfl (by rw [C.2.2.1]; exact hl.1) rfl hd hframes (by show 2 * 0 + _ + 12 ≤ _; omega) (kk H locs ls hP hD hS hl)
theorem z_run {As : Array Value} {H : Heap} {locs : List Loc} {ls : Array Slot} {rm : Room} (hr : va_Run p l e R s m args below meth c H locs k n rm.cells rm.slots (F0 m pc ls st) rest (zPost D A Qr As) A) (hS : va_S A s.heap H locs) (hl : lv_has ls nL lv)
    (kk : ∀ (r : Option Value) (N' : Nat) (ad' : Nat → Nat) (g' : Nat → va_E), Qr r N' ad' g' → zV p l e R s m args below meth c Q D A nL N' ad' g' (k + rm.cells) (n + rm.slots) (pc + 3) (lv) (r.toList ++ rest)) : W p l e R s m args below meth c H locs k n Q (F0 m pc ls st) := by
  intro T hT X
  obtain ⟨v, st₀, t, T', L, h0, X', hL, e1, e2, ⟨r, N', ad', g', hv, hq, hP, hD, hz, hk⟩, st9⟩ := hr T hT X
  cases hv
  rw [h0] at hz hk
  obtain ⟨t2, a1, b1⟩ := kk v N' ad' g' hq T'.heap (locs ++ L) ls (by rw [e1]; exact hP) hD ⟨Nat.le_trans hS.1 (by rw [e1]; exact hz), fun q h1 h2 => by rw [e1, hk q (Nat.lt_of_lt_of_le h1 hS.1) h2]; exact hS.2.1 q h1 h2, fun q hq => by
      rcases List.mem_append.mp hq with h | h
      · exact hS.2.2 q h
      · exact hL q h⟩ hl T' rfl X'
  exact ⟨t2, st9 t2 a1, b1⟩
theorem z_preS {avs : List Value} {H : Heap} {locs : List Loc} (C : zC p s m args c cc nL own D A cs tt) (hP : va_P D vwCl (wl N ad g) H) (hD : va_D A (wl N ad g)) (hS : va_S A s.heap H locs) : PreS s H (zPre D A cs tt N ad g avs) avs :=
  ⟨zPre.blind, fun U hU hW => ⟨rfl, C.2.2.2.2.2.next hS hU hW, by rw [hU]; exact hP, hD⟩⟩
theorem z_cV (C : zC p s m args c cc nL own D A cs tt) {y : MethodName} {cb : ByteArray} {mL index : Nat} {ret : Option FieldType} {rm : Room} {As : List Value} {i a ci : Nat} {fs : List Value} {q : vw_C} (hM : zM l y cb mL ret rm D A cs tt N ad g (.ref a :: As) Qr) (hi : i < N) (ha : ad i = a) (hg : g i = oC ci fs) (hc : vwCl[ci]? = some q) (hq : q.1 = y.cls) (hw : zWv y cb mL ret) (hlk : Cond.methodLink own index y ∈ AW) (hd : y.cls ≠ "java/lang/invoke/MethodHandle" ∧ y.cls ≠ "java/lang/invoke/VarHandle" ∧ (parseMethodDescriptor y.desc).map (fun d => d.parameters.length) = some As.length) (hR : rm.frames + 1 ≤ R.frames ∧ 8 + (mL + 11) + rm.locals ≤ R.locals) (hrest : (rest.map fun v => v.category).sum ≤ 8) (hf : k + rm.cells ≤ R.cells ∧ n + rm.slots ≤ R.slots) (hdg : decode cc pc = .ok (.invokevirtual index, 3)) (hst : st = As.reverse ++ .ref a :: rest)
    (kk : ∀ (r : Option Value) (N' : Nat) (ad' : Nat → Nat) (g' : Nat → va_E), Qr r N' ad' g' → zV p l e R s m args below meth c Q D A nL N' ad' g' (k + rm.cells) (n + rm.slots) (pc + 3) (lv) (r.toList ++ rest)) : zV p l e R s m args below meth c Q D A nL N ad g k n (pc) (lv) (st) := fun H locs ls hP hD hS hl => by
  have hG : GoodIn AW (wsV own index y.cls y (Cond.code y cb mL ret :: AW)) := AW_in (fun w h => by
    rcases List.mem_append.mp h with h | h
    · rcases List.mem_cons.mp h with rfl | h
      · exact hlk
      · rcases List.mem_cons.mp h with rfl | h
        · exact hw.1
        · rcases List.mem_cons.mp h with rfl | h
          · exact hw.2.1
          · rcases List.mem_cons.mp h with rfl | h
            · exact hw.2.2.1
            · exact absurd h List.not_mem_nil
    · rcases List.mem_cons.mp h with rfl | h
      · exact hw.2.2.2
      · exact h)
  have hrc : ∃ cell : Cell, H[a]? = some cell ∧ cell.vm.isStatics = false ∧ s.vm.findClass y.cls = some cell.cls := by
    rw [← hq]; exact va_recv C.2.2.2.2.2.1 hP hc ((wl_at hi).trans (by rw [hg, ha]))
  exact z_run (va_runV (As := As) (rest := rest) ⟨C.1, C.2.1, C.2.2.1, C.2.2.2.1, C.2.2.2.2.1⟩ hM (cwV As.length C.2.2.2.2.1 hG rfl rfl rfl ⟨rfl, hd⟩ hR) ⟨zPre.blind, hrc, (z_preS C hP hD hS).2⟩ rfl rfl hl.1 hst (lv_room hrest) hdg hf) hS hl kk
theorem z_cS (C : zC p s m args c cc nL own D A cs tt) {y : MethodName} {cb : ByteArray} {mL index : Nat} {ret : Option FieldType} {rm : Room} {As : List Value} (hM : zM l y cb mL ret rm D A cs tt N ad g As Qr) (hw : zWs y cb mL ret) (hlk : Cond.methodLink own index y ∈ AW) (hd : y.cls ≠ "java/lang/invoke/MethodHandle" ∧ y.cls ≠ "java/lang/invoke/VarHandle" ∧ (parseMethodDescriptor y.desc).map (fun d => d.parameters.length) = some As.length) (hR : rm.frames + 1 ≤ R.frames ∧ 8 + (mL + 11) + rm.locals ≤ R.locals) (hrest : (rest.map fun v => v.category).sum ≤ 8) (hf : k + rm.cells ≤ R.cells ∧ n + rm.slots ≤ R.slots) (hdg : decode cc pc = .ok (.invokestatic index, 3)) (hst : st = As.reverse ++ rest)
    (kk : ∀ (r : Option Value) (N' : Nat) (ad' : Nat → Nat) (g' : Nat → va_E), Qr r N' ad' g' → zV p l e R s m args below meth c Q D A nL N' ad' g' (k + rm.cells) (n + rm.slots) (pc + 3) (lv) (r.toList ++ rest)) : zV p l e R s m args below meth c Q D A nL N ad g k n (pc) (lv) (st) := fun H locs ls hP hD hS hl => by
  have hG : GoodIn AW (va_wsS own index y (Cond.code y cb mL ret :: AW)) := AW_in (fun w h => by
    rcases List.mem_append.mp h with h | h
    · rcases List.mem_cons.mp h with rfl | h
      · exact hlk
      · rcases List.mem_cons.mp h with rfl | h
        · exact hw.1
        · rcases List.mem_cons.mp h with rfl | h
          · exact hw.2.1
          · exact absurd h List.not_mem_nil
    · rcases List.mem_cons.mp h with rfl | h
      · exact hw.2.2
      · exact h)
  exact z_run (va_runS (As := As) (rest := rest) ⟨C.1, C.2.1, C.2.2.1, C.2.2.2.1, C.2.2.2.2.1⟩ hM (va_cwS As.length C.2.2.2.2.1 hG rfl rfl rfl hd hR) (z_preS C hP hD hS) rfl rfl hl.1 hst (lv_room hrest) hdg hf) hS hl kk
theorem AW_cons {w0 : Cond} (h0 : w0 ∈ AW) : GoodIn AW (w0 :: AW) := AW_in (fun w h => by
    rcases List.mem_cons.mp h with rfl | h
    · exact h0
    · exact h)
theorem z_cI (C : zC p s m args c cc nL own D A cs tt) {y : MethodName} {cb : ByteArray} {mL index : Nat} {rm : Room} {As : List Value} {b : Nat} (hM : zM l y cb mL none rm D A cs tt N ad g (.ref b :: As) Qr) (hw : zWi y cb mL) (hlk : Cond.methodLink own index y ∈ AW) (hin : y.name = "<init>") (hd : y.cls ≠ "java/lang/invoke/MethodHandle" ∧ y.cls ≠ "java/lang/invoke/VarHandle" ∧ (parseMethodDescriptor y.desc).map (fun d => d.parameters.length) = some As.length) (hR : rm.frames + 1 ≤ R.frames ∧ 8 + (mL + 11) + rm.locals ≤ R.locals) (hrest : (rest.map fun v => v.category).sum ≤ 8) (hf : k + rm.cells ≤ R.cells ∧ n + rm.slots ≤ R.slots) (hdg : decode cc pc = .ok (.invokespecial index, 3)) (hst : st = As.reverse ++ .ref b :: rest)
    (kk : ∀ (r : Option Value) (N' : Nat) (ad' : Nat → Nat) (g' : Nat → va_E), Qr r N' ad' g' → zV p l e R s m args below meth c Q D A nL N' ad' g' (k + rm.cells) (n + rm.slots) (pc + 3) (lv) (r.toList ++ rest)) : zV p l e R s m args below meth c Q D A nL N ad g k n (pc) (lv) (st) := fun H locs ls hP hD hS hl => by
  exact z_run (va_runI (As := As) (rest := rest) ⟨C.1, C.2.1, C.2.2.1, C.2.2.2.1, C.2.2.2.2.1⟩ hM (cwI As.length C.2.2.2.2.1 (AW_cons hw.2.2) rfl rfl rfl (C.2.2.2.2.1 _ hw.2.1) (C.2.2.2.2.1 _ hlk) (C.2.2.2.2.1 _ hw.1) hin hd hR) (z_preS C hP hD hS) rfl rfl hl.1 hst (lv_room hrest) hdg hf) hS hl kk
theorem z_cIN (C : zC p s m args c cc nL own D A cs tt) {y : MethodName} {cb : ByteArray} {mL index : Nat} {rm : Room} {As : List Value} {b : Nat} {host : String} (hM : zM l y cb mL none rm D A cs tt N ad g (.ref b :: As) Qr) (hw : zWi y cb mL) (hlk : Cond.methodLinkNest own index y host ∈ NW) (hin : y.name = "<init>") (hd : y.cls ≠ "java/lang/invoke/MethodHandle" ∧ y.cls ≠ "java/lang/invoke/VarHandle" ∧ (parseMethodDescriptor y.desc).map (fun d => d.parameters.length) = some As.length) (hR : rm.frames + 1 ≤ R.frames ∧ 8 + (mL + 11) + rm.locals ≤ R.locals) (hrest : (rest.map fun v => v.category).sum ≤ 8) (hf : k + rm.cells ≤ R.cells ∧ n + rm.slots ≤ R.slots) (hdg : decode cc pc = .ok (.invokespecial index, 3)) (hst : st = As.reverse ++ .ref b :: rest)
    (kk : ∀ (r : Option Value) (N' : Nat) (ad' : Nat → Nat) (g' : Nat → va_E), Qr r N' ad' g' → zV p l e R s m args below meth c Q D A nL N' ad' g' (k + rm.cells) (n + rm.slots) (pc + 3) (lv) (r.toList ++ rest)) : zV p l e R s m args below meth c Q D A nL N ad g k n (pc) (lv) (st) := fun H locs ls hP hD hS hl => by
  exact z_run (va_runIN (As := As) (rest := rest) ⟨C.1, C.2.1, C.2.2.1, C.2.2.2.1, C.2.2.2.2.1⟩ hM ⟨va_cnB As.length C.2.2.2.2.1 (AW_cons hw.2.2) rfl rfl rfl (C.2.2.2.2.2.2.1 _ hlk) (C.2.2.2.2.1 _ hw.2.1) hd hR, hin, C.2.2.2.2.1 _ hw.1⟩ (z_preS C hP hD hS) rfl rfl hl.1 hst (lv_room hrest) hdg hf) hS hl kk
theorem z_cSN (C : zC p s m args c cc nL own D A cs tt) {y : MethodName} {cb : ByteArray} {mL index : Nat} {ret : Option FieldType} {rm : Room} {As : List Value} {host : String} (hM : zM l y cb mL ret rm D A cs tt N ad g As Qr) (hw : zWs y cb mL ret) (hlk : Cond.methodLinkNest own index y host ∈ NW) (hd : y.cls ≠ "java/lang/invoke/MethodHandle" ∧ y.cls ≠ "java/lang/invoke/VarHandle" ∧ (parseMethodDescriptor y.desc).map (fun d => d.parameters.length) = some As.length) (hR : rm.frames + 1 ≤ R.frames ∧ 8 + (mL + 11) + rm.locals ≤ R.locals) (hrest : (rest.map fun v => v.category).sum ≤ 8) (hf : k + rm.cells ≤ R.cells ∧ n + rm.slots ≤ R.slots) (hdg : decode cc pc = .ok (.invokestatic index, 3)) (hst : st = As.reverse ++ rest)
    (kk : ∀ (r : Option Value) (N' : Nat) (ad' : Nat → Nat) (g' : Nat → va_E), Qr r N' ad' g' → zV p l e R s m args below meth c Q D A nL N' ad' g' (k + rm.cells) (n + rm.slots) (pc + 3) (lv) (r.toList ++ rest)) : zV p l e R s m args below meth c Q D A nL N ad g k n (pc) (lv) (st) := fun H locs ls hP hD hS hl => by
  exact z_run (va_runSN (As := As) (rest := rest) ⟨C.1, C.2.1, C.2.2.1, C.2.2.2.1, C.2.2.2.2.1⟩ hM ⟨va_cnB As.length C.2.2.2.2.1 (AW_cons hw.2.2) rfl rfl rfl (C.2.2.2.2.2.2.1 _ hlk) (C.2.2.2.2.1 _ hw.2.1) hd hR, C.2.2.2.2.1 _ hw.1, trivial⟩ (z_preS C hP hD hS) rfl rfl hl.1 hst (lv_room hrest) hdg hf) hS hl kk
theorem kI {Qz : Int → Nat → (Nat → Nat) → (Nat → va_E) → Prop} (h : ∀ (z : Int) (N' : Nat) (ad' : Nat → Nat) (g' : Nat → va_E), Qz z N' ad' g' → zV p l e R s m args below meth c Q D A nL N' ad' g' k n pc lv (.int (zI z) :: rest)) : ∀ (r : Option Value) (N' : Nat) (ad' : Nat → Nat) (g' : Nat → va_E), rI Qz r N' ad' g' → zV p l e R s m args below meth c Q D A nL N' ad' g' k n pc lv (r.toList ++ rest) := by
  rintro r N' ad' g' ⟨z, rfl, hq⟩
  exact h z N' ad' g' hq
theorem kV {Qz : Nat → (Nat → Nat) → (Nat → va_E) → Prop} (h : ∀ (N' : Nat) (ad' : Nat → Nat) (g' : Nat → va_E), Qz N' ad' g' → zV p l e R s m args below meth c Q D A nL N' ad' g' k n pc lv (rest)) : ∀ (r : Option Value) (N' : Nat) (ad' : Nat → Nat) (g' : Nat → va_E), rV Qz r N' ad' g' → zV p l e R s m args below meth c Q D A nL N' ad' g' k n pc lv (r.toList ++ rest) := by
  rintro r N' ad' g' ⟨rfl, hq⟩
  exact h N' ad' g' hq
theorem kR {Qz : Nat → Nat → (Nat → Nat) → (Nat → va_E) → Prop} (h : ∀ (a : Nat) (N' : Nat) (ad' : Nat → Nat) (g' : Nat → va_E), Qz a N' ad' g' → zV p l e R s m args below meth c Q D A nL N' ad' g' k n pc lv (.ref a :: rest)) : ∀ (r : Option Value) (N' : Nat) (ad' : Nat → Nat) (g' : Nat → va_E), rR Qz r N' ad' g' → zV p l e R s m args below meth c Q D A nL N' ad' g' k n pc lv (r.toList ++ rest) := by
  rintro r N' ad' g' ⟨a, rfl, hq⟩
  exact h a N' ad' g' hq
theorem kI0 {Qz : Int → (Nat → va_E) → Prop} (h : ∀ (z : Int) (g' : Nat → va_E), Qz z g' → zV p l e R s m args below meth c Q D A nL N ad g' k n pc lv (.int (zI z) :: rest)) : ∀ (r : Option Value) (N' : Nat) (ad' : Nat → Nat) (g' : Nat → va_E), rI0 N ad Qz r N' ad' g' → zV p l e R s m args below meth c Q D A nL N' ad' g' k n pc lv (r.toList ++ rest) := by
  rintro r N' ad' g' ⟨z, rfl, rfl, rfl, hq⟩
  exact h z g' hq
theorem kV0 {Qz : (Nat → va_E) → Prop} (h : ∀ (g' : Nat → va_E), Qz g' → zV p l e R s m args below meth c Q D A nL N ad g' k n pc lv (rest)) : ∀ (r : Option Value) (N' : Nat) (ad' : Nat → Nat) (g' : Nat → va_E), rV0 N ad Qz r N' ad' g' → zV p l e R s m args below meth c Q D A nL N' ad' g' k n pc lv (r.toList ++ rest) := by
  rintro r N' ad' g' ⟨rfl, rfl, rfl, hq⟩
  exact h g' hq
theorem kR0 {Qz : Nat → (Nat → va_E) → Prop} (h : ∀ (a : Nat) (g' : Nat → va_E), Qz a g' → zV p l e R s m args below meth c Q D A nL N ad g' k n pc lv (.ref a :: rest)) : ∀ (r : Option Value) (N' : Nat) (ad' : Nat → Nat) (g' : Nat → va_E), rR0 N ad Qz r N' ad' g' → zV p l e R s m args below meth c Q D A nL N' ad' g' k n pc lv (r.toList ++ rest) := by
  rintro r N' ad' g' ⟨a, rfl, rfl, rfl, hq⟩
  exact h a g' hq
end ZM
end
section
-- 05.alloc.lean.txt
theorem zRA_fc {U : State} {cA : ClassId} {ty : FieldType} (h : va_RA U cA ty) : U.vm.findClass ("[" ++ ty.toString) = some cA := by
  cases ty with
  | object Cn => obtain ⟨_, _, _, _, _, h4⟩ := h; exact h4
  | _ => exact h
theorem zK_cls {D : va_G} {cs : Nat → ClassId} {s : State} {cA cB : ClassId} {ty : FieldType} (t : Nat) (ht : (tyL cs)[t]? = some (cB, ty)) (hK : va_K D vwCl (tyL cs ++ [(cA, ty)]) s) : cA = cB := by
  have h1 := zRA_fc (hK.2 (tyL cs).length _ (by rw [List.getElem?_append_right (Nat.le_refl _), Nat.sub_self]; rfl)).2
  have hlt : t < (tyL cs).length := (List.getElem?_eq_some_iff.mp ht).1
  have h2 := zRA_fc (hK.2 t _ (by rw [List.getElem?_append_left hlt]; exact ht)).2
  exact Option.some.inj (h1.symm.trans h2)
section ZA
variable {p : Program} {l : Launch} {e : Env} {R : Room} {s : State} {m : MethodId} {args : Array Value} {below : List Frame} {meth : Method} {c : Code} {Q : State → Prop} {D : va_G} {A : Nat → Prop} {cs : Nat → ClassId} {tt : Nat} {cc : ByteArray} {nL : Nat} {own : String} {N : Nat} {ad : Nat → Nat} {g : Nat → va_E} {k n pc : Nat} {lv lv' : List (Nat × Value)} {rest st : List Value}
theorem z_newI (C : zC p s m args c cc nL own D A cs tt) {z : Int} (M : Nat) (hz : z = (M : Int)) (hw : Cond.arrayClass .int ∈ AW) (hM : M * componentBytes .int ≤ 536870912 ∧ M ≤ 2147483647) (hcells : k + 1 ≤ R.cells) (hslots : n + M ≤ R.slots) (hdg : decode cc pc = .ok (.newarray .int, 2)) (kk : ∀ (q : Nat) (ad' : Nat → Nat) (g' : Nat → va_E), ad' = va_up ad N q → g' = va_up g N (iA cs M (fun _ => 0)) → zV p l e R s m args below meth c Q D A nL (N + 1) ad' g' (k + 1) (n + M) (pc + 2) (lv) (.ref q :: rest)) : zV p l e R s m args below meth c Q D A nL N ad g k n (pc) (lv) (.int (zI z) :: rest) := by
  subst hz
  exact fun H locs ls hP hD hS hl => va_newa (atype := .int) (ty := .int) (a0 := (M, .inl (fun _ => zI 0))) (N' := M) C.1 C.2.1 (C.2.2.2.2.1 _ hw) rfl C.2.2.2.2.2.1 hP hD hS C.2.2.2.2.2.2.2.1 (fun cA => rfl) (by rw [← zI_0, zI_lt (by omega) (by omega)]; omega) (zI_clN hM.2) hM.1 hcells hslots hdg (fun q cA H1 hK1 hP1 hD1 hS1 => by
    obtain rfl := zK_cls 1 rfl hK1
    rw [wl_push] at hP1 hD1
    exact kk q _ _ rfl rfl H1 locs ls hP1 hD1 hS1 hl)
theorem z_newB (C : zC p s m args c cc nL own D A cs tt) {z : Int} (M : Nat) (hz : z = (M : Int)) (hw : Cond.arrayClass .byte ∈ AW) (hM : M * componentBytes .byte ≤ 536870912 ∧ M ≤ 2147483647) (hcells : k + 1 ≤ R.cells) (hslots : n + M ≤ R.slots) (hdg : decode cc pc = .ok (.newarray .byte, 2)) (kk : ∀ (q : Nat) (ad' : Nat → Nat) (g' : Nat → va_E), ad' = va_up ad N q → g' = va_up g N (bA cs M (fun _ => 0)) → zV p l e R s m args below meth c Q D A nL (N + 1) ad' g' (k + 1) (n + M) (pc + 2) (lv) (.ref q :: rest)) : zV p l e R s m args below meth c Q D A nL N ad g k n (pc) (lv) (.int (zI z) :: rest) := by
  subst hz
  exact fun H locs ls hP hD hS hl => va_newa (atype := .byte) (ty := .byte) (a0 := (M, .inl (fun _ => zI 0))) (N' := M) C.1 C.2.1 (C.2.2.2.2.1 _ hw) rfl C.2.2.2.2.2.1 hP hD hS C.2.2.2.2.2.2.2.1 (fun cA => rfl) (by rw [← zI_0, zI_lt (by omega) (by omega)]; omega) (zI_clN hM.2) hM.1 hcells hslots hdg (fun q cA H1 hK1 hP1 hD1 hS1 => by
    obtain rfl := zK_cls 0 rfl hK1
    rw [wl_push] at hP1 hD1
    exact kk q _ _ rfl rfl H1 locs ls hP1 hD1 hS1 hl)
theorem z_newJ (C : zC p s m args c cc nL own D A cs tt) {z : Int} (M : Nat) (hz : z = (M : Int)) (hw : Cond.arrayClass .long ∈ AW) (hM : M * componentBytes .long ≤ 536870912 ∧ M ≤ 2147483647) (hcells : k + 1 ≤ R.cells) (hslots : n + M ≤ R.slots) (hdg : decode cc pc = .ok (.newarray .long, 2)) (kk : ∀ (q : Nat) (ad' : Nat → Nat) (g' : Nat → va_E), ad' = va_up ad N q → g' = va_up g N (jA cs M (fun _ => 0)) → zV p l e R s m args below meth c Q D A nL (N + 1) ad' g' (k + 1) (n + M) (pc + 2) (lv) (.ref q :: rest)) : zV p l e R s m args below meth c Q D A nL N ad g k n (pc) (lv) (.int (zI z) :: rest) := by
  subst hz
  exact fun H locs ls hP hD hS hl => va_newa (atype := .long) (ty := .long) (a0 := (M, .inr (.inl (fun _ => zJ 0)))) (N' := M) C.1 C.2.1 (C.2.2.2.2.1 _ hw) rfl C.2.2.2.2.2.1 hP hD hS C.2.2.2.2.2.2.2.1 (fun cA => rfl) (by rw [← zI_0, zI_lt (by omega) (by omega)]; omega) (zI_clN hM.2) hM.1 hcells hslots hdg (fun q cA H1 hK1 hP1 hD1 hS1 => by
    obtain rfl := zK_cls 2 rfl hK1
    rw [wl_push] at hP1 hD1
    exact kk q _ _ rfl rfl H1 locs ls hP1 hD1 hS1 hl)
theorem z_newR (C : zC p s m args c cc nL own D A cs tt) {Cn : String} {cA0 : ClassId} {index : Nat} {z : Int} (t M : Nat) (hz : z = (M : Int)) (ht : (tyL cs)[t]? = some (cA0, .object Cn)) (hw : Cond.classLink own index Cn ∈ AW) (ho : va_AO Cn s) (hM : M * 4 ≤ 536870912 ∧ M ≤ 2147483647) (hcells : k + 1 ≤ R.cells) (hslots : n + M ≤ R.slots) (hdg : decode cc pc = .ok (.anewarray index, 3)) (kk : ∀ (q : Nat) (ad' : Nat → Nat) (g' : Nat → va_E), ad' = va_up ad N q → g' = va_up g N (rA cA0 M (fun _ => none)) → zV p l e R s m args below meth c Q D A nL (N + 1) ad' g' (k + 1) (n + M) (pc + 3) (lv) (.ref q :: rest)) : zV p l e R s m args below meth c Q D A nL N ad g k n (pc) (lv) (.int (zI z) :: rest) := by
  subst hz
  exact fun H locs ls hP hD hS hl => va_newq (N' := M) C.1 C.2.1 C.2.2.2.1 (C.2.2.2.2.1 _ hw) ho C.2.2.2.2.2.1 hP hD hS C.2.2.2.2.2.2.2.1 (by rw [← zI_0, zI_lt (by omega) (by omega)]; omega) (zI_clN hM.2) hM.1 hcells hslots hdg (fun q cA H1 hK1 hP1 hD1 hS1 => by
    obtain rfl := zK_cls t ht hK1
    rw [wl_push] at hP1 hD1
    exact kk q _ _ rfl rfl H1 locs ls hP1 hD1 hS1 hl)
theorem z_getT (C : zC p s m args c cc nL own D A cs tt) {index : Nat} {host : String} (hw : Cond.fieldLinkNest own index RX9 "TABLE" "[I" host ∈ NW) (hdg : decode cc pc = .ok (.getstatic index, 3)) (kk : zV p l e R s m args below meth c Q D A nL N ad g k n (pc + 3) (lv) (.ref tt :: rest)) : zV p l e R s m args below meth c Q D A nL N ad g k n (pc) (lv) (rest) := fun H locs ls hP hD hS hl => va_getsN C.1 C.2.1 C.2.2.2.2.2.2.2.2.2.1.1 hS C.2.2.2.1 (NW_use hw (C.2.2.2.2.2.2.1 _ hw)) (fun _ h => h) hdg (kk H locs ls hP hD hS hl)
theorem zTB_cell {H : Heap} {locs : List Loc} (hE : zE D A cs tt s) (hS : va_S A s.heap H locs) : ∃ cell : Cell, H[tt]? = some cell ∧ s.isArrayOf cell .int ∧ cell.vm ≠ .unknown ∧ cell.cls = cs 1 ∧ cell.slots = (arrV (cs 1) 15 (fun j => .int (zI (tabZ j)))).slots ∧ s.vm.findClass "[I" = some cell.cls ∧ ¬ A tt := by
  obtain ⟨cell, h1, h2, h3, h4, h5, h6, h7⟩ := hE.2.2.2.2.1.2.1
  have hc : s.vm.findClass "[I" = some (cs 1) := zRA_fc (hE.1.2 1 _ rfl).2
  refine ⟨cell, by rw [hS.2.1 tt (Array.getElem?_eq_some_iff.mp h1).1 h7]; exact h1, h2, h3, Option.some.inj (h6.symm.trans hc), ?_, h6, h7⟩
  apply Array.ext_getElem?
  intro j
  by_cases hj : j < 15
  · rw [h5 j hj, arrV_read _ _ hj]
  · rw [Array.getElem?_eq_none (by omega), Array.getElem?_eq_none (by rw [arrV_size]; omega)]
theorem z_cloneT (C : zC p s m args c cc nL own D A cs tt) {index : Nat} (hlk : Cond.methodLink own index ⟨"[I", "clone", "()Ljava/lang/Object;"⟩ ∈ AW) (hsm : Cond.sameMethod "[I" "java/lang/Object" "clone" "()Ljava/lang/Object;" ∈ AW) (hnat : Cond.native ⟨"java/lang/Object", "clone", "()Ljava/lang/Object;"⟩ ∈ AW) (hinst : Cond.instanceMethod ⟨"java/lang/Object", "clone", "()Ljava/lang/Object;"⟩ ∈ AW)
    (hsel : Cond.selects "[I" ⟨"[I", "clone", "()Ljava/lang/Object;"⟩ ⟨"java/lang/Object", "clone", "()Ljava/lang/Object;"⟩ ∈ AW) (hcl : Cond.castable "[I" "java/lang/Cloneable" ∈ NW) (hframes : 1 ≤ R.frames) (hlocals : (rest.map fun v => v.category).sum + 14 ≤ R.locals) (hcells : k + 1 ≤ R.cells) (hslots : n + 15 ≤ R.slots) (hdg : decode cc pc = .ok (.invokevirtual index, 3))
    (kk : ∀ (q : Nat) (ad' : Nat → Nat) (g' : Nat → va_E), ad' = va_up ad N q → g' = va_up g N (iA cs 15 tabZ) → zV p l e R s m args below meth c Q D A nL (N + 1) ad' g' (k + 1) (n + 15) (pc + 3) (lv) (.ref q :: rest)) : zV p l e R s m args below meth c Q D A nL N ad g k n (pc) (lv) (.ref tt :: rest) := by
  intro H locs ls hP hD hS hl T hT X
  obtain ⟨cell, hc1, hof, hkn, hcls, hsl, hfc, hnA⟩ := zTB_cell C.2.2.2.2.2 hS
  obtain ⟨c0, t0', f1, f2, f3⟩ := Cond.castable_spec (NW_use (a := args) hcl (C.2.2.2.2.2.2.1 _ hcl))
  cases hfc.symm.trans f1
  obtain ⟨ho1, kS, hkS, compS, hkindS⟩ := hof
  obtain ⟨-, kA, hkA, comp, hkind⟩ := State.isArrayOf_alike X.warmed.alike (⟨ho1, kS, hkS, compS, hkindS⟩ : s.isArrayOf cell .int)
  have hsz : cell.slots.size = 15 := by rw [hsl, arrV_size]
  obtain ⟨vm', X', st9⟩ := X.cloneArray C.1 C.2.2.2.1 (C.2.2.2.2.1 _ hlk) (C.2.2.2.2.1 _ hsm) (C.2.2.2.2.1 _ hnat) (C.2.2.2.2.1 _ hinst) (C.2.2.2.2.1 _ hsel) (a := tt) (cell := cell) (by rw [hT]; exact hc1) ho1 hkn hfc f2 f3
    (fun i v hv => by
      have hk' : T.vm.classes[cell.cls]? = some kA := hkA
      have hv2 : fits .int v = true := by
        by_cases hi : i < 15
        · rw [hsl, arrV_read _ _ hi] at hv
          cases hv
          rfl
        · rw [Array.getElem?_eq_none (by omega)] at hv
          cases hv
      simpa [State.fitsSlot, State.slotType?, hk', hkind] using hv2)
    (g := F0 m pc ls (.ref tt :: rest)) rfl (by rw [C.2.2.1]; exact hl.1) rfl (by rw [C.2.1]; exact hdg) hframes (by show 2 * 0 + _ + 14 ≤ _; omega) hcells (by rw [hsz]; exact hslots) (hloader := Vm.clonesLoader_of_array hkS hkindS)
  have hcE : ({ cls := cell.cls, slots := cell.slots } : Cell) = vp_cell (cs 1) (15, .inl (fun j => zI (tabZ j))) := by rw [hcls, hsl]; rfl
  rw [hcE, hsz] at X'
  generalize hH1 : H.push (vp_cell (cs 1) (15, .inl (fun j => zI (tabZ j)))) = H1
  have e1 : H1[H.size]? = some (vp_cell (cs 1) (15, .inl (fun j => zI (tabZ j)))) := by rw [← hH1, Array.getElem?_push_size]
  have o1 : ∀ q : Nat, q < H.size → H1[q]? = H[q]? := fun q hq => by rw [← hH1, Array.getElem?_push, if_neg (Nat.ne_of_lt hq)]
  have z1 : H1.size = H.size + 1 := by rw [← hH1, Array.size_push]
  have hP1 : va_P D vwCl (wl N ad g ++ [(H.size, iA cs 15 tabZ)]) H1 := (hP.kept (fun k y hy => o1 y.1 ((hP k y hy).lt))).app (fun k y hy => by
      have hz : k < 1 := (List.getElem?_eq_some_iff.mp hy).1
      rw [show k = 0 by omega] at hy
      cases hy
      exact e1)
  have hD1 : va_D A (wl N ad g ++ [(H.size, iA cs 15 tabZ)]) := hD.push hP rfl (C.2.2.2.2.2.2.2.1 _ hS.1)
  rw [wl_push] at hP1 hD1
  obtain ⟨t, b1, b2⟩ := kk H.size _ _ rfl rfl H1 locs ls hP1 hD1 ⟨Nat.le_trans hS.1 (by omega), fun y h1 h2 => (o1 y (Nat.lt_of_lt_of_le h1 hS.1)).trans (hS.2.1 y h1 h2), hS.2.2⟩ hl ((T.setVm vm').pushCell (vp_cell (cs 1) (15, .inl (fun j => zI (tabZ j))))) (by rw [← hH1, ← hT]; rfl) X'
  refine ⟨t, st9 t ?_, b2⟩
  rw [hcE, hT]
  exact b1
theorem z_castI (C : zC p s m args c cc nL own D A cs tt) {i a index M : Nat} {r : Nat → Int} (hi : i < N) (ha : ad i = a) (hg : g i = iA cs M r) (hw : Cond.classLink own index "[I" ∈ AW) (hdg : decode cc pc = .ok (.checkcast index, 3)) (kk : zV p l e R s m args below meth c Q D A nL N ad g k n (pc + 3) (lv) (.ref a :: rest)) : zV p l e R s m args below meth c Q D A nL N ad g k n (pc) (lv) (.ref a :: rest) := fun H locs ls hP hD hS hl => va_castA C.1 C.2.1 C.2.2.2.1 (C.2.2.2.2.1 _ hw) hP i ((wl_at hi).trans (by rw [hg, ha])) (zRA_fc (C.2.2.2.2.2.1.2 1 _ rfl).2) hdg (kk H locs ls hP hD hS hl)
def cZ (f h : Nat → Int) (sp dp n : Nat) : Nat → Int := fun j => if dp ≤ j ∧ j < dp + n then f (sp + (j - dp)) else h j
theorem cZ_cpy (f h : Nat → Int) (sp dp n : Nat) : va_cpy (fun j => zI (f j)) (fun j => zI (h j)) sp dp n = fun j => zI (cZ f h sp dp n j) := by
  funext j
  by_cases hj : dp ≤ j ∧ j < dp + n
  · rw [pk_cpy_in hj.1 hj.2]; simp only [cZ, if_pos hj]
  · rw [pk_cpy_out (by omega)]; simp only [cZ, if_neg hj]
theorem cZ_all {f h : Nat → Int} {n j : Nat} (hj : j < n) : cZ f h 0 0 n j = f j := by
  show (if 0 ≤ j ∧ j < 0 + n then f (0 + (j - 0)) else h j) = f j
  rw [if_pos (by omega)]; congr 1; omega
theorem z_copyI (C : zC p s m args c cc nL own D A cs tt) {index i j a b : Nat} (hlk : Cond.methodLink own index arraycopyName ∈ AW) (hnat : Cond.native arraycopyName ∈ AW) (hstat : Cond.static arraycopyName ∈ AW) (hini : Cond.initialized "java/lang/System" ∈ AW) (hi : i < N) (hj : j < N) (ha : ad i = a) (hb : ad j = b) {M1 M2 : Nat} {f h : Nat → Int} (hg1 : g i = iA cs M1 f) (hg2 : g j = iA cs M2 h) (sp dp L : Nat) {zs zd zn : Int} (h1 : zs = (sp : Int)) (h2 : zd = (dp : Int)) (h3 : zn = (L : Int)) (h4 : sp + L ≤ M1) (h5 : dp + L ≤ M2) (h6 : M1 ≤ 2147483647 ∧ M2 ≤ 2147483647) (hframes : 1 ≤ R.frames) (hlocals : (rest.map fun v => v.category).sum + (nativeFrameWords "java/lang/System" "arraycopy" 5 + 11) ≤ R.locals) (hdg : decode cc pc = .ok (.invokestatic index, 3)) (kk : ∀ g' : Nat → va_E, g' = va_up g j (iA cs M2 (cZ f h sp dp L)) → zV p l e R s m args below meth c Q D A nL N ad g' k n (pc + 3) (lv) (rest)) : zV p l e R s m args below meth c Q D A nL N ad g k n (pc) (lv) (.int (zI zn) :: .int (zI zd) :: .ref b :: .int (zI zs) :: .ref a :: rest) := by
  subst h1; subst h2; subst h3; subst ha; subst hb
  have nn : ∀ x : Nat, x ≤ 2147483647 → ¬ zI (x : Int) < 0 := fun x hx => by rw [← zI_0, zI_lt (by omega) (by omega)]; omega
  exact fun H locs ls hP hD hS hl => va_copyi C.1 C.2.1 (by rw [C.2.2.1]; exact hl.1.symm) C.2.2.2.1 (C.2.2.2.2.1 _ hlk) (C.2.2.2.2.1 _ hnat) (C.2.2.2.2.1 _ hstat) (C.2.2.2.2.1 _ hini) C.2.2.2.2.2.1 hP hD hS i j 1 1 ((wl_at hi).trans (by rw [hg1])) ((wl_at hj).trans (by rw [hg2])) rfl rfl rfl (nn _ (by omega)) (nn _ (by omega)) (nn _ (by omega)) (by rw [zI_clN (by omega), zI_clN (by omega)]; exact h4) (by rw [zI_clN (by omega), zI_clN (by omega)]; exact h5) (fun _ _ => rfl) hframes hlocals hdg (fun H1 locs1 hP1 hD1 hS1 => by
    rw [zI_clN (by omega), zI_clN (by omega), zI_clN (by omega), cZ_cpy, wl_set] at hP1 hD1
    exact kk _ rfl H1 locs1 ls hP1 hD1 hS1 hl)
theorem z_copyT (C : zC p s m args c cc nL own D A cs tt) {index j b : Nat} (hlk : Cond.methodLink own index arraycopyName ∈ AW) (hnat : Cond.native arraycopyName ∈ AW) (hstat : Cond.static arraycopyName ∈ AW) (hini : Cond.initialized "java/lang/System" ∈ AW) (hj : j < N) (hb : ad j = b) {h : Nat → Int} (hg2 : g j = iA cs 15 h) (hframes : 1 ≤ R.frames) (hlocals : (rest.map fun v => v.category).sum + (nativeFrameWords "java/lang/System" "arraycopy" 5 + 11) ≤ R.locals) (hdg : decode cc pc = .ok (.invokestatic index, 3)) (kk : ∀ g' : Nat → va_E, g' = va_up g j (iA cs 15 (cZ tabZ h 0 0 15)) → zV p l e R s m args below meth c Q D A nL N ad g' k n (pc + 3) (lv) (rest)) : zV p l e R s m args below meth c Q D A nL N ad g k n (pc) (lv) (.int (zI 15) :: .int (zI 0) :: .ref b :: .int (zI 0) :: .ref tt :: rest) := by
  subst hb
  intro H locs ls hP hD hS hl T hT X
  obtain ⟨cell, hc0, hof, hkn, hcls, hsl, hfc, hnA⟩ := zTB_cell C.2.2.2.2.2 hS
  have he := (wl_at (ad := ad) (g := g) hj).trans (by rw [hg2])
  have hc1 : H[ad j]? = some (vp_cell (cs 1) (15, .inl (fun k => zI (h k)))) := hP j _ he
  obtain ⟨ho1, k0, hk0, cm0, hkk0⟩ := hof
  obtain ⟨-, k1, hk1, cm1, hkk1⟩ := (C.2.2.2.2.2.1.2 1 _ rfl).1 15 (fun j => .int (zI (h j)))
  have hrd : ∀ j : Nat, j < 15 → cell.slots[j]? = some (.int (zI (tabZ j))) := fun j hj => by rw [hsl, arrV_read _ _ hj]
  have hsz : cell.slots.size = 15 := by rw [hsl, arrV_size]
  have c15 : (zI 15).toNatClampNeg = 15 := zI_clN (k := 15) (by omega)
  have c0 : (zI 0).toNatClampNeg = 0 := rfl
  obtain ⟨vm', X', step⟩ := X.arraycopy C.1 C.2.2.2.1 (C.2.2.2.2.1 _ hlk) (C.2.2.2.2.1 _ hnat) (C.2.2.2.2.1 _ hstat) (C.2.2.2.2.1 _ hini) (src := tt) (dst := ad j) (cs := cell) (cd := vp_cell (cs 1) (15, .inl (fun k => zI (h k)))) (srcPos := zI 0) (destPos := zI 0) (n := zI 15) (by rw [hT]; exact hc0) (by rw [hT]; exact hc1)
    ho1 (fun _ h => by cases h) hkn (fun h => by cases h) hk0 hk1 hkk0 hkk1 (by simp [refKind]) (by decide) (by decide) (by decide)
    (by show ¬ (0 : Int) + 15 > _; rw [hsz]; omega)
    (by show ¬ (0 : Int) + 15 > ((arrV (cs 1) 15 (fun j => .int (zI (h j)))).slots.size : Int); rw [arrV_size]; omega)
    (fun vm₁ _ i hi => by
      have e : cell.slots.getD ((zI 0).toNatClampNeg + i) .null = .int (zI (tabZ i)) := by
        rw [c15] at hi
        rw [c0, Nat.zero_add, Array.getD_eq_getD_getElem?, hrd i hi]
        rfl
      refine ⟨?_, ?_⟩
      · rw [e]; rfl
      · rw [e]; exact trivial)
    (g := F0 m pc ls (.int (zI 15) :: .int (zI 0) :: .ref (ad j) :: .int (zI 0) :: .ref tt :: rest)) rfl (by rw [C.2.2.1]; exact hl.1) (rest := rest) rfl (by rw [C.2.1]; exact hdg) hframes (by show 2 * 0 + _ + _ ≤ _; omega)
  have e1 : copied cell (vp_cell (cs 1) (15, .inl (fun k => zI (h k)))) (zI 0) (zI 0) (zI 15) = vp_cell (cs 1) (15, .inl (fun k => zI (cZ tabZ h 0 0 15 k))) := by
    have q9 : copied cell (vp_cell (cs 1) (15, .inl (fun k => zI (h k)))) (zI 0) (zI 0) (zI 15) = vp_cell (cs 1) (15, .inl (va_cpy (fun k => zI (tabZ k)) (fun k => zI (h k)) (zI 0).toNatClampNeg (zI 0).toNatClampNeg (zI 15).toNatClampNeg)) := va_copiedX (fun z => .int z) cell (cs 1) (fun k => zI (tabZ k)) (fun k => zI (h k)) hrd (by rw [c0, c15]; omega)
    rw [q9, c0, c15, cZ_cpy]
  rw [e1] at X' step
  have hlt : ad j < H.size := (Array.getElem?_eq_some_iff.mp hc1).1
  generalize hH1 : H.setIfInBounds (ad j) (vp_cell (cs 1) (15, .inl (fun k => zI (cZ tabZ h 0 0 15 k)))) = H1
  have oq : ∀ q : Nat, q ≠ ad j → H1[q]? = H[q]? := fun q hq => by rw [← hH1]; simp [Array.getElem?_setIfInBounds, Ne.symm hq]
  have ea : H1[ad j]? = some (vp_cell (cs 1) (15, .inl (fun k => zI (cZ tabZ h 0 0 15 k)))) := by rw [← hH1]; simp [Array.getElem?_setIfInBounds, hlt]
  have hz1 : H1.size = H.size := by rw [← hH1]; simp
  have hP1 := hP.set (e := iA cs 15 (cZ tabZ h 0 0 15)) hD he ea oq
  have hD1 := hD.set (e := iA cs 15 (cZ tabZ h 0 0 15)) he
  rw [wl_set] at hP1 hD1
  have hAj : A (ad j) := hD.2 j _ he
  obtain ⟨t, a1, b1⟩ := kk _ rfl H1 _ ls hP1 hD1 ⟨by rw [hz1]; exact hS.1, fun q g1 g2 => by
      rw [oq q (fun e => g2 (by rw [e]; exact hAj))]
      exact hS.2.1 q g1 g2, fun q hq => by
      rcases List.mem_append.mp hq with h | h
      · exact hS.2.2 q h
      · obtain ⟨z, -, hz⟩ := List.mem_map.mp h
        rw [← hz]
        exact hAj⟩ hl _ (by rw [← hH1, ← hT]; rfl) X'
  exact ⟨t, step t a1, b1⟩
theorem z_mmax (C : zC p s m args c cc nL own D A cs tt) {index : Nat} {a b : Int} (hlk : Cond.methodLink own index Lib.Math.max.name ∈ AW) (hstat : Cond.static Lib.Math.max.name ∈ AW) (hini : Cond.initialized "java/lang/Math" ∈ AW) (hcd : Cond.code Lib.Math.max.name Lib.Math.max.code 2 (some .int) ∈ AW) (ha : -2147483648 ≤ a ∧ a ≤ 2147483647) (hb : -2147483648 ≤ b ∧ b ≤ 2147483647) (hframes : 1 ≤ R.frames) (hlocals : (rest.map fun v => v.category).sum + 13 ≤ R.locals) (hc : k ≤ R.cells) (hs : n ≤ R.slots) (hdg : decode cc pc = .ok (.invokestatic index, 3)) (kk : zV p l e R s m args below meth c Q D A nL N ad g k n (pc + 3) (lv) (.int (zI (if a < b then b else a)) :: rest)) : zV p l e R s m args below meth c Q D A nL N ad g k n (pc) (lv) (.int (zI b) :: .int (zI a) :: rest) := fun H locs ls hP hD hS hl => va_mmax C.1 C.2.1 (by rw [C.2.2.1]; exact hl.1.symm) C.2.2.2.1 (C.2.2.2.2.1 _ hlk) (C.2.2.2.2.1 _ hstat) (C.2.2.2.2.1 _ hini) (C.2.2.2.2.1 _ hcd) hframes hlocals hc hs hdg (by
    have e9 : (if zI a < zI b then zI b else zI a) = zI (if a < b then b else a) := by
      by_cases h : a < b
      · rw [if_pos h, if_pos ((zI_lt ha hb).mpr h)]
      · rw [if_neg h, if_neg (fun q => h ((zI_lt ha hb).mp q))]
    rw [e9]; exact kk H locs ls hP hD hS hl)
theorem z_mmin (C : zC p s m args c cc nL own D A cs tt) {index : Nat} {a b : Int} (hlk : Cond.methodLink own index Lib.Math.min.name ∈ AW) (hstat : Cond.static Lib.Math.min.name ∈ AW) (hini : Cond.initialized "java/lang/Math" ∈ AW) (hcd : Cond.code Lib.Math.min.name Lib.Math.min.code 2 (some .int) ∈ AW) (ha : -2147483648 ≤ a ∧ a ≤ 2147483647) (hb : -2147483648 ≤ b ∧ b ≤ 2147483647) (hframes : 1 ≤ R.frames) (hlocals : (rest.map fun v => v.category).sum + 13 ≤ R.locals) (hc : k ≤ R.cells) (hs : n ≤ R.slots) (hdg : decode cc pc = .ok (.invokestatic index, 3)) (kk : zV p l e R s m args below meth c Q D A nL N ad g k n (pc + 3) (lv) (.int (zI (if b < a then b else a)) :: rest)) : zV p l e R s m args below meth c Q D A nL N ad g k n (pc) (lv) (.int (zI b) :: .int (zI a) :: rest) := fun H locs ls hP hD hS hl => va_mmin C.1 C.2.1 (by rw [C.2.2.1]; exact hl.1.symm) C.2.2.2.1 (C.2.2.2.2.1 _ hlk) (C.2.2.2.2.1 _ hstat) (C.2.2.2.2.1 _ hini) (C.2.2.2.2.1 _ hcd) hframes hlocals hc hs hdg (by
    have e9 : (if zI b < zI a then zI b else zI a) = zI (if b < a then b else a) := by
      by_cases h : b < a
      · rw [if_pos h, if_pos ((zI_lt hb ha).mpr h)]
      · rw [if_neg h, if_neg (fun q => h ((zI_lt hb ha).mp q))]
    rw [e9]; exact kk H locs ls hP hD hS hl)
theorem z_mna (C : zC p s m args c cc nL own D A cs tt) {index : Nat} (hw : Cond.classLink own index "[[I" ∈ AW) (hac : Cond.arrayClass .int ∈ AW) (hcells : k + 5 ≤ R.cells) (hslots : n + 4804 ≤ R.slots) (hdg : decode cc pc = .ok (.multianewarray index 2, 4))
    (kk : ∀ (q : Nat) (r : Nat → Nat) (ad' : Nat → Nat) (g' : Nat → va_E), ad' = va_up (va_up (va_up (va_up (va_up ad N q) (N + 1) (r 0)) (N + 1 + 1) (r 1)) (N + 1 + 1 + 1) (r 2)) (N + 1 + 1 + 1 + 1) (r 3) → g' = va_up (va_up (va_up (va_up (va_up g N (rA (cs 6) 4 (fun i => if i < 4 then some (r i) else none))) (N + 1) (iA cs 1200 (fun _ => 0))) (N + 1 + 1) (iA cs 1200 (fun _ => 0))) (N + 1 + 1 + 1) (iA cs 1200 (fun _ => 0))) (N + 1 + 1 + 1 + 1) (iA cs 1200 (fun _ => 0)) → zV p l e R s m args below meth c Q D A nL (N + 1 + 1 + 1 + 1 + 1) ad' g' (k + 1 + 4) (n + 4 + 4 * 1200) (pc + 4) (lv) (.ref q :: rest)) : zV p l e R s m args below meth c Q D A nL N ad g k n (pc) (lv) (.int (zI 1200) :: .int (zI 4) :: rest) := by
  intro H locs ls hP hD hS hl
  have hP0 : va_P D vwCl (wl N ad g ++ va_pl [] (fun _ => iA cs 0 (fun _ => 0))) H := by show va_P D vwCl (wl N ad g ++ []) H; rw [List.append_nil]; exact hP
  have hD0 : va_D A (wl N ad g ++ va_pl [] (fun _ => iA cs 0 (fun _ => 0))) := by show va_D A (wl N ad g ++ []); rw [List.append_nil]; exact hD
  refine va_mna (X := wl N ad g) (L := []) (f := fun _ => iA cs 0 (fun _ => 0)) (ty := .int) (cy := cs 1) (N' := 4) (K' := 1200) (z := (1200, .inl (fun _ => zI 0))) C.1 C.2.1 C.2.2.2.1 (C.2.2.2.2.1 _ hw) C.2.2.2.2.2.2.2.2.1.2.2.2 (C.2.2.2.2.1 _ hac) (zRA_fc (C.2.2.2.2.2.1.2 1 _ rfl).2) C.2.2.2.2.2.1 hP0 hD0 hS C.2.2.2.2.2.2.2.1 (by decide) (by decide) (by decide) (by decide) (by decide) (by decide) (by decide) rfl rfl (by omega) (by omega) (fun c9 => arrV_new c9 1200 (.int 0)) hdg (fun q r cA H1 hinj hnin hK1 hP1 hD1 hS1 => ?_)
  obtain rfl := zK_cls 6 rfl hK1
  have e9 : va_pl ([] ++ (List.range 4).map r) (vr_up (fun _ => iA cs 0 (fun _ => 0)) ((List.range 4).map r) (iA cs 1200 (fun _ => 0))) = [(r 0, iA cs 1200 (fun _ => 0))] ++ ([(r 1, iA cs 1200 (fun _ => 0))] ++ ([(r 2, iA cs 1200 (fun _ => 0))] ++ [(r 3, iA cs 1200 (fun _ => 0))])) := by
    show ([r 0, r 1, r 2, r 3].map fun a => (a, vr_up (fun _ => iA cs 0 (fun _ => 0)) [r 0, r 1, r 2, r 3] (iA cs 1200 (fun _ => 0)) a)) = _
    simp [vr_up]
  rw [e9, wl_push, ← List.append_assoc, wl_push, ← List.append_assoc, wl_push, ← List.append_assoc, wl_push, wl_push] at hP1 hD1
  exact kk q r _ _ rfl rfl H1 locs ls hP1 hD1 hS1 hl
theorem z_getZ (C : zC p s m args c cc nL own D A cs tt) {index : Nat} (hw : Cond.fieldLink own index RJ0 "COMPACT_STRINGS" "Z" ∈ AW) (hdg : decode cc pc = .ok (.getstatic index, 3)) (kk : zV p l e R s m args below meth c Q D A nL N ad g k n (pc + 3) (lv) (.int (zI 1) :: rest)) : zV p l e R s m args below meth c Q D A nL N ad g k n (pc) (lv) (rest) := fun H locs ls hP hD hS hl => va_gets C.1 C.2.1 C.2.2.2.2.2.2.2.2.2.1.2.2 hS C.2.2.2.1 (C.2.2.2.2.1 _ hw) (fun _ h => h) hdg (kk H locs ls hP hD hS hl)
end ZA
end
section
-- 06.words.lean.txt
-- words of ctor
theorem n_150 : (Jvm.Cond.methodLinkNest "SnowRecorder$World" (36 : Nat) ({ cls := "SnowRecorder$Pack", name := "<init>", desc := "()V" } : Jvm.MethodName) "SnowRecorder") ∈ NW := NW_m1 150 (by decide +kernel) (by decide +kernel)
theorem n_212 : (Jvm.Cond.methodLinkNest "SnowRecorder$State" (34 : Nat) ({ cls := "SnowRecorder$Notes", name := "<init>", desc := "()V" } : Jvm.MethodName) "SnowRecorder") ∈ NW := NW_m1 212 (by decide +kernel) (by decide +kernel)
theorem n_235 : (Jvm.Cond.methodLinkNest "SnowRecorder$State" (43 : Nat) ({ cls := "SnowRecorder$Pit", name := "<init>", desc := "()V" } : Jvm.MethodName) "SnowRecorder") ∈ NW := NW_m1 235 (by decide +kernel) (by decide +kernel)
theorem n_240 : (Jvm.Cond.methodLinkNest "SnowRecorder$Pit" (18 : Nat) ({ cls := "SnowRecorder$Pack", name := "<init>", desc := "()V" } : Jvm.MethodName) "SnowRecorder") ∈ NW := NW_m2 0 (by decide +kernel) (by decide +kernel)
theorem n_79 : (Jvm.Cond.fieldLinkNest "SnowRecorder$Plan" (37 : Nat) "SnowRecorder" "TABLE" "[I" "SnowRecorder") ∈ NW := NW_m1 79 (by decide +kernel) (by decide +kernel)
theorem n_86 : (Jvm.Cond.castable "[I" "java/lang/Cloneable") ∈ NW := NW_m1 86 (by decide +kernel) (by decide +kernel)
theorem q_100 : (Jvm.Cond.fieldLink "SnowRecorder$Plan" (25 : Nat) "SnowRecorder$Plan" "open" "[I") ∈ AW := AW_m1 100 (by decide +kernel) (by decide +kernel)
theorem q_104 : (Jvm.Cond.fieldLink "SnowRecorder$Plan" (28 : Nat) "SnowRecorder$Plan" "air" "[I") ∈ AW := AW_m1 104 (by decide +kernel) (by decide +kernel)
theorem q_107 : (Jvm.Cond.fieldLink "SnowRecorder$Plan" (31 : Nat) "SnowRecorder$Plan" "fall" "[I") ∈ AW := AW_m1 107 (by decide +kernel) (by decide +kernel)
theorem q_11 : (Jvm.Cond.initialized "java/lang/AbstractStringBuilder") ∈ AW := AW_m1 11 (by decide +kernel) (by decide +kernel)
theorem q_110 : (Jvm.Cond.fieldLink "SnowRecorder$Plan" (34 : Nat) "SnowRecorder$Plan" "much" "[I") ∈ AW := AW_m1 110 (by decide +kernel) (by decide +kernel)
theorem q_113 : (Jvm.Cond.fieldLink "SnowRecorder$Plan" (45 : Nat) "SnowRecorder$Plan" "table" "[I") ∈ AW := AW_m1 113 (by decide +kernel) (by decide +kernel)
theorem q_115 : (Jvm.Cond.lays "SnowRecorder$Plan" "SnowRecorder$Plan" "slopes" "I") ∈ AW := AW_m1 115 (by decide +kernel) (by decide +kernel)
theorem q_117 : (Jvm.Cond.lays "SnowRecorder$Plan" "SnowRecorder$Plan" "hours" "I") ∈ AW := AW_m1 117 (by decide +kernel) (by decide +kernel)
theorem q_119 : (Jvm.Cond.lays "SnowRecorder$Plan" "SnowRecorder$Plan" "untoldAir" "I") ∈ AW := AW_m1 119 (by decide +kernel) (by decide +kernel)
theorem q_121 : (Jvm.Cond.laysFinal "SnowRecorder$Plan" "SnowRecorder$Plan" "steep" "[I") ∈ AW := AW_m1 121 (by decide +kernel) (by decide +kernel)
theorem q_123 : (Jvm.Cond.laysFinal "SnowRecorder$Plan" "SnowRecorder$Plan" "open" "[I") ∈ AW := AW_m1 123 (by decide +kernel) (by decide +kernel)
theorem q_125 : (Jvm.Cond.laysFinal "SnowRecorder$Plan" "SnowRecorder$Plan" "air" "[I") ∈ AW := AW_m1 125 (by decide +kernel) (by decide +kernel)
theorem q_127 : (Jvm.Cond.laysFinal "SnowRecorder$Plan" "SnowRecorder$Plan" "fall" "[I") ∈ AW := AW_m1 127 (by decide +kernel) (by decide +kernel)
theorem q_129 : (Jvm.Cond.laysFinal "SnowRecorder$Plan" "SnowRecorder$Plan" "much" "[I") ∈ AW := AW_m1 129 (by decide +kernel) (by decide +kernel)
theorem q_131 : (Jvm.Cond.laysFinal "SnowRecorder$Plan" "SnowRecorder$Plan" "table" "[I") ∈ AW := AW_m1 131 (by decide +kernel) (by decide +kernel)
theorem q_134 : (Jvm.Cond.arrayClass Jvm.ClassFile.FieldType.int) ∈ AW := AW_m1 134 (by decide +kernel) (by decide +kernel)
theorem q_140 : (Jvm.Cond.methodLink "SnowRecorder$State" (3 : Nat) ({ cls := "java/lang/Object", name := "<init>", desc := "()V" } : Jvm.MethodName)) ∈ AW := AW_m1 140 (by decide +kernel) (by decide +kernel)
theorem q_141 : (Jvm.Cond.classLink "SnowRecorder$State" (9 : Nat) "SnowRecorder$World") ∈ AW := AW_m1 141 (by decide +kernel) (by decide +kernel)
theorem q_142 : (Jvm.Cond.instantiable "SnowRecorder$World" (7 : Nat)) ∈ AW := AW_m1 142 (by decide +kernel) (by decide +kernel)
theorem q_143 : (Jvm.Cond.methodLink "SnowRecorder$State" (11 : Nat) ({ cls := "SnowRecorder$World", name := "<init>", desc := "()V" } : Jvm.MethodName)) ∈ AW := AW_m1 143 (by decide +kernel) (by decide +kernel)
theorem q_144 : (Jvm.Cond.instanceMethod ({ cls := "SnowRecorder$World", name := "<init>", desc := "()V" } : Jvm.MethodName)) ∈ AW := AW_m1 144 (by decide +kernel) (by decide +kernel)
theorem q_145 : (Jvm.Cond.code ({ cls := "SnowRecorder$World", name := "<init>", desc := "()V" } : Jvm.MethodName) prog_10_method_1_code (2 : Nat) (Option.none : Option Jvm.ClassFile.FieldType)) ∈ AW := AW_m1 145 (by decide +kernel) (by decide +kernel)
theorem q_146 : (Jvm.Cond.methodLink "SnowRecorder$World" (3 : Nat) ({ cls := "java/lang/Object", name := "<init>", desc := "()V" } : Jvm.MethodName)) ∈ AW := AW_m1 146 (by decide +kernel) (by decide +kernel)
theorem q_147 : (Jvm.Cond.classLink "SnowRecorder$World" (30 : Nat) "SnowRecorder$Pack") ∈ AW := AW_m1 147 (by decide +kernel) (by decide +kernel)
theorem q_149 : (Jvm.Cond.instantiable "SnowRecorder$Pack" (3 : Nat)) ∈ AW := AW_m1 149 (by decide +kernel) (by decide +kernel)
theorem q_151 : (Jvm.Cond.instanceMethod ({ cls := "SnowRecorder$Pack", name := "<init>", desc := "()V" } : Jvm.MethodName)) ∈ AW := AW_m1 151 (by decide +kernel) (by decide +kernel)
theorem q_152 : (Jvm.Cond.code ({ cls := "SnowRecorder$Pack", name := "<init>", desc := "()V" } : Jvm.MethodName) prog_5_method_1_code (1 : Nat) (Option.none : Option Jvm.ClassFile.FieldType)) ∈ AW := AW_m1 152 (by decide +kernel) (by decide +kernel)
theorem q_153 : (Jvm.Cond.methodLink "SnowRecorder$Pack" (3 : Nat) ({ cls := "java/lang/Object", name := "<init>", desc := "()V" } : Jvm.MethodName)) ∈ AW := AW_m1 153 (by decide +kernel) (by decide +kernel)
theorem q_154 : (Jvm.Cond.fieldLink "SnowRecorder$Pack" (9 : Nat) "SnowRecorder$Pack" "size" "I") ∈ AW := AW_m1 154 (by decide +kernel) (by decide +kernel)
theorem q_159 : (Jvm.Cond.fieldLink "SnowRecorder$Pack" (15 : Nat) "SnowRecorder$Pack" "runoff" "I") ∈ AW := AW_m1 159 (by decide +kernel) (by decide +kernel)
theorem q_162 : (Jvm.Cond.fieldLink "SnowRecorder$Pack" (18 : Nat) "SnowRecorder$Pack" "cells" "[I") ∈ AW := AW_m1 162 (by decide +kernel) (by decide +kernel)
theorem q_166 : (Jvm.Cond.lays "SnowRecorder$Pack" "SnowRecorder$Pack" "size" "I") ∈ AW := AW_m1 166 (by decide +kernel) (by decide +kernel)
theorem q_168 : (Jvm.Cond.lays "SnowRecorder$Pack" "SnowRecorder$Pack" "runoff" "I") ∈ AW := AW_m1 168 (by decide +kernel) (by decide +kernel)
theorem q_170 : (Jvm.Cond.laysFinal "SnowRecorder$Pack" "SnowRecorder$Pack" "cells" "[I") ∈ AW := AW_m1 170 (by decide +kernel) (by decide +kernel)
theorem q_173 : (Jvm.Cond.fieldLink "SnowRecorder$World" (9 : Nat) "SnowRecorder$World" "time" "I") ∈ AW := AW_m1 173 (by decide +kernel) (by decide +kernel)
theorem q_176 : (Jvm.Cond.fieldLink "SnowRecorder$World" (15 : Nat) "SnowRecorder$World" "names" "I") ∈ AW := AW_m1 176 (by decide +kernel) (by decide +kernel)
theorem q_179 : (Jvm.Cond.fieldLink "SnowRecorder$World" (18 : Nat) "SnowRecorder$World" "taken" "I") ∈ AW := AW_m1 179 (by decide +kernel) (by decide +kernel)
theorem q_181 : (Jvm.Cond.fieldLink "SnowRecorder$World" (21 : Nat) "SnowRecorder$World" "slid" "I") ∈ AW := AW_m1 181 (by decide +kernel) (by decide +kernel)
theorem q_183 : (Jvm.Cond.fieldLink "SnowRecorder$World" (24 : Nat) "SnowRecorder$World" "slides" "I") ∈ AW := AW_m1 183 (by decide +kernel) (by decide +kernel)
theorem q_185 : (Jvm.Cond.fieldLink "SnowRecorder$World" (27 : Nat) "SnowRecorder$World" "pits" "I") ∈ AW := AW_m1 185 (by decide +kernel) (by decide +kernel)
theorem q_188 : (Jvm.Cond.fieldLink "SnowRecorder$World" (32 : Nat) "SnowRecorder$World" "packs" "[LSnowRecorder$Pack;") ∈ AW := AW_m1 188 (by decide +kernel) (by decide +kernel)
theorem q_192 : (Jvm.Cond.lays "SnowRecorder$World" "SnowRecorder$World" "time" "I") ∈ AW := AW_m1 192 (by decide +kernel) (by decide +kernel)
theorem q_194 : (Jvm.Cond.lays "SnowRecorder$World" "SnowRecorder$World" "names" "I") ∈ AW := AW_m1 194 (by decide +kernel) (by decide +kernel)
theorem q_196 : (Jvm.Cond.lays "SnowRecorder$World" "SnowRecorder$World" "taken" "I") ∈ AW := AW_m1 196 (by decide +kernel) (by decide +kernel)
theorem q_198 : (Jvm.Cond.lays "SnowRecorder$World" "SnowRecorder$World" "slid" "I") ∈ AW := AW_m1 198 (by decide +kernel) (by decide +kernel)
theorem q_200 : (Jvm.Cond.lays "SnowRecorder$World" "SnowRecorder$World" "slides" "I") ∈ AW := AW_m1 200 (by decide +kernel) (by decide +kernel)
theorem q_202 : (Jvm.Cond.lays "SnowRecorder$World" "SnowRecorder$World" "pits" "I") ∈ AW := AW_m1 202 (by decide +kernel) (by decide +kernel)
theorem q_204 : (Jvm.Cond.laysFinal "SnowRecorder$World" "SnowRecorder$World" "packs" "[LSnowRecorder$Pack;") ∈ AW := AW_m1 204 (by decide +kernel) (by decide +kernel)
theorem q_208 : (Jvm.Cond.classLink "SnowRecorder$State" (26 : Nat) "SnowRecorder$Pit") ∈ AW := AW_m1 208 (by decide +kernel) (by decide +kernel)
theorem q_210 : (Jvm.Cond.classLink "SnowRecorder$State" (32 : Nat) "SnowRecorder$Notes") ∈ AW := AW_m1 210 (by decide +kernel) (by decide +kernel)
theorem q_211 : (Jvm.Cond.instantiable "SnowRecorder$Notes" (4 : Nat)) ∈ AW := AW_m1 211 (by decide +kernel) (by decide +kernel)
theorem q_213 : (Jvm.Cond.instanceMethod ({ cls := "SnowRecorder$Notes", name := "<init>", desc := "()V" } : Jvm.MethodName)) ∈ AW := AW_m1 213 (by decide +kernel) (by decide +kernel)
theorem q_214 : (Jvm.Cond.code ({ cls := "SnowRecorder$Notes", name := "<init>", desc := "()V" } : Jvm.MethodName) prog_4_method_1_code (1 : Nat) (Option.none : Option Jvm.ClassFile.FieldType)) ∈ AW := AW_m1 214 (by decide +kernel) (by decide +kernel)
theorem q_215 : (Jvm.Cond.methodLink "SnowRecorder$Notes" (3 : Nat) ({ cls := "java/lang/Object", name := "<init>", desc := "()V" } : Jvm.MethodName)) ∈ AW := AW_m1 215 (by decide +kernel) (by decide +kernel)
theorem q_216 : (Jvm.Cond.fieldLink "SnowRecorder$Notes" (9 : Nat) "SnowRecorder$Notes" "size" "I") ∈ AW := AW_m1 216 (by decide +kernel) (by decide +kernel)
theorem q_219 : (Jvm.Cond.fieldLink "SnowRecorder$Notes" (15 : Nat) "SnowRecorder$Notes" "slope" "[I") ∈ AW := AW_m1 219 (by decide +kernel) (by decide +kernel)
theorem q_221 : (Jvm.Cond.fieldLink "SnowRecorder$Notes" (19 : Nat) "SnowRecorder$Notes" "hours" "[I") ∈ AW := AW_m1 221 (by decide +kernel) (by decide +kernel)
theorem q_223 : (Jvm.Cond.fieldLink "SnowRecorder$Notes" (22 : Nat) "SnowRecorder$Notes" "depth" "[I") ∈ AW := AW_m1 223 (by decide +kernel) (by decide +kernel)
theorem q_225 : (Jvm.Cond.lays "SnowRecorder$Notes" "SnowRecorder$Notes" "size" "I") ∈ AW := AW_m1 225 (by decide +kernel) (by decide +kernel)
theorem q_227 : (Jvm.Cond.laysFinal "SnowRecorder$Notes" "SnowRecorder$Notes" "slope" "[I") ∈ AW := AW_m1 227 (by decide +kernel) (by decide +kernel)
theorem q_229 : (Jvm.Cond.laysFinal "SnowRecorder$Notes" "SnowRecorder$Notes" "hours" "[I") ∈ AW := AW_m1 229 (by decide +kernel) (by decide +kernel)
theorem q_231 : (Jvm.Cond.laysFinal "SnowRecorder$Notes" "SnowRecorder$Notes" "depth" "[I") ∈ AW := AW_m1 231 (by decide +kernel) (by decide +kernel)
theorem q_234 : (Jvm.Cond.instantiable "SnowRecorder$Pit" (3 : Nat)) ∈ AW := AW_m1 234 (by decide +kernel) (by decide +kernel)
theorem q_236 : (Jvm.Cond.instanceMethod ({ cls := "SnowRecorder$Pit", name := "<init>", desc := "()V" } : Jvm.MethodName)) ∈ AW := AW_m1 236 (by decide +kernel) (by decide +kernel)
theorem q_237 : (Jvm.Cond.code ({ cls := "SnowRecorder$Pit", name := "<init>", desc := "()V" } : Jvm.MethodName) prog_6_method_1_code (1 : Nat) (Option.none : Option Jvm.ClassFile.FieldType)) ∈ AW := AW_m1 237 (by decide +kernel) (by decide +kernel)
theorem q_238 : (Jvm.Cond.methodLink "SnowRecorder$Pit" (1 : Nat) ({ cls := "java/lang/Object", name := "<init>", desc := "()V" } : Jvm.MethodName)) ∈ AW := AW_m1 238 (by decide +kernel) (by decide +kernel)
theorem q_239 : (Jvm.Cond.classLink "SnowRecorder$Pit" (16 : Nat) "SnowRecorder$Pack") ∈ AW := AW_m1 239 (by decide +kernel) (by decide +kernel)
theorem q_241 : (Jvm.Cond.fieldLink "SnowRecorder$Pit" (7 : Nat) "SnowRecorder$Pit" "slope" "I") ∈ AW := AW_m2 1 (by decide +kernel) (by decide +kernel)
theorem q_244 : (Jvm.Cond.fieldLink "SnowRecorder$Pit" (13 : Nat) "SnowRecorder$Pit" "time" "I") ∈ AW := AW_m2 4 (by decide +kernel) (by decide +kernel)
theorem q_247 : (Jvm.Cond.fieldLink "SnowRecorder$Pit" (19 : Nat) "SnowRecorder$Pit" "pack" "LSnowRecorder$Pack;") ∈ AW := AW_m2 7 (by decide +kernel) (by decide +kernel)
theorem q_250 : (Jvm.Cond.lays "SnowRecorder$Pit" "SnowRecorder$Pit" "slope" "I") ∈ AW := AW_m2 10 (by decide +kernel) (by decide +kernel)
theorem q_252 : (Jvm.Cond.lays "SnowRecorder$Pit" "SnowRecorder$Pit" "time" "I") ∈ AW := AW_m2 12 (by decide +kernel) (by decide +kernel)
theorem q_254 : (Jvm.Cond.laysFinal "SnowRecorder$Pit" "SnowRecorder$Pit" "pack" "LSnowRecorder$Pack;") ∈ AW := AW_m2 14 (by decide +kernel) (by decide +kernel)
theorem q_257 : (Jvm.Cond.fieldLink "SnowRecorder$State" (12 : Nat) "SnowRecorder$State" "now" "LSnowRecorder$World;") ∈ AW := AW_m2 17 (by decide +kernel) (by decide +kernel)
theorem q_259 : (Jvm.Cond.fieldLink "SnowRecorder$State" (18 : Nat) "SnowRecorder$State" "before" "[LSnowRecorder$World;") ∈ AW := AW_m2 19 (by decide +kernel) (by decide +kernel)
theorem q_260 : (Jvm.Cond.fieldLink "SnowRecorder$State" (22 : Nat) "SnowRecorder$State" "acts" "I") ∈ AW := AW_m2 20 (by decide +kernel) (by decide +kernel)
theorem q_262 : (Jvm.Cond.fieldLink "SnowRecorder$State" (28 : Nat) "SnowRecorder$State" "pits" "[LSnowRecorder$Pit;") ∈ AW := AW_m2 22 (by decide +kernel) (by decide +kernel)
theorem q_264 : (Jvm.Cond.fieldLink "SnowRecorder$State" (35 : Nat) "SnowRecorder$State" "notes" "LSnowRecorder$Notes;") ∈ AW := AW_m2 24 (by decide +kernel) (by decide +kernel)
theorem q_266 : (Jvm.Cond.fieldLink "SnowRecorder$State" (39 : Nat) "SnowRecorder$State" "refused" "[I") ∈ AW := AW_m2 26 (by decide +kernel) (by decide +kernel)
theorem q_268 : (Jvm.Cond.laysFinal "SnowRecorder$State" "SnowRecorder$State" "now" "LSnowRecorder$World;") ∈ AW := AW_m2 28 (by decide +kernel) (by decide +kernel)
theorem q_270 : (Jvm.Cond.laysFinal "SnowRecorder$State" "SnowRecorder$State" "before" "[LSnowRecorder$World;") ∈ AW := AW_m2 30 (by decide +kernel) (by decide +kernel)
theorem q_272 : (Jvm.Cond.lays "SnowRecorder$State" "SnowRecorder$State" "acts" "I") ∈ AW := AW_m2 32 (by decide +kernel) (by decide +kernel)
theorem q_274 : (Jvm.Cond.laysFinal "SnowRecorder$State" "SnowRecorder$State" "pits" "[LSnowRecorder$Pit;") ∈ AW := AW_m2 34 (by decide +kernel) (by decide +kernel)
theorem q_276 : (Jvm.Cond.laysFinal "SnowRecorder$State" "SnowRecorder$State" "notes" "LSnowRecorder$Notes;") ∈ AW := AW_m2 36 (by decide +kernel) (by decide +kernel)
theorem q_278 : (Jvm.Cond.laysFinal "SnowRecorder$State" "SnowRecorder$State" "refused" "[I") ∈ AW := AW_m2 38 (by decide +kernel) (by decide +kernel)
theorem q_288 : (Jvm.Cond.methodLink "SnowRecorder$Guesses" (3 : Nat) ({ cls := "java/lang/Object", name := "<init>", desc := "()V" } : Jvm.MethodName)) ∈ AW := AW_m2 48 (by decide +kernel) (by decide +kernel)
theorem q_289 : (Jvm.Cond.classLink "SnowRecorder$Guesses" (22 : Nat) "[[I") ∈ AW := AW_m2 49 (by decide +kernel) (by decide +kernel)
theorem q_291 : (Jvm.Cond.fieldLink "SnowRecorder$Guesses" (9 : Nat) "SnowRecorder$Guesses" "many" "I") ∈ AW := AW_m2 51 (by decide +kernel) (by decide +kernel)
theorem q_293 : (Jvm.Cond.fieldLink "SnowRecorder$Guesses" (15 : Nat) "SnowRecorder$Guesses" "first" "I") ∈ AW := AW_m2 53 (by decide +kernel) (by decide +kernel)
theorem q_295 : (Jvm.Cond.fieldLink "SnowRecorder$Guesses" (18 : Nat) "SnowRecorder$Guesses" "unlike" "[I") ∈ AW := AW_m2 55 (by decide +kernel) (by decide +kernel)
theorem q_297 : (Jvm.Cond.fieldLink "SnowRecorder$Guesses" (24 : Nat) "SnowRecorder$Guesses" "depths" "[[I") ∈ AW := AW_m2 57 (by decide +kernel) (by decide +kernel)
theorem q_298 : (Jvm.Cond.lays "SnowRecorder$Guesses" "SnowRecorder$Guesses" "many" "I") ∈ AW := AW_m2 58 (by decide +kernel) (by decide +kernel)
theorem q_300 : (Jvm.Cond.lays "SnowRecorder$Guesses" "SnowRecorder$Guesses" "first" "I") ∈ AW := AW_m2 60 (by decide +kernel) (by decide +kernel)
theorem q_302 : (Jvm.Cond.laysFinal "SnowRecorder$Guesses" "SnowRecorder$Guesses" "unlike" "[I") ∈ AW := AW_m2 62 (by decide +kernel) (by decide +kernel)
theorem q_304 : (Jvm.Cond.laysFinal "SnowRecorder$Guesses" "SnowRecorder$Guesses" "depths" "[[I") ∈ AW := AW_m2 64 (by decide +kernel) (by decide +kernel)
theorem q_312 : (Jvm.Cond.methodLink "SnowRecorder$Likeness" (3 : Nat) ({ cls := "java/lang/Object", name := "<init>", desc := "()V" } : Jvm.MethodName)) ∈ AW := AW_m2 72 (by decide +kernel) (by decide +kernel)
theorem q_313 : (Jvm.Cond.fieldLink "SnowRecorder$Likeness" (9 : Nat) "SnowRecorder$Likeness" "row" "[I") ∈ AW := AW_m2 73 (by decide +kernel) (by decide +kernel)
theorem q_314 : (Jvm.Cond.laysFinal "SnowRecorder$Likeness" "SnowRecorder$Likeness" "row" "[I") ∈ AW := AW_m2 74 (by decide +kernel) (by decide +kernel)
theorem q_322 : (Jvm.Cond.methodLink "java/lang/StringBuilder" (1 : Nat) ({ cls := "java/lang/AbstractStringBuilder", name := "<init>", desc := "(I)V" } : Jvm.MethodName)) ∈ AW := AW_m2 82 (by decide +kernel) (by decide +kernel)
theorem q_323 : (Jvm.Cond.instanceMethod ({ cls := "java/lang/AbstractStringBuilder", name := "<init>", desc := "(I)V" } : Jvm.MethodName)) ∈ AW := AW_m2 83 (by decide +kernel) (by decide +kernel)
theorem q_324 : (Jvm.Cond.code ({ cls := "java/lang/AbstractStringBuilder", name := "<init>", desc := "(I)V" } : Jvm.MethodName) prog_14_method_2_code (2 : Nat) (Option.none : Option Jvm.ClassFile.FieldType)) ∈ AW := AW_m2 84 (by decide +kernel) (by decide +kernel)
theorem q_325 : (Jvm.Cond.methodLink "java/lang/AbstractStringBuilder" (3 : Nat) ({ cls := "java/lang/Object", name := "<init>", desc := "()V" } : Jvm.MethodName)) ∈ AW := AW_m2 85 (by decide +kernel) (by decide +kernel)
theorem q_326 : (Jvm.Cond.fieldLink "java/lang/AbstractStringBuilder" (18 : Nat) "java/lang/String" "COMPACT_STRINGS" "Z") ∈ AW := AW_m2 86 (by decide +kernel) (by decide +kernel)
theorem q_335 : (Jvm.Cond.fieldLink "java/lang/AbstractStringBuilder" (15 : Nat) "java/lang/AbstractStringBuilder" "value" "[B") ∈ AW := AW_m2 95 (by decide +kernel) (by decide +kernel)
theorem q_336 : (Jvm.Cond.fieldLink "java/lang/AbstractStringBuilder" (22 : Nat) "java/lang/AbstractStringBuilder" "coder" "B") ∈ AW := AW_m2 96 (by decide +kernel) (by decide +kernel)
theorem q_340 : (Jvm.Cond.lays "java/lang/StringBuilder" "java/lang/AbstractStringBuilder" "value" "[B") ∈ AW := AW_m2 100 (by decide +kernel) (by decide +kernel)
theorem q_342 : (Jvm.Cond.lays "java/lang/StringBuilder" "java/lang/AbstractStringBuilder" "coder" "B") ∈ AW := AW_m2 102 (by decide +kernel) (by decide +kernel)
theorem q_344 : (Jvm.Cond.lays "java/lang/StringBuilder" "java/lang/AbstractStringBuilder" "maybeLatin1" "Z") ∈ AW := AW_m2 104 (by decide +kernel) (by decide +kernel)
theorem q_346 : (Jvm.Cond.lays "java/lang/StringBuilder" "java/lang/AbstractStringBuilder" "count" "I") ∈ AW := AW_m2 106 (by decide +kernel) (by decide +kernel)
theorem q_35 : (Jvm.Cond.instanceMethod ({ cls := "java/lang/Object", name := "<init>", desc := "()V" } : Jvm.MethodName)) ∈ AW := AW_m1 35 (by decide +kernel) (by decide +kernel)
theorem q_36 : (Jvm.Cond.code ({ cls := "java/lang/Object", name := "<init>", desc := "()V" } : Jvm.MethodName) object_method_1_code (1 : Nat) (Option.none : Option Jvm.ClassFile.FieldType)) ∈ AW := AW_m1 36 (by decide +kernel) (by decide +kernel)
theorem q_42 : (Jvm.Cond.methodLink "SnowRecorder$TextReader" (3 : Nat) ({ cls := "java/lang/Object", name := "<init>", desc := "()V" } : Jvm.MethodName)) ∈ AW := AW_m1 42 (by decide +kernel) (by decide +kernel)
theorem q_43 : (Jvm.Cond.fieldLink "SnowRecorder$TextReader" (9 : Nat) "SnowRecorder$TextReader" "place" "I") ∈ AW := AW_m1 43 (by decide +kernel) (by decide +kernel)
theorem q_45 : (Jvm.Cond.fieldLink "SnowRecorder$TextReader" (15 : Nat) "SnowRecorder$TextReader" "code" "I") ∈ AW := AW_m1 45 (by decide +kernel) (by decide +kernel)
theorem q_46 : (Jvm.Cond.fieldLink "SnowRecorder$TextReader" (18 : Nat) "SnowRecorder$TextReader" "text" "[B") ∈ AW := AW_m1 46 (by decide +kernel) (by decide +kernel)
theorem q_47 : (Jvm.Cond.fieldLink "SnowRecorder$TextReader" (22 : Nat) "SnowRecorder$TextReader" "end" "I") ∈ AW := AW_m1 47 (by decide +kernel) (by decide +kernel)
theorem q_48 : (Jvm.Cond.fieldLink "SnowRecorder$TextReader" (25 : Nat) "SnowRecorder$TextReader" "type" "I") ∈ AW := AW_m1 48 (by decide +kernel) (by decide +kernel)
theorem q_49 : (Jvm.Cond.fieldLink "SnowRecorder$TextReader" (28 : Nat) "SnowRecorder$TextReader" "at" "I") ∈ AW := AW_m1 49 (by decide +kernel) (by decide +kernel)
theorem q_5 : (Jvm.Cond.initialized "SnowRecorder$World") ∈ AW := AW_m1 5 (by decide +kernel) (by decide +kernel)
theorem q_50 : (Jvm.Cond.fieldLink "SnowRecorder$TextReader" (31 : Nat) "SnowRecorder$TextReader" "behind" "I") ∈ AW := AW_m1 50 (by decide +kernel) (by decide +kernel)
theorem q_51 : (Jvm.Cond.fieldLink "SnowRecorder$TextReader" (34 : Nat) "SnowRecorder$TextReader" "taken" "I") ∈ AW := AW_m1 51 (by decide +kernel) (by decide +kernel)
theorem q_52 : (Jvm.Cond.fieldLink "SnowRecorder$TextReader" (37 : Nat) "SnowRecorder$TextReader" "toldTable" "I") ∈ AW := AW_m1 52 (by decide +kernel) (by decide +kernel)
theorem q_53 : (Jvm.Cond.lays "SnowRecorder$TextReader" "SnowRecorder$TextReader" "place" "I") ∈ AW := AW_m1 53 (by decide +kernel) (by decide +kernel)
theorem q_55 : (Jvm.Cond.lays "SnowRecorder$TextReader" "SnowRecorder$TextReader" "code" "I") ∈ AW := AW_m1 55 (by decide +kernel) (by decide +kernel)
theorem q_57 : (Jvm.Cond.lays "SnowRecorder$TextReader" "SnowRecorder$TextReader" "text" "[B") ∈ AW := AW_m1 57 (by decide +kernel) (by decide +kernel)
theorem q_59 : (Jvm.Cond.lays "SnowRecorder$TextReader" "SnowRecorder$TextReader" "end" "I") ∈ AW := AW_m1 59 (by decide +kernel) (by decide +kernel)
theorem q_6 : (Jvm.Cond.initialized "SnowRecorder$Pack") ∈ AW := AW_m1 6 (by decide +kernel) (by decide +kernel)
theorem q_61 : (Jvm.Cond.lays "SnowRecorder$TextReader" "SnowRecorder$TextReader" "type" "I") ∈ AW := AW_m1 61 (by decide +kernel) (by decide +kernel)
theorem q_63 : (Jvm.Cond.lays "SnowRecorder$TextReader" "SnowRecorder$TextReader" "at" "I") ∈ AW := AW_m1 63 (by decide +kernel) (by decide +kernel)
theorem q_65 : (Jvm.Cond.lays "SnowRecorder$TextReader" "SnowRecorder$TextReader" "behind" "I") ∈ AW := AW_m1 65 (by decide +kernel) (by decide +kernel)
theorem q_67 : (Jvm.Cond.lays "SnowRecorder$TextReader" "SnowRecorder$TextReader" "taken" "I") ∈ AW := AW_m1 67 (by decide +kernel) (by decide +kernel)
theorem q_69 : (Jvm.Cond.lays "SnowRecorder$TextReader" "SnowRecorder$TextReader" "toldTable" "I") ∈ AW := AW_m1 69 (by decide +kernel) (by decide +kernel)
theorem q_7 : (Jvm.Cond.initialized "SnowRecorder$Notes") ∈ AW := AW_m1 7 (by decide +kernel) (by decide +kernel)
theorem q_72 : (Jvm.Cond.arrayClass Jvm.ClassFile.FieldType.byte) ∈ AW := AW_m1 72 (by decide +kernel) (by decide +kernel)
theorem q_78 : (Jvm.Cond.methodLink "SnowRecorder$Plan" (3 : Nat) ({ cls := "java/lang/Object", name := "<init>", desc := "()V" } : Jvm.MethodName)) ∈ AW := AW_m1 78 (by decide +kernel) (by decide +kernel)
theorem q_8 : (Jvm.Cond.initialized "SnowRecorder$Pit") ∈ AW := AW_m1 8 (by decide +kernel) (by decide +kernel)
theorem q_81 : (Jvm.Cond.methodLink "SnowRecorder$Plan" (40 : Nat) ({ cls := "[I", name := "clone", desc := "()Ljava/lang/Object;" } : Jvm.MethodName)) ∈ AW := AW_m1 81 (by decide +kernel) (by decide +kernel)
theorem q_82 : (Jvm.Cond.sameMethod "[I" "java/lang/Object" "clone" "()Ljava/lang/Object;") ∈ AW := AW_m1 82 (by decide +kernel) (by decide +kernel)
theorem q_83 : (Jvm.Cond.native ({ cls := "java/lang/Object", name := "clone", desc := "()Ljava/lang/Object;" } : Jvm.MethodName)) ∈ AW := AW_m1 83 (by decide +kernel) (by decide +kernel)
theorem q_84 : (Jvm.Cond.instanceMethod ({ cls := "java/lang/Object", name := "clone", desc := "()Ljava/lang/Object;" } : Jvm.MethodName)) ∈ AW := AW_m1 84 (by decide +kernel) (by decide +kernel)
theorem q_85 : (Jvm.Cond.selects "[I" ({ cls := "[I", name := "clone", desc := "()Ljava/lang/Object;" } : Jvm.MethodName) ({ cls := "java/lang/Object", name := "clone", desc := "()Ljava/lang/Object;" } : Jvm.MethodName)) ∈ AW := AW_m1 85 (by decide +kernel) (by decide +kernel)
theorem q_87 : (Jvm.Cond.classLink "SnowRecorder$Plan" (41 : Nat) "[I") ∈ AW := AW_m1 87 (by decide +kernel) (by decide +kernel)
theorem q_88 : (Jvm.Cond.fieldLink "SnowRecorder$Plan" (9 : Nat) "SnowRecorder$Plan" "slopes" "I") ∈ AW := AW_m1 88 (by decide +kernel) (by decide +kernel)
theorem q_92 : (Jvm.Cond.fieldLink "SnowRecorder$Plan" (15 : Nat) "SnowRecorder$Plan" "hours" "I") ∈ AW := AW_m1 92 (by decide +kernel) (by decide +kernel)
theorem q_95 : (Jvm.Cond.fieldLink "SnowRecorder$Plan" (18 : Nat) "SnowRecorder$Plan" "untoldAir" "I") ∈ AW := AW_m1 95 (by decide +kernel) (by decide +kernel)
theorem q_96 : (Jvm.Cond.fieldLink "SnowRecorder$Plan" (21 : Nat) "SnowRecorder$Plan" "steep" "[I") ∈ AW := AW_m1 96 (by decide +kernel) (by decide +kernel)
theorem mi_yX3_init : zWi yX3_init cX3_init 1 := ⟨q_151, q_6, q_152⟩
theorem mi_yJ5_init_d00df : zWi yJ5_init_d00df cJ5_init_d00df 2 := ⟨q_323, q_11, q_324⟩
theorem mi_yX8_init : zWi yX8_init cX8_init 2 := ⟨q_144, q_5, q_145⟩
theorem mi_yX2_init : zWi yX2_init cX2_init 1 := ⟨q_213, q_7, q_214⟩
theorem mi_yX4_init : zWi yX4_init cX4_init 1 := ⟨q_236, q_8, q_237⟩
theorem inA_X3 : ∀ w ∈ u_ws RX3 TX3 3, w ∈ AW := show ∀ w ∈ ([Cond.lays "SnowRecorder$Pack" "SnowRecorder$Pack" "size" "I", Cond.lays "SnowRecorder$Pack" "SnowRecorder$Pack" "runoff" "I", Cond.laysFinal "SnowRecorder$Pack" "SnowRecorder$Pack" "cells" "[I"] : List Cond), w ∈ AW from List.forall_mem_cons.mpr ⟨q_166, List.forall_mem_cons.mpr ⟨q_168, List.forall_mem_cons.mpr ⟨q_170, fun _ h => absurd h List.not_mem_nil⟩⟩⟩
theorem inA_X8 : ∀ w ∈ u_ws RX8 TX8 7, w ∈ AW := show ∀ w ∈ ([Cond.lays "SnowRecorder$World" "SnowRecorder$World" "time" "I", Cond.lays "SnowRecorder$World" "SnowRecorder$World" "names" "I", Cond.lays "SnowRecorder$World" "SnowRecorder$World" "taken" "I", Cond.lays "SnowRecorder$World" "SnowRecorder$World" "slid" "I", Cond.lays "SnowRecorder$World" "SnowRecorder$World" "slides" "I", Cond.lays "SnowRecorder$World" "SnowRecorder$World" "pits" "I", Cond.laysFinal "SnowRecorder$World" "SnowRecorder$World" "packs" "[LSnowRecorder$Pack;"] : List Cond), w ∈ AW from List.forall_mem_cons.mpr ⟨q_192, List.forall_mem_cons.mpr ⟨q_194, List.forall_mem_cons.mpr ⟨q_196, List.forall_mem_cons.mpr ⟨q_198, List.forall_mem_cons.mpr ⟨q_200, List.forall_mem_cons.mpr ⟨q_202, List.forall_mem_cons.mpr ⟨q_204, fun _ h => absurd h List.not_mem_nil⟩⟩⟩⟩⟩⟩⟩
theorem inA_X2 : ∀ w ∈ u_ws RX2 TX2 4, w ∈ AW := show ∀ w ∈ ([Cond.lays "SnowRecorder$Notes" "SnowRecorder$Notes" "size" "I", Cond.laysFinal "SnowRecorder$Notes" "SnowRecorder$Notes" "slope" "[I", Cond.laysFinal "SnowRecorder$Notes" "SnowRecorder$Notes" "hours" "[I", Cond.laysFinal "SnowRecorder$Notes" "SnowRecorder$Notes" "depth" "[I"] : List Cond), w ∈ AW from List.forall_mem_cons.mpr ⟨q_225, List.forall_mem_cons.mpr ⟨q_227, List.forall_mem_cons.mpr ⟨q_229, List.forall_mem_cons.mpr ⟨q_231, fun _ h => absurd h List.not_mem_nil⟩⟩⟩⟩
theorem inA_X1 : ∀ w ∈ u_ws RX1 TX1 1, w ∈ AW := show ∀ w ∈ ([Cond.laysFinal "SnowRecorder$Likeness" "SnowRecorder$Likeness" "row" "[I"] : List Cond), w ∈ AW from List.forall_mem_cons.mpr ⟨q_314, fun _ h => absurd h List.not_mem_nil⟩
theorem inA_X7 : ∀ w ∈ u_ws RX7 TX7 9, w ∈ AW := show ∀ w ∈ ([Cond.lays "SnowRecorder$TextReader" "SnowRecorder$TextReader" "place" "I", Cond.lays "SnowRecorder$TextReader" "SnowRecorder$TextReader" "code" "I", Cond.lays "SnowRecorder$TextReader" "SnowRecorder$TextReader" "text" "[B", Cond.lays "SnowRecorder$TextReader" "SnowRecorder$TextReader" "end" "I", Cond.lays "SnowRecorder$TextReader" "SnowRecorder$TextReader" "type" "I", Cond.lays "SnowRecorder$TextReader" "SnowRecorder$TextReader" "at" "I", Cond.lays "SnowRecorder$TextReader" "SnowRecorder$TextReader" "behind" "I", Cond.lays "SnowRecorder$TextReader" "SnowRecorder$TextReader" "taken" "I", Cond.lays "SnowRecorder$TextReader" "SnowRecorder$TextReader" "toldTable" "I"] : List Cond), w ∈ AW from List.forall_mem_cons.mpr ⟨q_53, List.forall_mem_cons.mpr ⟨q_55, List.forall_mem_cons.mpr ⟨q_57, List.forall_mem_cons.mpr ⟨q_59, List.forall_mem_cons.mpr ⟨q_61, List.forall_mem_cons.mpr ⟨q_63, List.forall_mem_cons.mpr ⟨q_65, List.forall_mem_cons.mpr ⟨q_67, List.forall_mem_cons.mpr ⟨q_69, fun _ h => absurd h List.not_mem_nil⟩⟩⟩⟩⟩⟩⟩⟩⟩
theorem inA_X4 : ∀ w ∈ u_ws RX4 TX4 3, w ∈ AW := show ∀ w ∈ ([Cond.lays "SnowRecorder$Pit" "SnowRecorder$Pit" "slope" "I", Cond.lays "SnowRecorder$Pit" "SnowRecorder$Pit" "time" "I", Cond.laysFinal "SnowRecorder$Pit" "SnowRecorder$Pit" "pack" "LSnowRecorder$Pack;"] : List Cond), w ∈ AW from List.forall_mem_cons.mpr ⟨q_250, List.forall_mem_cons.mpr ⟨q_252, List.forall_mem_cons.mpr ⟨q_254, fun _ h => absurd h List.not_mem_nil⟩⟩⟩
theorem inA_X5 : ∀ w ∈ u_ws RX5 TX5 9, w ∈ AW := show ∀ w ∈ ([Cond.lays "SnowRecorder$Plan" "SnowRecorder$Plan" "slopes" "I", Cond.lays "SnowRecorder$Plan" "SnowRecorder$Plan" "hours" "I", Cond.lays "SnowRecorder$Plan" "SnowRecorder$Plan" "untoldAir" "I", Cond.laysFinal "SnowRecorder$Plan" "SnowRecorder$Plan" "steep" "[I", Cond.laysFinal "SnowRecorder$Plan" "SnowRecorder$Plan" "open" "[I", Cond.laysFinal "SnowRecorder$Plan" "SnowRecorder$Plan" "air" "[I", Cond.laysFinal "SnowRecorder$Plan" "SnowRecorder$Plan" "fall" "[I", Cond.laysFinal "SnowRecorder$Plan" "SnowRecorder$Plan" "much" "[I", Cond.laysFinal "SnowRecorder$Plan" "SnowRecorder$Plan" "table" "[I"] : List Cond), w ∈ AW from List.forall_mem_cons.mpr ⟨q_115, List.forall_mem_cons.mpr ⟨q_117, List.forall_mem_cons.mpr ⟨q_119, List.forall_mem_cons.mpr ⟨q_121, List.forall_mem_cons.mpr ⟨q_123, List.forall_mem_cons.mpr ⟨q_125, List.forall_mem_cons.mpr ⟨q_127, List.forall_mem_cons.mpr ⟨q_129, List.forall_mem_cons.mpr ⟨q_131, fun _ h => absurd h List.not_mem_nil⟩⟩⟩⟩⟩⟩⟩⟩⟩
theorem inA_X0 : ∀ w ∈ u_ws RX0 TX0 4, w ∈ AW := show ∀ w ∈ ([Cond.lays "SnowRecorder$Guesses" "SnowRecorder$Guesses" "many" "I", Cond.lays "SnowRecorder$Guesses" "SnowRecorder$Guesses" "first" "I", Cond.laysFinal "SnowRecorder$Guesses" "SnowRecorder$Guesses" "unlike" "[I", Cond.laysFinal "SnowRecorder$Guesses" "SnowRecorder$Guesses" "depths" "[[I"] : List Cond), w ∈ AW from List.forall_mem_cons.mpr ⟨q_298, List.forall_mem_cons.mpr ⟨q_300, List.forall_mem_cons.mpr ⟨q_302, List.forall_mem_cons.mpr ⟨q_304, fun _ h => absurd h List.not_mem_nil⟩⟩⟩⟩
theorem inA_J4 : ∀ w ∈ u_ws RJ4 TJ4 4, w ∈ AW := show ∀ w ∈ ([Cond.lays "java/lang/StringBuilder" "java/lang/AbstractStringBuilder" "value" "[B", Cond.lays "java/lang/StringBuilder" "java/lang/AbstractStringBuilder" "coder" "B", Cond.lays "java/lang/StringBuilder" "java/lang/AbstractStringBuilder" "maybeLatin1" "Z", Cond.lays "java/lang/StringBuilder" "java/lang/AbstractStringBuilder" "count" "I"] : List Cond), w ∈ AW from List.forall_mem_cons.mpr ⟨q_340, List.forall_mem_cons.mpr ⟨q_342, List.forall_mem_cons.mpr ⟨q_344, List.forall_mem_cons.mpr ⟨q_346, fun _ h => absurd h List.not_mem_nil⟩⟩⟩⟩
theorem inA_X6 : ∀ w ∈ u_ws RX6 TX6 6, w ∈ AW := show ∀ w ∈ ([Cond.laysFinal "SnowRecorder$State" "SnowRecorder$State" "now" "LSnowRecorder$World;", Cond.laysFinal "SnowRecorder$State" "SnowRecorder$State" "before" "[LSnowRecorder$World;", Cond.lays "SnowRecorder$State" "SnowRecorder$State" "acts" "I", Cond.laysFinal "SnowRecorder$State" "SnowRecorder$State" "pits" "[LSnowRecorder$Pit;", Cond.laysFinal "SnowRecorder$State" "SnowRecorder$State" "notes" "LSnowRecorder$Notes;", Cond.laysFinal "SnowRecorder$State" "SnowRecorder$State" "refused" "[I"] : List Cond), w ∈ AW from List.forall_mem_cons.mpr ⟨q_268, List.forall_mem_cons.mpr ⟨q_270, List.forall_mem_cons.mpr ⟨q_272, List.forall_mem_cons.mpr ⟨q_274, List.forall_mem_cons.mpr ⟨q_276, List.forall_mem_cons.mpr ⟨q_278, fun _ h => absurd h List.not_mem_nil⟩⟩⟩⟩⟩⟩
end
section
-- 07.dec.lean.txt
-- decode rows of ctor
theorem dX3_init_0 : decode cX3_init 0 = .ok (.aload_n 0, 1) := by decide +kernel
theorem dX3_init_1 : decode cX3_init 1 = .ok (.invokespecial 3, 3) := by decide +kernel
theorem dX3_init_4 : decode cX3_init 4 = .ok (.aload_n 0, 1) := by decide +kernel
theorem dX3_init_5 : decode cX3_init 5 = .ok (.iconst 0, 1) := by decide +kernel
theorem dX3_init_6 : decode cX3_init 6 = .ok (.putfield 9, 3) := by decide +kernel
theorem dX3_init_9 : decode cX3_init 9 = .ok (.aload_n 0, 1) := by decide +kernel
theorem dX3_init_10 : decode cX3_init 10 = .ok (.iconst 0, 1) := by decide +kernel
theorem dX3_init_11 : decode cX3_init 11 = .ok (.putfield 15, 3) := by decide +kernel
theorem dX3_init_14 : decode cX3_init 14 = .ok (.aload_n 0, 1) := by decide +kernel
theorem dX3_init_15 : decode cX3_init 15 = .ok (.bipush 84, 2) := by decide +kernel
theorem dX3_init_17 : decode cX3_init 17 = .ok (.newarray .int, 2) := by decide +kernel
theorem dX3_init_19 : decode cX3_init 19 = .ok (.putfield 18, 3) := by decide +kernel
theorem dX3_init_22 : decode cX3_init 22 = .ok (.return_, 1) := by decide +kernel
theorem dX8_init_0 : decode cX8_init 0 = .ok (.aload_n 0, 1) := by decide +kernel
theorem dX8_init_1 : decode cX8_init 1 = .ok (.invokespecial 3, 3) := by decide +kernel
theorem dX8_init_4 : decode cX8_init 4 = .ok (.aload_n 0, 1) := by decide +kernel
theorem dX8_init_5 : decode cX8_init 5 = .ok (.iconst 0, 1) := by decide +kernel
theorem dX8_init_6 : decode cX8_init 6 = .ok (.putfield 9, 3) := by decide +kernel
theorem dX8_init_9 : decode cX8_init 9 = .ok (.aload_n 0, 1) := by decide +kernel
theorem dX8_init_10 : decode cX8_init 10 = .ok (.iconst 0, 1) := by decide +kernel
theorem dX8_init_11 : decode cX8_init 11 = .ok (.putfield 15, 3) := by decide +kernel
theorem dX8_init_14 : decode cX8_init 14 = .ok (.aload_n 0, 1) := by decide +kernel
theorem dX8_init_15 : decode cX8_init 15 = .ok (.iconst 0, 1) := by decide +kernel
theorem dX8_init_16 : decode cX8_init 16 = .ok (.putfield 18, 3) := by decide +kernel
theorem dX8_init_19 : decode cX8_init 19 = .ok (.aload_n 0, 1) := by decide +kernel
theorem dX8_init_20 : decode cX8_init 20 = .ok (.iconst 0, 1) := by decide +kernel
theorem dX8_init_21 : decode cX8_init 21 = .ok (.putfield 21, 3) := by decide +kernel
theorem dX8_init_24 : decode cX8_init 24 = .ok (.aload_n 0, 1) := by decide +kernel
theorem dX8_init_25 : decode cX8_init 25 = .ok (.iconst 0, 1) := by decide +kernel
theorem dX8_init_26 : decode cX8_init 26 = .ok (.putfield 24, 3) := by decide +kernel
theorem dX8_init_29 : decode cX8_init 29 = .ok (.aload_n 0, 1) := by decide +kernel
theorem dX8_init_30 : decode cX8_init 30 = .ok (.iconst 0, 1) := by decide +kernel
theorem dX8_init_31 : decode cX8_init 31 = .ok (.putfield 27, 3) := by decide +kernel
theorem dX8_init_34 : decode cX8_init 34 = .ok (.aload_n 0, 1) := by decide +kernel
theorem dX8_init_35 : decode cX8_init 35 = .ok (.iconst 4, 1) := by decide +kernel
theorem dX8_init_36 : decode cX8_init 36 = .ok (.anewarray 30, 3) := by decide +kernel
theorem dX8_init_39 : decode cX8_init 39 = .ok (.putfield 32, 3) := by decide +kernel
theorem dX8_init_42 : decode cX8_init 42 = .ok (.iconst 0, 1) := by decide +kernel
theorem dX8_init_43 : decode cX8_init 43 = .ok (.istore_n 1, 1) := by decide +kernel
theorem dX8_init_44 : decode cX8_init 44 = .ok (.iload_n 1, 1) := by decide +kernel
theorem dX8_init_45 : decode cX8_init 45 = .ok (.aload_n 0, 1) := by decide +kernel
theorem dX8_init_46 : decode cX8_init 46 = .ok (.getfield 32, 3) := by decide +kernel
theorem dX8_init_49 : decode cX8_init 49 = .ok (.arraylength, 1) := by decide +kernel
theorem dX8_init_50 : decode cX8_init 50 = .ok (.if_icmp .ge 22, 3) := by decide +kernel
theorem dX8_init_53 : decode cX8_init 53 = .ok (.aload_n 0, 1) := by decide +kernel
theorem dX8_init_54 : decode cX8_init 54 = .ok (.getfield 32, 3) := by decide +kernel
theorem dX8_init_57 : decode cX8_init 57 = .ok (.iload_n 1, 1) := by decide +kernel
theorem dX8_init_58 : decode cX8_init 58 = .ok (.new 30, 3) := by decide +kernel
theorem dX8_init_61 : decode cX8_init 61 = .ok (.dup, 1) := by decide +kernel
theorem dX8_init_62 : decode cX8_init 62 = .ok (.invokespecial 36, 3) := by decide +kernel
theorem dX8_init_65 : decode cX8_init 65 = .ok (.aastore, 1) := by decide +kernel
theorem dX8_init_66 : decode cX8_init 66 = .ok (.iinc 1 1, 3) := by decide +kernel
theorem dX8_init_69 : decode cX8_init 69 = .ok (.goto (-25), 3) := by decide +kernel
theorem dX8_init_72 : decode cX8_init 72 = .ok (.return_, 1) := by decide +kernel
theorem dX2_init_0 : decode cX2_init 0 = .ok (.aload_n 0, 1) := by decide +kernel
theorem dX2_init_1 : decode cX2_init 1 = .ok (.invokespecial 3, 3) := by decide +kernel
theorem dX2_init_4 : decode cX2_init 4 = .ok (.aload_n 0, 1) := by decide +kernel
theorem dX2_init_5 : decode cX2_init 5 = .ok (.iconst 0, 1) := by decide +kernel
theorem dX2_init_6 : decode cX2_init 6 = .ok (.putfield 9, 3) := by decide +kernel
theorem dX2_init_9 : decode cX2_init 9 = .ok (.aload_n 0, 1) := by decide +kernel
theorem dX2_init_10 : decode cX2_init 10 = .ok (.bipush 8, 2) := by decide +kernel
theorem dX2_init_12 : decode cX2_init 12 = .ok (.newarray .int, 2) := by decide +kernel
theorem dX2_init_14 : decode cX2_init 14 = .ok (.putfield 15, 3) := by decide +kernel
theorem dX2_init_17 : decode cX2_init 17 = .ok (.aload_n 0, 1) := by decide +kernel
theorem dX2_init_18 : decode cX2_init 18 = .ok (.bipush 8, 2) := by decide +kernel
theorem dX2_init_20 : decode cX2_init 20 = .ok (.newarray .int, 2) := by decide +kernel
theorem dX2_init_22 : decode cX2_init 22 = .ok (.putfield 19, 3) := by decide +kernel
theorem dX2_init_25 : decode cX2_init 25 = .ok (.aload_n 0, 1) := by decide +kernel
theorem dX2_init_26 : decode cX2_init 26 = .ok (.bipush 8, 2) := by decide +kernel
theorem dX2_init_28 : decode cX2_init 28 = .ok (.newarray .int, 2) := by decide +kernel
theorem dX2_init_30 : decode cX2_init 30 = .ok (.putfield 22, 3) := by decide +kernel
theorem dX2_init_33 : decode cX2_init 33 = .ok (.return_, 1) := by decide +kernel
theorem dX1_init_0 : decode cX1_init 0 = .ok (.aload_n 0, 1) := by decide +kernel
theorem dX1_init_1 : decode cX1_init 1 = .ok (.invokespecial 3, 3) := by decide +kernel
theorem dX1_init_4 : decode cX1_init 4 = .ok (.aload_n 0, 1) := by decide +kernel
theorem dX1_init_5 : decode cX1_init 5 = .ok (.bipush 13, 2) := by decide +kernel
theorem dX1_init_7 : decode cX1_init 7 = .ok (.newarray .int, 2) := by decide +kernel
theorem dX1_init_9 : decode cX1_init 9 = .ok (.putfield 9, 3) := by decide +kernel
theorem dX1_init_12 : decode cX1_init 12 = .ok (.return_, 1) := by decide +kernel
theorem dX7_init_0 : decode cX7_init 0 = .ok (.aload_n 0, 1) := by decide +kernel
theorem dX7_init_1 : decode cX7_init 1 = .ok (.invokespecial 3, 3) := by decide +kernel
theorem dX7_init_4 : decode cX7_init 4 = .ok (.aload_n 0, 1) := by decide +kernel
theorem dX7_init_5 : decode cX7_init 5 = .ok (.iconst (-1), 1) := by decide +kernel
theorem dX7_init_6 : decode cX7_init 6 = .ok (.putfield 9, 3) := by decide +kernel
theorem dX7_init_9 : decode cX7_init 9 = .ok (.aload_n 0, 1) := by decide +kernel
theorem dX7_init_10 : decode cX7_init 10 = .ok (.iconst 0, 1) := by decide +kernel
theorem dX7_init_11 : decode cX7_init 11 = .ok (.putfield 15, 3) := by decide +kernel
theorem dX7_init_14 : decode cX7_init 14 = .ok (.aload_n 0, 1) := by decide +kernel
theorem dX7_init_15 : decode cX7_init 15 = .ok (.iconst 0, 1) := by decide +kernel
theorem dX7_init_16 : decode cX7_init 16 = .ok (.newarray .byte, 2) := by decide +kernel
theorem dX7_init_18 : decode cX7_init 18 = .ok (.putfield 18, 3) := by decide +kernel
theorem dX7_init_21 : decode cX7_init 21 = .ok (.aload_n 0, 1) := by decide +kernel
theorem dX7_init_22 : decode cX7_init 22 = .ok (.iconst 0, 1) := by decide +kernel
theorem dX7_init_23 : decode cX7_init 23 = .ok (.putfield 22, 3) := by decide +kernel
theorem dX7_init_26 : decode cX7_init 26 = .ok (.aload_n 0, 1) := by decide +kernel
theorem dX7_init_27 : decode cX7_init 27 = .ok (.iconst 0, 1) := by decide +kernel
theorem dX7_init_28 : decode cX7_init 28 = .ok (.putfield 25, 3) := by decide +kernel
theorem dX7_init_31 : decode cX7_init 31 = .ok (.aload_n 0, 1) := by decide +kernel
theorem dX7_init_32 : decode cX7_init 32 = .ok (.iconst 0, 1) := by decide +kernel
theorem dX7_init_33 : decode cX7_init 33 = .ok (.putfield 28, 3) := by decide +kernel
theorem dX7_init_36 : decode cX7_init 36 = .ok (.aload_n 0, 1) := by decide +kernel
theorem dX7_init_37 : decode cX7_init 37 = .ok (.iconst 0, 1) := by decide +kernel
theorem dX7_init_38 : decode cX7_init 38 = .ok (.putfield 31, 3) := by decide +kernel
theorem dX7_init_41 : decode cX7_init 41 = .ok (.aload_n 0, 1) := by decide +kernel
theorem dX7_init_42 : decode cX7_init 42 = .ok (.iconst 0, 1) := by decide +kernel
theorem dX7_init_43 : decode cX7_init 43 = .ok (.putfield 34, 3) := by decide +kernel
theorem dX7_init_46 : decode cX7_init 46 = .ok (.aload_n 0, 1) := by decide +kernel
theorem dX7_init_47 : decode cX7_init 47 = .ok (.iconst 0, 1) := by decide +kernel
theorem dX7_init_48 : decode cX7_init 48 = .ok (.putfield 37, 3) := by decide +kernel
theorem dX7_init_51 : decode cX7_init 51 = .ok (.return_, 1) := by decide +kernel
theorem dX4_init_0 : decode cX4_init 0 = .ok (.aload_n 0, 1) := by decide +kernel
theorem dX4_init_1 : decode cX4_init 1 = .ok (.invokespecial 1, 3) := by decide +kernel
theorem dX4_init_4 : decode cX4_init 4 = .ok (.aload_n 0, 1) := by decide +kernel
theorem dX4_init_5 : decode cX4_init 5 = .ok (.iconst 0, 1) := by decide +kernel
theorem dX4_init_6 : decode cX4_init 6 = .ok (.putfield 7, 3) := by decide +kernel
theorem dX4_init_9 : decode cX4_init 9 = .ok (.aload_n 0, 1) := by decide +kernel
theorem dX4_init_10 : decode cX4_init 10 = .ok (.iconst 0, 1) := by decide +kernel
theorem dX4_init_11 : decode cX4_init 11 = .ok (.putfield 13, 3) := by decide +kernel
theorem dX4_init_14 : decode cX4_init 14 = .ok (.aload_n 0, 1) := by decide +kernel
theorem dX4_init_15 : decode cX4_init 15 = .ok (.new 16, 3) := by decide +kernel
theorem dX4_init_18 : decode cX4_init 18 = .ok (.dup, 1) := by decide +kernel
theorem dX4_init_19 : decode cX4_init 19 = .ok (.invokespecial 18, 3) := by decide +kernel
theorem dX4_init_22 : decode cX4_init 22 = .ok (.putfield 19, 3) := by decide +kernel
theorem dX4_init_25 : decode cX4_init 25 = .ok (.return_, 1) := by decide +kernel
theorem dX5_init_0 : decode cX5_init 0 = .ok (.aload_n 0, 1) := by decide +kernel
theorem dX5_init_1 : decode cX5_init 1 = .ok (.invokespecial 3, 3) := by decide +kernel
theorem dX5_init_4 : decode cX5_init 4 = .ok (.aload_n 0, 1) := by decide +kernel
theorem dX5_init_5 : decode cX5_init 5 = .ok (.iconst 0, 1) := by decide +kernel
theorem dX5_init_6 : decode cX5_init 6 = .ok (.putfield 9, 3) := by decide +kernel
theorem dX5_init_9 : decode cX5_init 9 = .ok (.aload_n 0, 1) := by decide +kernel
theorem dX5_init_10 : decode cX5_init 10 = .ok (.iconst 0, 1) := by decide +kernel
theorem dX5_init_11 : decode cX5_init 11 = .ok (.putfield 15, 3) := by decide +kernel
theorem dX5_init_14 : decode cX5_init 14 = .ok (.aload_n 0, 1) := by decide +kernel
theorem dX5_init_15 : decode cX5_init 15 = .ok (.iconst 0, 1) := by decide +kernel
theorem dX5_init_16 : decode cX5_init 16 = .ok (.putfield 18, 3) := by decide +kernel
theorem dX5_init_19 : decode cX5_init 19 = .ok (.aload_n 0, 1) := by decide +kernel
theorem dX5_init_20 : decode cX5_init 20 = .ok (.iconst 4, 1) := by decide +kernel
theorem dX5_init_21 : decode cX5_init 21 = .ok (.newarray .int, 2) := by decide +kernel
theorem dX5_init_23 : decode cX5_init 23 = .ok (.putfield 21, 3) := by decide +kernel
theorem dX5_init_26 : decode cX5_init 26 = .ok (.aload_n 0, 1) := by decide +kernel
theorem dX5_init_27 : decode cX5_init 27 = .ok (.iconst 4, 1) := by decide +kernel
theorem dX5_init_28 : decode cX5_init 28 = .ok (.newarray .int, 2) := by decide +kernel
theorem dX5_init_30 : decode cX5_init 30 = .ok (.putfield 25, 3) := by decide +kernel
theorem dX5_init_33 : decode cX5_init 33 = .ok (.aload_n 0, 1) := by decide +kernel
theorem dX5_init_34 : decode cX5_init 34 = .ok (.bipush 24, 2) := by decide +kernel
theorem dX5_init_36 : decode cX5_init 36 = .ok (.newarray .int, 2) := by decide +kernel
theorem dX5_init_38 : decode cX5_init 38 = .ok (.putfield 28, 3) := by decide +kernel
theorem dX5_init_41 : decode cX5_init 41 = .ok (.aload_n 0, 1) := by decide +kernel
theorem dX5_init_42 : decode cX5_init 42 = .ok (.bipush 24, 2) := by decide +kernel
theorem dX5_init_44 : decode cX5_init 44 = .ok (.newarray .int, 2) := by decide +kernel
theorem dX5_init_46 : decode cX5_init 46 = .ok (.putfield 31, 3) := by decide +kernel
theorem dX5_init_49 : decode cX5_init 49 = .ok (.aload_n 0, 1) := by decide +kernel
theorem dX5_init_50 : decode cX5_init 50 = .ok (.bipush 24, 2) := by decide +kernel
theorem dX5_init_52 : decode cX5_init 52 = .ok (.newarray .int, 2) := by decide +kernel
theorem dX5_init_54 : decode cX5_init 54 = .ok (.putfield 34, 3) := by decide +kernel
theorem dX5_init_57 : decode cX5_init 57 = .ok (.aload_n 0, 1) := by decide +kernel
theorem dX5_init_58 : decode cX5_init 58 = .ok (.getstatic 37, 3) := by decide +kernel
theorem dX5_init_61 : decode cX5_init 61 = .ok (.invokevirtual 40, 3) := by decide +kernel
theorem dX5_init_64 : decode cX5_init 64 = .ok (.checkcast 41, 3) := by decide +kernel
theorem dX5_init_67 : decode cX5_init 67 = .ok (.putfield 45, 3) := by decide +kernel
theorem dX5_init_70 : decode cX5_init 70 = .ok (.return_, 1) := by decide +kernel
theorem dX0_init_0 : decode cX0_init 0 = .ok (.aload_n 0, 1) := by decide +kernel
theorem dX0_init_1 : decode cX0_init 1 = .ok (.invokespecial 3, 3) := by decide +kernel
theorem dX0_init_4 : decode cX0_init 4 = .ok (.aload_n 0, 1) := by decide +kernel
theorem dX0_init_5 : decode cX0_init 5 = .ok (.iconst 0, 1) := by decide +kernel
theorem dX0_init_6 : decode cX0_init 6 = .ok (.putfield 9, 3) := by decide +kernel
theorem dX0_init_9 : decode cX0_init 9 = .ok (.aload_n 0, 1) := by decide +kernel
theorem dX0_init_10 : decode cX0_init 10 = .ok (.iconst (-1), 1) := by decide +kernel
theorem dX0_init_11 : decode cX0_init 11 = .ok (.putfield 15, 3) := by decide +kernel
theorem dX0_init_14 : decode cX0_init 14 = .ok (.aload_n 0, 1) := by decide +kernel
theorem dX0_init_15 : decode cX0_init 15 = .ok (.iconst 4, 1) := by decide +kernel
theorem dX0_init_16 : decode cX0_init 16 = .ok (.newarray .int, 2) := by decide +kernel
theorem dX0_init_18 : decode cX0_init 18 = .ok (.putfield 18, 3) := by decide +kernel
theorem dX0_init_21 : decode cX0_init 21 = .ok (.aload_n 0, 1) := by decide +kernel
theorem dX0_init_22 : decode cX0_init 22 = .ok (.iconst 4, 1) := by decide +kernel
theorem dX0_init_23 : decode cX0_init 23 = .ok (.sipush 1200, 3) := by decide +kernel
theorem dX0_init_26 : decode cX0_init 26 = .ok (.multianewarray 22 2, 4) := by decide +kernel
theorem dX0_init_30 : decode cX0_init 30 = .ok (.putfield 24, 3) := by decide +kernel
theorem dX0_init_33 : decode cX0_init 33 = .ok (.return_, 1) := by decide +kernel
theorem dJ5_init_d00df_0 : decode cJ5_init_d00df 0 = .ok (.aload_n 0, 1) := by decide +kernel
theorem dJ5_init_d00df_1 : decode cJ5_init_d00df 1 = .ok (.invokespecial 3, 3) := by decide +kernel
theorem dJ5_init_d00df_4 : decode cJ5_init_d00df 4 = .ok (.getstatic 18, 3) := by decide +kernel
theorem dJ5_init_d00df_7 : decode cJ5_init_d00df 7 = .ok (.ifCond .eq 18, 3) := by decide +kernel
theorem dJ5_init_d00df_10 : decode cJ5_init_d00df 10 = .ok (.aload_n 0, 1) := by decide +kernel
theorem dJ5_init_d00df_11 : decode cJ5_init_d00df 11 = .ok (.iload_n 1, 1) := by decide +kernel
theorem dJ5_init_d00df_12 : decode cJ5_init_d00df 12 = .ok (.newarray .byte, 2) := by decide +kernel
theorem dJ5_init_d00df_14 : decode cJ5_init_d00df 14 = .ok (.putfield 15, 3) := by decide +kernel
theorem dJ5_init_d00df_17 : decode cJ5_init_d00df 17 = .ok (.aload_n 0, 1) := by decide +kernel
theorem dJ5_init_d00df_18 : decode cJ5_init_d00df 18 = .ok (.iconst 0, 1) := by decide +kernel
theorem dJ5_init_d00df_19 : decode cJ5_init_d00df 19 = .ok (.putfield 22, 3) := by decide +kernel
theorem dJ5_init_d00df_22 : decode cJ5_init_d00df 22 = .ok (.goto 16, 3) := by decide +kernel
theorem dJ5_init_d00df_38 : decode cJ5_init_d00df 38 = .ok (.return_, 1) := by decide +kernel
theorem dJ4_init_da8c8_0 : decode cJ4_init_da8c8 0 = .ok (.aload_n 0, 1) := by decide +kernel
theorem dJ4_init_da8c8_1 : decode cJ4_init_da8c8 1 = .ok (.bipush 16, 2) := by decide +kernel
theorem dJ4_init_da8c8_3 : decode cJ4_init_da8c8 3 = .ok (.invokespecial 1, 3) := by decide +kernel
theorem dJ4_init_da8c8_6 : decode cJ4_init_da8c8 6 = .ok (.return_, 1) := by decide +kernel
theorem dX6_init_0 : decode cX6_init 0 = .ok (.aload_n 0, 1) := by decide +kernel
theorem dX6_init_1 : decode cX6_init 1 = .ok (.invokespecial 3, 3) := by decide +kernel
theorem dX6_init_4 : decode cX6_init 4 = .ok (.aload_n 0, 1) := by decide +kernel
theorem dX6_init_5 : decode cX6_init 5 = .ok (.new 9, 3) := by decide +kernel
theorem dX6_init_8 : decode cX6_init 8 = .ok (.dup, 1) := by decide +kernel
theorem dX6_init_9 : decode cX6_init 9 = .ok (.invokespecial 11, 3) := by decide +kernel
theorem dX6_init_12 : decode cX6_init 12 = .ok (.putfield 12, 3) := by decide +kernel
theorem dX6_init_15 : decode cX6_init 15 = .ok (.aload_n 0, 1) := by decide +kernel
theorem dX6_init_16 : decode cX6_init 16 = .ok (.bipush 40, 2) := by decide +kernel
theorem dX6_init_18 : decode cX6_init 18 = .ok (.anewarray 9, 3) := by decide +kernel
theorem dX6_init_21 : decode cX6_init 21 = .ok (.putfield 18, 3) := by decide +kernel
theorem dX6_init_24 : decode cX6_init 24 = .ok (.aload_n 0, 1) := by decide +kernel
theorem dX6_init_25 : decode cX6_init 25 = .ok (.iconst 0, 1) := by decide +kernel
theorem dX6_init_26 : decode cX6_init 26 = .ok (.putfield 22, 3) := by decide +kernel
theorem dX6_init_29 : decode cX6_init 29 = .ok (.aload_n 0, 1) := by decide +kernel
theorem dX6_init_30 : decode cX6_init 30 = .ok (.bipush 6, 2) := by decide +kernel
theorem dX6_init_32 : decode cX6_init 32 = .ok (.anewarray 26, 3) := by decide +kernel
theorem dX6_init_35 : decode cX6_init 35 = .ok (.putfield 28, 3) := by decide +kernel
theorem dX6_init_38 : decode cX6_init 38 = .ok (.aload_n 0, 1) := by decide +kernel
theorem dX6_init_39 : decode cX6_init 39 = .ok (.new 32, 3) := by decide +kernel
theorem dX6_init_42 : decode cX6_init 42 = .ok (.dup, 1) := by decide +kernel
theorem dX6_init_43 : decode cX6_init 43 = .ok (.invokespecial 34, 3) := by decide +kernel
theorem dX6_init_46 : decode cX6_init 46 = .ok (.putfield 35, 3) := by decide +kernel
theorem dX6_init_49 : decode cX6_init 49 = .ok (.aload_n 0, 1) := by decide +kernel
theorem dX6_init_50 : decode cX6_init 50 = .ok (.iconst 3, 1) := by decide +kernel
theorem dX6_init_51 : decode cX6_init 51 = .ok (.newarray .int, 2) := by decide +kernel
theorem dX6_init_53 : decode cX6_init 53 = .ok (.putfield 39, 3) := by decide +kernel
theorem dX6_init_56 : decode cX6_init 56 = .ok (.iconst 0, 1) := by decide +kernel
theorem dX6_init_57 : decode cX6_init 57 = .ok (.istore_n 1, 1) := by decide +kernel
theorem dX6_init_88 : decode cX6_init 88 = .ok (.iload_n 1, 1) := by decide +kernel
theorem dX6_init_89 : decode cX6_init 89 = .ok (.aload_n 0, 1) := by decide +kernel
theorem dX6_init_90 : decode cX6_init 90 = .ok (.getfield 28, 3) := by decide +kernel
theorem dX6_init_93 : decode cX6_init 93 = .ok (.arraylength, 1) := by decide +kernel
theorem dX6_init_94 : decode cX6_init 94 = .ok (.if_icmp .ge 22, 3) := by decide +kernel
theorem dX6_init_116 : decode cX6_init 116 = .ok (.return_, 1) := by decide +kernel
theorem dX6_init_97 : decode cX6_init 97 = .ok (.aload_n 0, 1) := by decide +kernel
theorem dX6_init_98 : decode cX6_init 98 = .ok (.getfield 28, 3) := by decide +kernel
theorem dX6_init_101 : decode cX6_init 101 = .ok (.iload_n 1, 1) := by decide +kernel
theorem dX6_init_102 : decode cX6_init 102 = .ok (.new 26, 3) := by decide +kernel
theorem dX6_init_105 : decode cX6_init 105 = .ok (.dup, 1) := by decide +kernel
theorem dX6_init_106 : decode cX6_init 106 = .ok (.invokespecial 43, 3) := by decide +kernel
theorem dX6_init_109 : decode cX6_init 109 = .ok (.aastore, 1) := by decide +kernel
theorem dX6_init_110 : decode cX6_init 110 = .ok (.iinc 1 1, 3) := by decide +kernel
theorem dX6_init_113 : decode cX6_init 113 = .ok (.goto (-25), 3) := by decide +kernel
theorem dX6_init_58 : decode cX6_init 58 = .ok (.iload_n 1, 1) := by decide +kernel
theorem dX6_init_59 : decode cX6_init 59 = .ok (.aload_n 0, 1) := by decide +kernel
theorem dX6_init_60 : decode cX6_init 60 = .ok (.getfield 18, 3) := by decide +kernel
theorem dX6_init_63 : decode cX6_init 63 = .ok (.arraylength, 1) := by decide +kernel
theorem dX6_init_64 : decode cX6_init 64 = .ok (.if_icmp .ge 22, 3) := by decide +kernel
theorem dX6_init_86 : decode cX6_init 86 = .ok (.iconst 0, 1) := by decide +kernel
theorem dX6_init_87 : decode cX6_init 87 = .ok (.istore_n 1, 1) := by decide +kernel
theorem dX6_init_67 : decode cX6_init 67 = .ok (.aload_n 0, 1) := by decide +kernel
theorem dX6_init_68 : decode cX6_init 68 = .ok (.getfield 18, 3) := by decide +kernel
theorem dX6_init_71 : decode cX6_init 71 = .ok (.iload_n 1, 1) := by decide +kernel
theorem dX6_init_72 : decode cX6_init 72 = .ok (.new 9, 3) := by decide +kernel
theorem dX6_init_75 : decode cX6_init 75 = .ok (.dup, 1) := by decide +kernel
theorem dX6_init_76 : decode cX6_init 76 = .ok (.invokespecial 11, 3) := by decide +kernel
theorem dX6_init_79 : decode cX6_init 79 = .ok (.aastore, 1) := by decide +kernel
theorem dX6_init_80 : decode cX6_init 80 = .ok (.iinc 1 1, 3) := by decide +kernel
theorem dX6_init_83 : decode cX6_init 83 = .ok (.goto (-25), 3) := by decide +kernel
end
section
-- 08.ctor.lean.txt
def isPack (cs : Nat → ClassId) (ad : Nat → Nat) (g : Nat → va_E) (i : Nat) (sz ro : Int) (r : Nat → Int) : Prop := g i = oC 5 [.int (zI sz), .int (zI ro), .ref (ad (i + 1))] ∧ g (i + 1) = iA cs 84 r
def isWorld (cs : Nat → ClassId) (ad : Nat → Nat) (g : Nat → va_E) (i : Nat) (t : Nat → Int) (sz ro : Nat → Int) (r : Nat → Nat → Int) : Prop := g i = oC 10 [.int (zI (t 0)), .int (zI (t 1)), .int (zI (t 2)), .int (zI (t 3)), .int (zI (t 4)), .int (zI (t 5)), .ref (ad (i + 1))] ∧ (∃ a : Nat → Option Nat, g (i + 1) = rA (cs 3) 4 a ∧ ∀ k, k < 4 → a k = some (ad (i + 2 + 2 * k))) ∧ ∀ k, k < 4 → isPack cs ad g (i + 2 + 2 * k) (sz k) (ro k) (r k)

set_option maxRecDepth 100000 in
set_option maxHeartbeats 4000000 in
theorem c_X3_init (l : Launch) (D : va_G) (A : Nat → Prop) (cs : Nat → ClassId) (tt : Nat) (N : Nat) (ad : Nat → Nat) (g : Nat → va_E) (i a : Nat) (hi : i < N) (ha : ad i = a) (hg : g i = oC 5 [.int (zI 0), .int (zI 0), .null]) : zM l yX3_init cX3_init 1 none ({ frames := 1, cells := 1, slots := 84, locals := 60 } : Room) D A cs tt N ad g [.ref a] (rV fun N' ad' g' => N' = N + 1 ∧ (∀ j, j < N → ad' j = ad j) ∧ (∀ j, j < N → j ≠ i → g' j = g j) ∧ g' i = oC 5 [.int (zI 0), .int (zI 0), .ref (ad' N)] ∧ g' N = iA cs 84 (fun _ => 0)) := by
  refine z_of (by decide) (Nat.le_of_ble_eq_true rfl) ?_
  intro p e s m below meth c C hr hlk hnm
  refine z_lv (lv' := [(0, .ref a)]) [0] rfl ?_
  refine z_aload_n C 0 dX3_init_0 rfl ?_
  refine z_objInit C q_153 q_35 q_36 dX3_init_1 (Nat.le_of_ble_eq_true rfl) (Nat.le_of_ble_eq_true rfl) ?_
  refine z_aload_n C 0 dX3_init_4 rfl ?_
  refine z_iconst (z := 0) C dX3_init_5 rfl ?_
  refine z_put (fs' := [.int (zI (0)), .int (zI (0)), .null]) C (by omega) ha hg tyX3 tyX3_ok nmX3 rfl inA_X3 0 (by decide) q_154 rfl rfl rfl rfl (Nat.le_of_ble_eq_true rfl) rfl dX3_init_6 (fun g1 eg2 => ?_)
  have hg3 := up_s eg2
  refine z_aload_n C 0 dX3_init_9 rfl ?_
  refine z_iconst (z := 0) C dX3_init_10 rfl ?_
  refine z_put (fs' := [.int (zI (0)), .int (zI (0)), .null]) C (by omega) ha hg3 tyX3 tyX3_ok nmX3 rfl inA_X3 1 (by decide) q_159 rfl rfl rfl rfl (Nat.le_of_ble_eq_true rfl) rfl dX3_init_11 (fun g4 eg5 => ?_)
  have hg6 := up_s eg5
  refine z_aload_n C 0 dX3_init_14 rfl ?_
  refine z_bipush (z := 84) C dX3_init_15 (by decide) ?_
  refine z_newI C 84 rfl q_134 (by decide) (by decide) (by decide) dX3_init_17 (fun q7 ad8 g9 ea10 eg11 => ?_)
  have ha12 : zAt ad8 (N) q7 := up_s ea10
  have hg13 := up_s eg11
  have ha14 : zAt ad8 (i) (a) := up_n ea10 ha (by omega)
  have hg15 := up_n eg11 hg6 (by omega)
  refine z_putF (fs' := [.int (zI (0)), .int (zI (0)), .ref q7]) C (by omega) ha14 hg15 tyX3 tyX3_ok nmX3 rfl inA_X3 2 (by decide) q_162 rfl rfl hnm rfl rfl rfl (Nat.le_of_ble_eq_true rfl) rfl dX3_init_19 (fun g16 eg17 => ?_)
  have hg18 := up_s eg17
  have hg19 := up_n eg17 hg13 (by omega)
  exact z_vret C hr hlk dX3_init_22 (by decide) (by decide) (⟨rfl, rfl, fun j h1 => by rw [ea10, va_up_ne _ _ (by omega)], fun j h1 h2 => by rw [eg17, va_up_ne _ _ (by omega)]; rw [eg11, va_up_ne _ _ (by omega)]; rw [eg5, va_up_ne _ _ (by omega)]; rw [eg2, va_up_ne _ _ (by omega)], by rw [show ad8 N = _ from ha12]; exact hg18, hg19⟩)

set_option maxRecDepth 100000 in
set_option maxHeartbeats 4000000 in
theorem c_X8_init (l : Launch) (D : va_G) (A : Nat → Prop) (cs : Nat → ClassId) (tt : Nat) (ad : Nat → Nat) (g : Nat → va_E) (i a : Nat) (ha : ad i = a) (hg : g i = oC 10 [.int (zI 0), .int (zI 0), .int (zI 0), .int (zI 0), .int (zI 0), .int (zI 0), .null]) : zM l yX8_init cX8_init 2 none ({ frames := 2, cells := 9, slots := 352, locals := 120 } : Room) D A cs tt (i + 1) ad g [.ref a] (rV fun N' ad' g' => N' = i + 10 ∧ (∀ j, j < i + 1 → ad' j = ad j) ∧ (∀ j, j < i + 1 → j ≠ i → g' j = g j) ∧ isWorld cs ad' g' i (fun _ => 0) (fun _ => 0) (fun _ => 0) (fun _ _ => 0)) := by
  refine z_of (by decide) (Nat.le_of_ble_eq_true rfl) ?_
  intro p e s m below meth c C hr hlk hnm
  refine z_lv (lv' := [(0, .ref a)]) [0] rfl ?_
  refine z_aload_n C 0 dX8_init_0 rfl ?_
  refine z_objInit C q_146 q_35 q_36 dX8_init_1 (Nat.le_of_ble_eq_true rfl) (Nat.le_of_ble_eq_true rfl) ?_
  refine z_aload_n C 0 dX8_init_4 rfl ?_
  refine z_iconst (z := 0) C dX8_init_5 rfl ?_
  refine z_put (fs' := [.int (zI (0)), .int (zI (0)), .int (zI (0)), .int (zI (0)), .int (zI (0)), .int (zI (0)), .null]) C (lt_o (i := i) (c := 0) (d := 1) rfl) ha hg tyX8 tyX8_ok nmX8 rfl inA_X8 0 (by decide) q_173 rfl rfl rfl rfl (Nat.le_of_ble_eq_true rfl) rfl dX8_init_6 (fun g1 eg2 => ?_)
  have hg3 := up_s eg2
  refine z_aload_n C 0 dX8_init_9 rfl ?_
  refine z_iconst (z := 0) C dX8_init_10 rfl ?_
  refine z_put (fs' := [.int (zI (0)), .int (zI (0)), .int (zI (0)), .int (zI (0)), .int (zI (0)), .int (zI (0)), .null]) C (lt_o (i := i) (c := 0) (d := 1) rfl) ha hg3 tyX8 tyX8_ok nmX8 rfl inA_X8 1 (by decide) q_176 rfl rfl rfl rfl (Nat.le_of_ble_eq_true rfl) rfl dX8_init_11 (fun g4 eg5 => ?_)
  have hg6 := up_s eg5
  refine z_aload_n C 0 dX8_init_14 rfl ?_
  refine z_iconst (z := 0) C dX8_init_15 rfl ?_
  refine z_put (fs' := [.int (zI (0)), .int (zI (0)), .int (zI (0)), .int (zI (0)), .int (zI (0)), .int (zI (0)), .null]) C (lt_o (i := i) (c := 0) (d := 1) rfl) ha hg6 tyX8 tyX8_ok nmX8 rfl inA_X8 2 (by decide) q_179 rfl rfl rfl rfl (Nat.le_of_ble_eq_true rfl) rfl dX8_init_16 (fun g7 eg8 => ?_)
  have hg9 := up_s eg8
  refine z_aload_n C 0 dX8_init_19 rfl ?_
  refine z_iconst (z := 0) C dX8_init_20 rfl ?_
  refine z_put (fs' := [.int (zI (0)), .int (zI (0)), .int (zI (0)), .int (zI (0)), .int (zI (0)), .int (zI (0)), .null]) C (lt_o (i := i) (c := 0) (d := 1) rfl) ha hg9 tyX8 tyX8_ok nmX8 rfl inA_X8 3 (by decide) q_181 rfl rfl rfl rfl (Nat.le_of_ble_eq_true rfl) rfl dX8_init_21 (fun g10 eg11 => ?_)
  have hg12 := up_s eg11
  refine z_aload_n C 0 dX8_init_24 rfl ?_
  refine z_iconst (z := 0) C dX8_init_25 rfl ?_
  refine z_put (fs' := [.int (zI (0)), .int (zI (0)), .int (zI (0)), .int (zI (0)), .int (zI (0)), .int (zI (0)), .null]) C (lt_o (i := i) (c := 0) (d := 1) rfl) ha hg12 tyX8 tyX8_ok nmX8 rfl inA_X8 4 (by decide) q_183 rfl rfl rfl rfl (Nat.le_of_ble_eq_true rfl) rfl dX8_init_26 (fun g13 eg14 => ?_)
  have hg15 := up_s eg14
  refine z_aload_n C 0 dX8_init_29 rfl ?_
  refine z_iconst (z := 0) C dX8_init_30 rfl ?_
  refine z_put (fs' := [.int (zI (0)), .int (zI (0)), .int (zI (0)), .int (zI (0)), .int (zI (0)), .int (zI (0)), .null]) C (lt_o (i := i) (c := 0) (d := 1) rfl) ha hg15 tyX8 tyX8_ok nmX8 rfl inA_X8 5 (by decide) q_185 rfl rfl rfl rfl (Nat.le_of_ble_eq_true rfl) rfl dX8_init_31 (fun g16 eg17 => ?_)
  have hg18 := up_s eg17
  refine z_aload_n C 0 dX8_init_34 rfl ?_
  refine z_iconst (z := 4) C dX8_init_35 rfl ?_
  refine z_newR C 3 4 rfl rfl q_147 C.2.2.2.2.2.2.2.2.1.1 (by decide) (by decide) (by decide) dX8_init_36 (fun q19 ad20 g21 ea22 eg23 => ?_)
  have ha24 : zAt ad20 (i + 1) q19 := up_s ea22
  have hg25 := up_s eg23
  have ha26 : zAt ad20 (i) (a) := up_n ea22 ha (ne_o (i := i) (c := 0) (d := 1) rfl)
  have hg27 := up_n eg23 hg18 (ne_o (i := i) (c := 0) (d := 1) rfl)
  refine z_putF (fs' := [.int (zI (0)), .int (zI (0)), .int (zI (0)), .int (zI (0)), .int (zI (0)), .int (zI (0)), .ref q19]) C (lt_o (i := i) (c := 0) (d := 2) rfl) ha26 hg27 tyX8 tyX8_ok nmX8 rfl inA_X8 6 (by decide) q_188 rfl rfl hnm rfl rfl rfl (Nat.le_of_ble_eq_true rfl) rfl dX8_init_39 (fun g28 eg29 => ?_)
  have hg30 := up_s eg29
  refine z_iconst (z := 0) C dX8_init_42 rfl ?_
  refine z_istore_n (lv' := [(1, .int (zI (0))), (0, .ref a)]) C dX8_init_43 rfl (by decide) rfl ?_
  refine z_iload_n C 0 dX8_init_44 rfl ?_
  refine z_aload_n C 1 dX8_init_45 rfl ?_
  refine z_get (v := .ref q19) C (lt_o (i := i) (c := 0) (d := 2) rfl) ha26 hg30 rfl inA_X8 6 (by decide) q_188 rfl rfl dX8_init_46 ?_
  have hg31 := up_n eg29 hg25 (ne_o (i := i) (c := 1) (d := 0) rfl)
  refine z_alen (z := 4) C (lt_o (i := i) (c := 1) (d := 2) rfl) ha24 hg31 3 rfl rfl dX8_init_49 ?_
  refine z_icmp_ge (tgt := 72) C dX8_init_50 (by decide) (by omega) (by omega) (fun h => absurd h (by omega)) (fun _ => ?_)
  refine z_aload_n C 1 dX8_init_53 rfl ?_
  refine z_get (v := .ref q19) C (lt_o (i := i) (c := 0) (d := 2) rfl) ha26 hg30 rfl inA_X8 6 (by decide) q_188 rfl rfl dX8_init_54 ?_
  refine z_iload_n C 0 dX8_init_57 rfl ?_
  refine z_new (fs := [.int (zI (0)), .int (zI (0)), .null]) (ci := 5) C tyX3 tyX3_ok rfl inA_X3 q_147 q_149 q_6 (fun j hj => by rcases (show j = 0 ∨ j = 1 ∨ j = 2 by omega) with rfl | rfl | rfl <;> rfl) (by decide) (by decide) dX8_init_58 (fun q32 ad33 g34 ea35 eg36 => ?_)
  have ha37 : zAt ad33 (i + 1 + 1) q32 := up_s ea35
  have hg38 := up_s eg36
  refine z_dup C dX8_init_61 rfl ?_
  refine z_cIN (As := []) (rest := [.ref q32, .int (zI (0)), .ref q19]) C (c_X3_init l D A cs tt _ _ _ (i + 1 + 1) q32 (lt_o (i := i) (c := 2) (d := 3) rfl) ha37 hg38) mi_yX3_init n_150 rfl (by decide +kernel) (by decide) (Nat.le_of_ble_eq_true rfl) (by decide) dX8_init_62 rfl (kV fun M43 ad44 g45 hq46 => ?_)
  obtain ⟨rfl, hA39, hG40, hg41, hg42⟩ := hq46
  have ha47 : zAt ad44 (i + 1 + 1 + 1) (ad44 (i + 1 + 1 + 1)) := rfl
  have ha48 : zAt ad33 (i + 1) (q19) := up_n ea35 ha24 (ne_o (i := i) (c := 1) (d := 2) rfl)
  have ha49 : zAt ad44 (i + 1) (q19) := (hA39 (i + 1) (lt_o (i := i) (c := 1) (d := 3) rfl)).trans ha48
  have hg50 := up_n eg36 hg31 (ne_o (i := i) (c := 1) (d := 2) rfl)
  have hg51 := (hG40 (i + 1) (lt_o (i := i) (c := 1) (d := 3) rfl) (ne_o (i := i) (c := 1) (d := 2) rfl)).trans hg50
  have ha52 : zAt ad44 (i + 1 + 1) (q32) := (hA39 (i + 1 + 1) (lt_o (i := i) (c := 2) (d := 3) rfl)).trans ha37
  refine z_aast (q := (RX3, TX3, 3)) C (lt_o (i := i) (c := 1) (d := 4) rfl) ha49 hg51 3 rfl (lt_o (i := i) (c := 2) (d := 4) rfl) ha52 hg41 rfl (0) (by omega) (by omega) (by decide) dX8_init_65 (fun g53 eg54 => ?_)
  have hg55 := up_s eg54
  refine z_iinc (z := 1) (lv' := [(1, .int (zI (1))), (0, .ref a)]) (j := 0) C dX8_init_66 rfl (congrArg zI (by omega)) (by decide) rfl ?_
  refine z_goto (tgt := 44) C dX8_init_69 (by decide) ?_
  refine z_iload_n C 0 dX8_init_44 rfl ?_
  refine z_aload_n C 1 dX8_init_45 rfl ?_
  have ha56 : zAt ad33 (i) (a) := up_n ea35 ha26 (ne_o (i := i) (c := 0) (d := 2) rfl)
  have ha57 : zAt ad44 (i) (a) := (hA39 (i) (lt_o (i := i) (c := 0) (d := 3) rfl)).trans ha56
  have hg58 := up_n eg36 hg30 (ne_o (i := i) (c := 0) (d := 2) rfl)
  have hg59 := (hG40 (i) (lt_o (i := i) (c := 0) (d := 3) rfl) (ne_o (i := i) (c := 0) (d := 2) rfl)).trans hg58
  have hg60 := up_n eg54 hg59 (ne_o (i := i) (c := 0) (d := 1) rfl)
  refine z_get (v := .ref q19) C (lt_o (i := i) (c := 0) (d := 4) rfl) ha57 hg60 rfl inA_X8 6 (by decide) q_188 rfl rfl dX8_init_46 ?_
  refine z_alen (z := 4) C (lt_o (i := i) (c := 1) (d := 4) rfl) ha49 hg55 3 rfl rfl dX8_init_49 ?_
  refine z_icmp_ge (tgt := 72) C dX8_init_50 (by decide) (by omega) (by omega) (fun h => absurd h (by omega)) (fun _ => ?_)
  refine z_aload_n C 1 dX8_init_53 rfl ?_
  refine z_get (v := .ref q19) C (lt_o (i := i) (c := 0) (d := 4) rfl) ha57 hg60 rfl inA_X8 6 (by decide) q_188 rfl rfl dX8_init_54 ?_
  refine z_iload_n C 0 dX8_init_57 rfl ?_
  refine z_new (fs := [.int (zI (0)), .int (zI (0)), .null]) (ci := 5) C tyX3 tyX3_ok rfl inA_X3 q_147 q_149 q_6 (fun j hj => by rcases (show j = 0 ∨ j = 1 ∨ j = 2 by omega) with rfl | rfl | rfl <;> rfl) (by decide) (by decide) dX8_init_58 (fun q61 ad62 g63 ea64 eg65 => ?_)
  have ha66 : zAt ad62 (i + 1 + 1 + 1 + 1) q61 := up_s ea64
  have hg67 := up_s eg65
  refine z_dup C dX8_init_61 rfl ?_
  refine z_cIN (As := []) (rest := [.ref q61, .int (zI (1)), .ref q19]) C (c_X3_init l D A cs tt _ _ _ (i + 1 + 1 + 1 + 1) q61 (lt_o (i := i) (c := 4) (d := 5) rfl) ha66 hg67) mi_yX3_init n_150 rfl (by decide +kernel) (by decide) (Nat.le_of_ble_eq_true rfl) (by decide) dX8_init_62 rfl (kV fun M72 ad73 g74 hq75 => ?_)
  obtain ⟨rfl, hA68, hG69, hg70, hg71⟩ := hq75
  have ha76 : zAt ad73 (i + 1 + 1 + 1 + 1 + 1) (ad73 (i + 1 + 1 + 1 + 1 + 1)) := rfl
  have ha77 : zAt ad62 (i + 1) (q19) := up_n ea64 ha49 (ne_o (i := i) (c := 1) (d := 4) rfl)
  have ha78 : zAt ad73 (i + 1) (q19) := (hA68 (i + 1) (lt_o (i := i) (c := 1) (d := 5) rfl)).trans ha77
  have hg79 := up_n eg65 hg55 (ne_o (i := i) (c := 1) (d := 4) rfl)
  have hg80 := (hG69 (i + 1) (lt_o (i := i) (c := 1) (d := 5) rfl) (ne_o (i := i) (c := 1) (d := 4) rfl)).trans hg79
  have ha81 : zAt ad73 (i + 1 + 1 + 1 + 1) (q61) := (hA68 (i + 1 + 1 + 1 + 1) (lt_o (i := i) (c := 4) (d := 5) rfl)).trans ha66
  refine z_aast (q := (RX3, TX3, 3)) C (lt_o (i := i) (c := 1) (d := 6) rfl) ha78 hg80 3 rfl (lt_o (i := i) (c := 4) (d := 6) rfl) ha81 hg70 rfl (1) (by omega) (by omega) (by decide) dX8_init_65 (fun g82 eg83 => ?_)
  have hg84 := up_s eg83
  refine z_iinc (z := 2) (lv' := [(1, .int (zI (2))), (0, .ref a)]) (j := 0) C dX8_init_66 rfl (congrArg zI (by omega)) (by decide) rfl ?_
  refine z_goto (tgt := 44) C dX8_init_69 (by decide) ?_
  refine z_iload_n C 0 dX8_init_44 rfl ?_
  refine z_aload_n C 1 dX8_init_45 rfl ?_
  have ha85 : zAt ad62 (i) (a) := up_n ea64 ha57 (ne_o (i := i) (c := 0) (d := 4) rfl)
  have ha86 : zAt ad73 (i) (a) := (hA68 (i) (lt_o (i := i) (c := 0) (d := 5) rfl)).trans ha85
  have hg87 := up_n eg65 hg60 (ne_o (i := i) (c := 0) (d := 4) rfl)
  have hg88 := (hG69 (i) (lt_o (i := i) (c := 0) (d := 5) rfl) (ne_o (i := i) (c := 0) (d := 4) rfl)).trans hg87
  have hg89 := up_n eg83 hg88 (ne_o (i := i) (c := 0) (d := 1) rfl)
  refine z_get (v := .ref q19) C (lt_o (i := i) (c := 0) (d := 6) rfl) ha86 hg89 rfl inA_X8 6 (by decide) q_188 rfl rfl dX8_init_46 ?_
  refine z_alen (z := 4) C (lt_o (i := i) (c := 1) (d := 6) rfl) ha78 hg84 3 rfl rfl dX8_init_49 ?_
  refine z_icmp_ge (tgt := 72) C dX8_init_50 (by decide) (by omega) (by omega) (fun h => absurd h (by omega)) (fun _ => ?_)
  refine z_aload_n C 1 dX8_init_53 rfl ?_
  refine z_get (v := .ref q19) C (lt_o (i := i) (c := 0) (d := 6) rfl) ha86 hg89 rfl inA_X8 6 (by decide) q_188 rfl rfl dX8_init_54 ?_
  refine z_iload_n C 0 dX8_init_57 rfl ?_
  refine z_new (fs := [.int (zI (0)), .int (zI (0)), .null]) (ci := 5) C tyX3 tyX3_ok rfl inA_X3 q_147 q_149 q_6 (fun j hj => by rcases (show j = 0 ∨ j = 1 ∨ j = 2 by omega) with rfl | rfl | rfl <;> rfl) (by decide) (by decide) dX8_init_58 (fun q90 ad91 g92 ea93 eg94 => ?_)
  have ha95 : zAt ad91 (i + 1 + 1 + 1 + 1 + 1 + 1) q90 := up_s ea93
  have hg96 := up_s eg94
  refine z_dup C dX8_init_61 rfl ?_
  refine z_cIN (As := []) (rest := [.ref q90, .int (zI (2)), .ref q19]) C (c_X3_init l D A cs tt _ _ _ (i + 1 + 1 + 1 + 1 + 1 + 1) q90 (lt_o (i := i) (c := 6) (d := 7) rfl) ha95 hg96) mi_yX3_init n_150 rfl (by decide +kernel) (by decide) (Nat.le_of_ble_eq_true rfl) (by decide) dX8_init_62 rfl (kV fun M101 ad102 g103 hq104 => ?_)
  obtain ⟨rfl, hA97, hG98, hg99, hg100⟩ := hq104
  have ha105 : zAt ad102 (i + 1 + 1 + 1 + 1 + 1 + 1 + 1) (ad102 (i + 1 + 1 + 1 + 1 + 1 + 1 + 1)) := rfl
  have ha106 : zAt ad91 (i + 1) (q19) := up_n ea93 ha78 (ne_o (i := i) (c := 1) (d := 6) rfl)
  have ha107 : zAt ad102 (i + 1) (q19) := (hA97 (i + 1) (lt_o (i := i) (c := 1) (d := 7) rfl)).trans ha106
  have hg108 := up_n eg94 hg84 (ne_o (i := i) (c := 1) (d := 6) rfl)
  have hg109 := (hG98 (i + 1) (lt_o (i := i) (c := 1) (d := 7) rfl) (ne_o (i := i) (c := 1) (d := 6) rfl)).trans hg108
  have ha110 : zAt ad102 (i + 1 + 1 + 1 + 1 + 1 + 1) (q90) := (hA97 (i + 1 + 1 + 1 + 1 + 1 + 1) (lt_o (i := i) (c := 6) (d := 7) rfl)).trans ha95
  refine z_aast (q := (RX3, TX3, 3)) C (lt_o (i := i) (c := 1) (d := 8) rfl) ha107 hg109 3 rfl (lt_o (i := i) (c := 6) (d := 8) rfl) ha110 hg99 rfl (2) (by omega) (by omega) (by decide) dX8_init_65 (fun g111 eg112 => ?_)
  have hg113 := up_s eg112
  refine z_iinc (z := 3) (lv' := [(1, .int (zI (3))), (0, .ref a)]) (j := 0) C dX8_init_66 rfl (congrArg zI (by omega)) (by decide) rfl ?_
  refine z_goto (tgt := 44) C dX8_init_69 (by decide) ?_
  refine z_iload_n C 0 dX8_init_44 rfl ?_
  refine z_aload_n C 1 dX8_init_45 rfl ?_
  have ha114 : zAt ad91 (i) (a) := up_n ea93 ha86 (ne_o (i := i) (c := 0) (d := 6) rfl)
  have ha115 : zAt ad102 (i) (a) := (hA97 (i) (lt_o (i := i) (c := 0) (d := 7) rfl)).trans ha114
  have hg116 := up_n eg94 hg89 (ne_o (i := i) (c := 0) (d := 6) rfl)
  have hg117 := (hG98 (i) (lt_o (i := i) (c := 0) (d := 7) rfl) (ne_o (i := i) (c := 0) (d := 6) rfl)).trans hg116
  have hg118 := up_n eg112 hg117 (ne_o (i := i) (c := 0) (d := 1) rfl)
  refine z_get (v := .ref q19) C (lt_o (i := i) (c := 0) (d := 8) rfl) ha115 hg118 rfl inA_X8 6 (by decide) q_188 rfl rfl dX8_init_46 ?_
  refine z_alen (z := 4) C (lt_o (i := i) (c := 1) (d := 8) rfl) ha107 hg113 3 rfl rfl dX8_init_49 ?_
  refine z_icmp_ge (tgt := 72) C dX8_init_50 (by decide) (by omega) (by omega) (fun h => absurd h (by omega)) (fun _ => ?_)
  refine z_aload_n C 1 dX8_init_53 rfl ?_
  refine z_get (v := .ref q19) C (lt_o (i := i) (c := 0) (d := 8) rfl) ha115 hg118 rfl inA_X8 6 (by decide) q_188 rfl rfl dX8_init_54 ?_
  refine z_iload_n C 0 dX8_init_57 rfl ?_
  refine z_new (fs := [.int (zI (0)), .int (zI (0)), .null]) (ci := 5) C tyX3 tyX3_ok rfl inA_X3 q_147 q_149 q_6 (fun j hj => by rcases (show j = 0 ∨ j = 1 ∨ j = 2 by omega) with rfl | rfl | rfl <;> rfl) (by decide) (by decide) dX8_init_58 (fun q119 ad120 g121 ea122 eg123 => ?_)
  have ha124 : zAt ad120 (i + 1 + 1 + 1 + 1 + 1 + 1 + 1 + 1) q119 := up_s ea122
  have hg125 := up_s eg123
  refine z_dup C dX8_init_61 rfl ?_
  refine z_cIN (As := []) (rest := [.ref q119, .int (zI (3)), .ref q19]) C (c_X3_init l D A cs tt _ _ _ (i + 1 + 1 + 1 + 1 + 1 + 1 + 1 + 1) q119 (lt_o (i := i) (c := 8) (d := 9) rfl) ha124 hg125) mi_yX3_init n_150 rfl (by decide +kernel) (by decide) (Nat.le_of_ble_eq_true rfl) (by decide) dX8_init_62 rfl (kV fun M130 ad131 g132 hq133 => ?_)
  obtain ⟨rfl, hA126, hG127, hg128, hg129⟩ := hq133
  have ha134 : zAt ad131 (i + 1 + 1 + 1 + 1 + 1 + 1 + 1 + 1 + 1) (ad131 (i + 1 + 1 + 1 + 1 + 1 + 1 + 1 + 1 + 1)) := rfl
  have ha135 : zAt ad120 (i + 1) (q19) := up_n ea122 ha107 (ne_o (i := i) (c := 1) (d := 8) rfl)
  have ha136 : zAt ad131 (i + 1) (q19) := (hA126 (i + 1) (lt_o (i := i) (c := 1) (d := 9) rfl)).trans ha135
  have hg137 := up_n eg123 hg113 (ne_o (i := i) (c := 1) (d := 8) rfl)
  have hg138 := (hG127 (i + 1) (lt_o (i := i) (c := 1) (d := 9) rfl) (ne_o (i := i) (c := 1) (d := 8) rfl)).trans hg137
  have ha139 : zAt ad131 (i + 1 + 1 + 1 + 1 + 1 + 1 + 1 + 1) (q119) := (hA126 (i + 1 + 1 + 1 + 1 + 1 + 1 + 1 + 1) (lt_o (i := i) (c := 8) (d := 9) rfl)).trans ha124
  refine z_aast (q := (RX3, TX3, 3)) C (lt_o (i := i) (c := 1) (d := 10) rfl) ha136 hg138 3 rfl (lt_o (i := i) (c := 8) (d := 10) rfl) ha139 hg128 rfl (3) (by omega) (by omega) (by decide) dX8_init_65 (fun g140 eg141 => ?_)
  have hg142 := up_s eg141
  refine z_iinc (z := 4) (lv' := [(1, .int (zI (4))), (0, .ref a)]) (j := 0) C dX8_init_66 rfl (congrArg zI (by omega)) (by decide) rfl ?_
  refine z_goto (tgt := 44) C dX8_init_69 (by decide) ?_
  refine z_iload_n C 0 dX8_init_44 rfl ?_
  refine z_aload_n C 1 dX8_init_45 rfl ?_
  have ha143 : zAt ad120 (i) (a) := up_n ea122 ha115 (ne_o (i := i) (c := 0) (d := 8) rfl)
  have ha144 : zAt ad131 (i) (a) := (hA126 (i) (lt_o (i := i) (c := 0) (d := 9) rfl)).trans ha143
  have hg145 := up_n eg123 hg118 (ne_o (i := i) (c := 0) (d := 8) rfl)
  have hg146 := (hG127 (i) (lt_o (i := i) (c := 0) (d := 9) rfl) (ne_o (i := i) (c := 0) (d := 8) rfl)).trans hg145
  have hg147 := up_n eg141 hg146 (ne_o (i := i) (c := 0) (d := 1) rfl)
  refine z_get (v := .ref q19) C (lt_o (i := i) (c := 0) (d := 10) rfl) ha144 hg147 rfl inA_X8 6 (by decide) q_188 rfl rfl dX8_init_46 ?_
  refine z_alen (z := 4) C (lt_o (i := i) (c := 1) (d := 10) rfl) ha136 hg142 3 rfl rfl dX8_init_49 ?_
  refine z_icmp_ge (tgt := 72) C dX8_init_50 (by decide) (by omega) (by omega) (fun _ => ?_) (fun h => absurd h (by omega))
  have ha148 : zAt ad62 (i + 1 + 1) (q32) := up_n ea64 ha52 (ne_o (i := i) (c := 2) (d := 4) rfl)
  have ha149 : zAt ad73 (i + 1 + 1) (q32) := (hA68 (i + 1 + 1) (lt_o (i := i) (c := 2) (d := 5) rfl)).trans ha148
  have ha150 : zAt ad91 (i + 1 + 1) (q32) := up_n ea93 ha149 (ne_o (i := i) (c := 2) (d := 6) rfl)
  have ha151 : zAt ad102 (i + 1 + 1) (q32) := (hA97 (i + 1 + 1) (lt_o (i := i) (c := 2) (d := 7) rfl)).trans ha150
  have ha152 : zAt ad120 (i + 1 + 1) (q32) := up_n ea122 ha151 (ne_o (i := i) (c := 2) (d := 8) rfl)
  have ha153 : zAt ad131 (i + 1 + 1) (q32) := (hA126 (i + 1 + 1) (lt_o (i := i) (c := 2) (d := 9) rfl)).trans ha152
  have hg154 := up_n eg54 hg41 (ne_o (i := i) (c := 2) (d := 1) rfl)
  have hg155 := up_n eg65 hg154 (ne_o (i := i) (c := 2) (d := 4) rfl)
  have hg156 := (hG69 (i + 1 + 1) (lt_o (i := i) (c := 2) (d := 5) rfl) (ne_o (i := i) (c := 2) (d := 4) rfl)).trans hg155
  have hg157 := up_n eg83 hg156 (ne_o (i := i) (c := 2) (d := 1) rfl)
  have hg158 := up_n eg94 hg157 (ne_o (i := i) (c := 2) (d := 6) rfl)
  have hg159 := (hG98 (i + 1 + 1) (lt_o (i := i) (c := 2) (d := 7) rfl) (ne_o (i := i) (c := 2) (d := 6) rfl)).trans hg158
  have hg160 := up_n eg112 hg159 (ne_o (i := i) (c := 2) (d := 1) rfl)
  have hg161 := up_n eg123 hg160 (ne_o (i := i) (c := 2) (d := 8) rfl)
  have hg162 := (hG127 (i + 1 + 1) (lt_o (i := i) (c := 2) (d := 9) rfl) (ne_o (i := i) (c := 2) (d := 8) rfl)).trans hg161
  have hg163 := up_n eg141 hg162 (ne_o (i := i) (c := 2) (d := 1) rfl)
  have ha164 : zAt ad62 (i + 1 + 1 + 1) (ad44 (i + 1 + 1 + 1)) := up_n ea64 ha47 (ne_o (i := i) (c := 3) (d := 4) rfl)
  have ha165 : zAt ad73 (i + 1 + 1 + 1) (ad44 (i + 1 + 1 + 1)) := (hA68 (i + 1 + 1 + 1) (lt_o (i := i) (c := 3) (d := 5) rfl)).trans ha164
  have ha166 : zAt ad91 (i + 1 + 1 + 1) (ad44 (i + 1 + 1 + 1)) := up_n ea93 ha165 (ne_o (i := i) (c := 3) (d := 6) rfl)
  have ha167 : zAt ad102 (i + 1 + 1 + 1) (ad44 (i + 1 + 1 + 1)) := (hA97 (i + 1 + 1 + 1) (lt_o (i := i) (c := 3) (d := 7) rfl)).trans ha166
  have ha168 : zAt ad120 (i + 1 + 1 + 1) (ad44 (i + 1 + 1 + 1)) := up_n ea122 ha167 (ne_o (i := i) (c := 3) (d := 8) rfl)
  have ha169 : zAt ad131 (i + 1 + 1 + 1) (ad44 (i + 1 + 1 + 1)) := (hA126 (i + 1 + 1 + 1) (lt_o (i := i) (c := 3) (d := 9) rfl)).trans ha168
  have hg170 := up_n eg54 hg42 (ne_o (i := i) (c := 3) (d := 1) rfl)
  have hg171 := up_n eg65 hg170 (ne_o (i := i) (c := 3) (d := 4) rfl)
  have hg172 := (hG69 (i + 1 + 1 + 1) (lt_o (i := i) (c := 3) (d := 5) rfl) (ne_o (i := i) (c := 3) (d := 4) rfl)).trans hg171
  have hg173 := up_n eg83 hg172 (ne_o (i := i) (c := 3) (d := 1) rfl)
  have hg174 := up_n eg94 hg173 (ne_o (i := i) (c := 3) (d := 6) rfl)
  have hg175 := (hG98 (i + 1 + 1 + 1) (lt_o (i := i) (c := 3) (d := 7) rfl) (ne_o (i := i) (c := 3) (d := 6) rfl)).trans hg174
  have hg176 := up_n eg112 hg175 (ne_o (i := i) (c := 3) (d := 1) rfl)
  have hg177 := up_n eg123 hg176 (ne_o (i := i) (c := 3) (d := 8) rfl)
  have hg178 := (hG127 (i + 1 + 1 + 1) (lt_o (i := i) (c := 3) (d := 9) rfl) (ne_o (i := i) (c := 3) (d := 8) rfl)).trans hg177
  have hg179 := up_n eg141 hg178 (ne_o (i := i) (c := 3) (d := 1) rfl)
  have ha180 : zAt ad91 (i + 1 + 1 + 1 + 1) (q61) := up_n ea93 ha81 (ne_o (i := i) (c := 4) (d := 6) rfl)
  have ha181 : zAt ad102 (i + 1 + 1 + 1 + 1) (q61) := (hA97 (i + 1 + 1 + 1 + 1) (lt_o (i := i) (c := 4) (d := 7) rfl)).trans ha180
  have ha182 : zAt ad120 (i + 1 + 1 + 1 + 1) (q61) := up_n ea122 ha181 (ne_o (i := i) (c := 4) (d := 8) rfl)
  have ha183 : zAt ad131 (i + 1 + 1 + 1 + 1) (q61) := (hA126 (i + 1 + 1 + 1 + 1) (lt_o (i := i) (c := 4) (d := 9) rfl)).trans ha182
  have hg184 := up_n eg83 hg70 (ne_o (i := i) (c := 4) (d := 1) rfl)
  have hg185 := up_n eg94 hg184 (ne_o (i := i) (c := 4) (d := 6) rfl)
  have hg186 := (hG98 (i + 1 + 1 + 1 + 1) (lt_o (i := i) (c := 4) (d := 7) rfl) (ne_o (i := i) (c := 4) (d := 6) rfl)).trans hg185
  have hg187 := up_n eg112 hg186 (ne_o (i := i) (c := 4) (d := 1) rfl)
  have hg188 := up_n eg123 hg187 (ne_o (i := i) (c := 4) (d := 8) rfl)
  have hg189 := (hG127 (i + 1 + 1 + 1 + 1) (lt_o (i := i) (c := 4) (d := 9) rfl) (ne_o (i := i) (c := 4) (d := 8) rfl)).trans hg188
  have hg190 := up_n eg141 hg189 (ne_o (i := i) (c := 4) (d := 1) rfl)
  have ha191 : zAt ad91 (i + 1 + 1 + 1 + 1 + 1) (ad73 (i + 1 + 1 + 1 + 1 + 1)) := up_n ea93 ha76 (ne_o (i := i) (c := 5) (d := 6) rfl)
  have ha192 : zAt ad102 (i + 1 + 1 + 1 + 1 + 1) (ad73 (i + 1 + 1 + 1 + 1 + 1)) := (hA97 (i + 1 + 1 + 1 + 1 + 1) (lt_o (i := i) (c := 5) (d := 7) rfl)).trans ha191
  have ha193 : zAt ad120 (i + 1 + 1 + 1 + 1 + 1) (ad73 (i + 1 + 1 + 1 + 1 + 1)) := up_n ea122 ha192 (ne_o (i := i) (c := 5) (d := 8) rfl)
  have ha194 : zAt ad131 (i + 1 + 1 + 1 + 1 + 1) (ad73 (i + 1 + 1 + 1 + 1 + 1)) := (hA126 (i + 1 + 1 + 1 + 1 + 1) (lt_o (i := i) (c := 5) (d := 9) rfl)).trans ha193
  have hg195 := up_n eg83 hg71 (ne_o (i := i) (c := 5) (d := 1) rfl)
  have hg196 := up_n eg94 hg195 (ne_o (i := i) (c := 5) (d := 6) rfl)
  have hg197 := (hG98 (i + 1 + 1 + 1 + 1 + 1) (lt_o (i := i) (c := 5) (d := 7) rfl) (ne_o (i := i) (c := 5) (d := 6) rfl)).trans hg196
  have hg198 := up_n eg112 hg197 (ne_o (i := i) (c := 5) (d := 1) rfl)
  have hg199 := up_n eg123 hg198 (ne_o (i := i) (c := 5) (d := 8) rfl)
  have hg200 := (hG127 (i + 1 + 1 + 1 + 1 + 1) (lt_o (i := i) (c := 5) (d := 9) rfl) (ne_o (i := i) (c := 5) (d := 8) rfl)).trans hg199
  have hg201 := up_n eg141 hg200 (ne_o (i := i) (c := 5) (d := 1) rfl)
  have ha202 : zAt ad120 (i + 1 + 1 + 1 + 1 + 1 + 1) (q90) := up_n ea122 ha110 (ne_o (i := i) (c := 6) (d := 8) rfl)
  have ha203 : zAt ad131 (i + 1 + 1 + 1 + 1 + 1 + 1) (q90) := (hA126 (i + 1 + 1 + 1 + 1 + 1 + 1) (lt_o (i := i) (c := 6) (d := 9) rfl)).trans ha202
  have hg204 := up_n eg112 hg99 (ne_o (i := i) (c := 6) (d := 1) rfl)
  have hg205 := up_n eg123 hg204 (ne_o (i := i) (c := 6) (d := 8) rfl)
  have hg206 := (hG127 (i + 1 + 1 + 1 + 1 + 1 + 1) (lt_o (i := i) (c := 6) (d := 9) rfl) (ne_o (i := i) (c := 6) (d := 8) rfl)).trans hg205
  have hg207 := up_n eg141 hg206 (ne_o (i := i) (c := 6) (d := 1) rfl)
  have ha208 : zAt ad120 (i + 1 + 1 + 1 + 1 + 1 + 1 + 1) (ad102 (i + 1 + 1 + 1 + 1 + 1 + 1 + 1)) := up_n ea122 ha105 (ne_o (i := i) (c := 7) (d := 8) rfl)
  have ha209 : zAt ad131 (i + 1 + 1 + 1 + 1 + 1 + 1 + 1) (ad102 (i + 1 + 1 + 1 + 1 + 1 + 1 + 1)) := (hA126 (i + 1 + 1 + 1 + 1 + 1 + 1 + 1) (lt_o (i := i) (c := 7) (d := 9) rfl)).trans ha208
  have hg210 := up_n eg112 hg100 (ne_o (i := i) (c := 7) (d := 1) rfl)
  have hg211 := up_n eg123 hg210 (ne_o (i := i) (c := 7) (d := 8) rfl)
  have hg212 := (hG127 (i + 1 + 1 + 1 + 1 + 1 + 1 + 1) (lt_o (i := i) (c := 7) (d := 9) rfl) (ne_o (i := i) (c := 7) (d := 8) rfl)).trans hg211
  have hg213 := up_n eg141 hg212 (ne_o (i := i) (c := 7) (d := 1) rfl)
  have hg214 := up_n eg141 hg128 (ne_o (i := i) (c := 8) (d := 1) rfl)
  have hg215 := up_n eg141 hg129 (ne_o (i := i) (c := 9) (d := 1) rfl)
  have hr4 : ∀ k, k < 4 → (va_up (va_up (va_up (va_up (fun _ => none) (0) (some q32)) (1) (some q61)) (2) (some q90)) (3) (some q119)) k = some (ad131 (i + 2 + 2 * k)) := by
    intro k hk
    rcases (show k = 0 ∨ k = 1 ∨ k = 2 ∨ k = 3 by omega) with rfl | rfl | rfl | rfl
    · exact congrArg some (Eq.symm ha153)
    · exact congrArg some (Eq.symm ha183)
    · exact congrArg some (Eq.symm ha203)
    · exact congrArg some (Eq.symm ha139)
  have hp4 : ∀ k, k < 4 → isPack cs ad131 g140 (i + 2 + 2 * k) 0 0 (fun _ => 0) := by
    intro k hk
    rcases (show k = 0 ∨ k = 1 ∨ k = 2 ∨ k = 3 by omega) with rfl | rfl | rfl | rfl
    · exact ⟨by rw [← (show ad131 (i + 1 + 1 + 1) = _ from ha169)] at hg163; exact hg163, hg179⟩
    · exact ⟨by rw [← (show ad131 (i + 1 + 1 + 1 + 1 + 1) = _ from ha194)] at hg190; exact hg190, hg201⟩
    · exact ⟨by rw [← (show ad131 (i + 1 + 1 + 1 + 1 + 1 + 1 + 1) = _ from ha209)] at hg207; exact hg207, hg213⟩
    · exact ⟨by rw [← (show ad131 (i + 1 + 1 + 1 + 1 + 1 + 1 + 1 + 1 + 1) = _ from ha134)] at hg214; exact hg214, hg215⟩
  exact z_vret C hr hlk dX8_init_72 (by decide) (by decide) (⟨rfl, rfl, fun j h1 => by rw [hA126 _ (by omega)]; rw [ea122, va_up_ne _ _ (by omega)]; rw [hA97 _ (by omega)]; rw [ea93, va_up_ne _ _ (by omega)]; rw [hA68 _ (by omega)]; rw [ea64, va_up_ne _ _ (by omega)]; rw [hA39 _ (by omega)]; rw [ea35, va_up_ne _ _ (by omega)]; rw [ea22, va_up_ne _ _ (by omega)], fun j h1 h2 => by rw [eg141, va_up_ne _ _ (by omega)]; rw [hG127 _ (by omega) (by omega)]; rw [eg123, va_up_ne _ _ (by omega)]; rw [eg112, va_up_ne _ _ (by omega)]; rw [hG98 _ (by omega) (by omega)]; rw [eg94, va_up_ne _ _ (by omega)]; rw [eg83, va_up_ne _ _ (by omega)]; rw [hG69 _ (by omega) (by omega)]; rw [eg65, va_up_ne _ _ (by omega)]; rw [eg54, va_up_ne _ _ (by omega)]; rw [hG40 _ (by omega) (by omega)]; rw [eg36, va_up_ne _ _ (by omega)]; rw [eg29, va_up_ne _ _ (by omega)]; rw [eg23, va_up_ne _ _ (by omega)]; rw [eg17, va_up_ne _ _ (by omega)]; rw [eg14, va_up_ne _ _ (by omega)]; rw [eg11, va_up_ne _ _ (by omega)]; rw [eg8, va_up_ne _ _ (by omega)]; rw [eg5, va_up_ne _ _ (by omega)]; rw [eg2, va_up_ne _ _ (by omega)], by rw [← (show ad131 (i + 1) = _ from ha136)] at hg147; exact hg147, ⟨_, hg142, hr4⟩, hp4⟩)

theorem isPack.mv {cs : Nat → ClassId} {ad ad' : Nat → Nat} {g g' : Nat → va_E} {i : Nat} {sz ro : Int} {r : Nat → Int} (hA : ∀ j, i ≤ j → j < i + 2 → ad' j = ad j) (hG : ∀ j, i ≤ j → j < i + 2 → g' j = g j) (h : isPack cs ad g i sz ro r) : isPack cs ad' g' i sz ro r := by
  obtain ⟨h1, h2⟩ := h
  exact ⟨by rw [hG _ (by omega) (by omega), hA _ (by omega) (by omega)]; exact h1, by rw [hG _ (by omega) (by omega)]; exact h2⟩
theorem isWorld.mv {cs : Nat → ClassId} {ad ad' : Nat → Nat} {g g' : Nat → va_E} {i : Nat} {t sz ro : Nat → Int} {r : Nat → Nat → Int} (hA : ∀ j, i ≤ j → j < i + 10 → ad' j = ad j) (hG : ∀ j, i ≤ j → j < i + 10 → g' j = g j) (h : isWorld cs ad g i t sz ro r) : isWorld cs ad' g' i t sz ro r := by
  obtain ⟨h1, ⟨a, h2, h3⟩, h4⟩ := h
  exact ⟨by rw [hG _ (by omega) (by omega), hA _ (by omega) (by omega)]; exact h1, ⟨a, by rw [hG _ (by omega) (by omega)]; exact h2, fun k hk => by rw [hA _ (by omega) (by omega)]; exact h3 k hk⟩, fun k hk => (h4 k hk).mv (fun j _ _ => hA j (by omega) (by omega)) (fun j _ _ => hG j (by omega) (by omega))⟩
def isNotes (cs : Nat → ClassId) (ad : Nat → Nat) (g : Nat → va_E) (i : Nat) (sz : Int) (a b d : Nat → Int) : Prop := g i = oC 4 [.int (zI sz), .ref (ad (i + 1)), .ref (ad (i + 2)), .ref (ad (i + 3))] ∧ g (i + 1) = iA cs 8 a ∧ g (i + 2) = iA cs 8 b ∧ g (i + 3) = iA cs 8 d
theorem isNotes.mv {cs : Nat → ClassId} {ad ad' : Nat → Nat} {g g' : Nat → va_E} {i : Nat} {sz : Int} {a b d : Nat → Int} (hA : ∀ j, i ≤ j → j < i + 4 → ad' j = ad j) (hG : ∀ j, i ≤ j → j < i + 4 → g' j = g j) (h : isNotes cs ad g i sz a b d) : isNotes cs ad' g' i sz a b d := by
  obtain ⟨h1, h2, h3, h4⟩ := h
  exact ⟨by rw [hG _ (by omega) (by omega), hA _ (by omega) (by omega), hA _ (by omega) (by omega), hA _ (by omega) (by omega)]; exact h1, by rw [hG _ (by omega) (by omega)]; exact h2, by rw [hG _ (by omega) (by omega)]; exact h3, by rw [hG _ (by omega) (by omega)]; exact h4⟩
def isPit (cs : Nat → ClassId) (ad : Nat → Nat) (g : Nat → va_E) (i : Nat) (sl ti sz ro : Int) (r : Nat → Int) : Prop := g i = oC 6 [.int (zI sl), .int (zI ti), .ref (ad (i + 1))] ∧ isPack cs ad g (i + 1) sz ro r
theorem isPit.mv {cs : Nat → ClassId} {ad ad' : Nat → Nat} {g g' : Nat → va_E} {i : Nat} {sl ti sz ro : Int} {r : Nat → Int} (hA : ∀ j, i ≤ j → j < i + 3 → ad' j = ad j) (hG : ∀ j, i ≤ j → j < i + 3 → g' j = g j) (h : isPit cs ad g i sl ti sz ro r) : isPit cs ad' g' i sl ti sz ro r := by
  obtain ⟨h1, h2⟩ := h
  exact ⟨by rw [hG _ (by omega) (by omega), hA _ (by omega) (by omega)]; exact h1, h2.mv (fun j _ _ => hA j (by omega) (by omega)) (fun j _ _ => hG j (by omega) (by omega))⟩
def isPlan (cs : Nat → ClassId) (ad : Nat → Nat) (g : Nat → va_E) (i : Nat) (sl ho ua : Int) (st op ai fa mu tb : Nat → Int) : Prop := g i = oC 7 [.int (zI sl), .int (zI ho), .int (zI ua), .ref (ad (i + 1)), .ref (ad (i + 2)), .ref (ad (i + 3)), .ref (ad (i + 4)), .ref (ad (i + 5)), .ref (ad (i + 6))] ∧ g (i + 1) = iA cs 4 st ∧ g (i + 2) = iA cs 4 op ∧ g (i + 3) = iA cs 24 ai ∧ g (i + 4) = iA cs 24 fa ∧ g (i + 5) = iA cs 24 mu ∧ g (i + 6) = iA cs 15 tb
theorem isPlan.mv {cs : Nat → ClassId} {ad ad' : Nat → Nat} {g g' : Nat → va_E} {i : Nat} {sl ho ua : Int} {st op ai fa mu tb : Nat → Int} (hA : ∀ j, i ≤ j → j < i + 7 → ad' j = ad j) (hG : ∀ j, i ≤ j → j < i + 7 → g' j = g j) (h : isPlan cs ad g i sl ho ua st op ai fa mu tb) : isPlan cs ad' g' i sl ho ua st op ai fa mu tb := by
  obtain ⟨h1, h2, h3, h4, h5, h6, h7⟩ := h
  exact ⟨by rw [hG _ (by omega) (by omega), hA _ (by omega) (by omega), hA _ (by omega) (by omega), hA _ (by omega) (by omega), hA _ (by omega) (by omega), hA _ (by omega) (by omega), hA _ (by omega) (by omega)]; exact h1, by rw [hG _ (by omega) (by omega)]; exact h2, by rw [hG _ (by omega) (by omega)]; exact h3, by rw [hG _ (by omega) (by omega)]; exact h4, by rw [hG _ (by omega) (by omega)]; exact h5, by rw [hG _ (by omega) (by omega)]; exact h6, by rw [hG _ (by omega) (by omega)]; exact h7⟩
def isRdr (cs : Nat → ClassId) (ad : Nat → Nat) (g : Nat → va_E) (i : Nat) : Prop := g i = oC 9 [.int (zI (-1)), .int (zI 0), .ref (ad (i + 1)), .int (zI 0), .int (zI 0), .int (zI 0), .int (zI 0), .int (zI 0), .int (zI 0)] ∧ g (i + 1) = bA cs 0 (fun _ => 0)
theorem isRdr.mv {cs : Nat → ClassId} {ad ad' : Nat → Nat} {g g' : Nat → va_E} {i : Nat} (hA : ∀ j, i ≤ j → j < i + 2 → ad' j = ad j) (hG : ∀ j, i ≤ j → j < i + 2 → g' j = g j) (h : isRdr cs ad g i) : isRdr cs ad' g' i := by
  obtain ⟨h1, h2⟩ := h
  exact ⟨by rw [hG _ (by omega) (by omega), hA _ (by omega) (by omega)]; exact h1, by rw [hG _ (by omega) (by omega)]; exact h2⟩
def isLike (cs : Nat → ClassId) (ad : Nat → Nat) (g : Nat → va_E) (i : Nat) (r : Nat → Int) : Prop := g i = oC 3 [.ref (ad (i + 1))] ∧ g (i + 1) = iA cs 13 r
theorem isLike.mv {cs : Nat → ClassId} {ad ad' : Nat → Nat} {g g' : Nat → va_E} {i : Nat} {r : Nat → Int} (hA : ∀ j, i ≤ j → j < i + 2 → ad' j = ad j) (hG : ∀ j, i ≤ j → j < i + 2 → g' j = g j) (h : isLike cs ad g i r) : isLike cs ad' g' i r := by
  obtain ⟨h1, h2⟩ := h
  exact ⟨by rw [hG _ (by omega) (by omega), hA _ (by omega) (by omega)]; exact h1, by rw [hG _ (by omega) (by omega)]; exact h2⟩
def isBld (cs : Nat → ClassId) (ad : Nat → Nat) (g : Nat → va_E) (i : Nat) : Prop := g i = oC 1 [.ref (ad (i + 1)), .int (zI 0), .int (zI 0), .int (zI 0)] ∧ g (i + 1) = bA cs 16 (fun _ => 0)
theorem isBld.mv {cs : Nat → ClassId} {ad ad' : Nat → Nat} {g g' : Nat → va_E} {i : Nat} (hA : ∀ j, i ≤ j → j < i + 2 → ad' j = ad j) (hG : ∀ j, i ≤ j → j < i + 2 → g' j = g j) (h : isBld cs ad g i) : isBld cs ad' g' i := by
  obtain ⟨h1, h2⟩ := h
  exact ⟨by rw [hG _ (by omega) (by omega), hA _ (by omega) (by omega)]; exact h1, by rw [hG _ (by omega) (by omega)]; exact h2⟩
def isGss (cs : Nat → ClassId) (ad : Nat → Nat) (g : Nat → va_E) (i : Nat) (mn fi : Int) (u : Nat → Int) (q : Nat → Nat → Int) : Prop := g i = oC 2 [.int (zI mn), .int (zI fi), .ref (ad (i + 1)), .ref (ad (i + 2))] ∧ g (i + 1) = iA cs 4 u ∧ (∃ a : Nat → Option Nat, g (i + 2) = rA (cs 6) 4 a ∧ ∀ k, k < 4 → a k = some (ad (i + 3 + k))) ∧ ∀ k, k < 4 → g (i + 3 + k) = iA cs 1200 (q k)
theorem isGss.mv {cs : Nat → ClassId} {ad ad' : Nat → Nat} {g g' : Nat → va_E} {i : Nat} {mn fi : Int} {u : Nat → Int} {q : Nat → Nat → Int} (hA : ∀ j, i ≤ j → j < i + 7 → ad' j = ad j) (hG : ∀ j, i ≤ j → j < i + 7 → g' j = g j) (h : isGss cs ad g i mn fi u q) : isGss cs ad' g' i mn fi u q := by
  obtain ⟨h1, h2, ⟨a, h3, h4⟩, h5⟩ := h
  exact ⟨by rw [hG _ (by omega) (by omega), hA _ (by omega) (by omega), hA _ (by omega) (by omega)]; exact h1, by rw [hG _ (by omega) (by omega)]; exact h2, ⟨a, by rw [hG _ (by omega) (by omega)]; exact h3, fun k hk => by rw [hA _ (by omega) (by omega)]; exact h4 k hk⟩, fun k hk => by rw [hG _ (by omega) (by omega)]; exact h5 k hk⟩

set_option maxRecDepth 100000 in
set_option maxHeartbeats 4000000 in
theorem c_X2_init (l : Launch) (D : va_G) (A : Nat → Prop) (cs : Nat → ClassId) (tt : Nat) (ad : Nat → Nat) (g : Nat → va_E) (i a : Nat) (ha : ad i = a) (hg : g i = oC 4 [.int (zI 0), .null, .null, .null]) : zM l yX2_init cX2_init 1 none ({ frames := 1, cells := 3, slots := 24, locals := 60 } : Room) D A cs tt (i + 1) ad g [.ref a] (rV fun N' ad' g' => N' = i + 4 ∧ (∀ j, j < i + 1 → ad' j = ad j) ∧ (∀ j, j < i + 1 → j ≠ i → g' j = g j) ∧ isNotes cs ad' g' i 0 (fun _ => 0) (fun _ => 0) (fun _ => 0)) := by
  refine z_of (by decide) (Nat.le_of_ble_eq_true rfl) ?_
  intro p e s m below meth c C hr hlk hnm
  refine z_lv (lv' := [(0, .ref a)]) [0] rfl ?_
  refine z_aload_n C 0 dX2_init_0 rfl ?_
  refine z_objInit C q_215 q_35 q_36 dX2_init_1 (Nat.le_of_ble_eq_true rfl) (Nat.le_of_ble_eq_true rfl) ?_
  refine z_aload_n C 0 dX2_init_4 rfl ?_
  refine z_iconst (z := 0) C dX2_init_5 rfl ?_
  refine z_put (fs' := [.int (zI (0)), .null, .null, .null]) C (lt_o (i := i) (c := 0) (d := 1) rfl) ha hg tyX2 tyX2_ok nmX2 rfl inA_X2 0 (by decide) q_216 rfl rfl rfl rfl (Nat.le_of_ble_eq_true rfl) rfl dX2_init_6 (fun g1 eg2 => ?_)
  have hg3 := up_s eg2
  refine z_aload_n C 0 dX2_init_9 rfl ?_
  refine z_bipush (z := 8) C dX2_init_10 (by decide) ?_
  refine z_newI C 8 rfl q_134 (by decide) (by decide) (by decide) dX2_init_12 (fun q4 ad5 g6 ea7 eg8 => ?_)
  have ha9 : zAt ad5 (i + 1) q4 := up_s ea7
  have hg10 := up_s eg8
  have ha11 : zAt ad5 (i) (a) := up_n ea7 ha (ne_o (i := i) (c := 0) (d := 1) rfl)
  have hg12 := up_n eg8 hg3 (ne_o (i := i) (c := 0) (d := 1) rfl)
  refine z_putF (fs' := [.int (zI (0)), .ref q4, .null, .null]) C (lt_o (i := i) (c := 0) (d := 2) rfl) ha11 hg12 tyX2 tyX2_ok nmX2 rfl inA_X2 1 (by decide) q_219 rfl rfl hnm rfl rfl rfl (Nat.le_of_ble_eq_true rfl) rfl dX2_init_14 (fun g13 eg14 => ?_)
  have hg15 := up_s eg14
  refine z_aload_n C 0 dX2_init_17 rfl ?_
  refine z_bipush (z := 8) C dX2_init_18 (by decide) ?_
  refine z_newI C 8 rfl q_134 (by decide) (by decide) (by decide) dX2_init_20 (fun q16 ad17 g18 ea19 eg20 => ?_)
  have ha21 : zAt ad17 (i + 1 + 1) q16 := up_s ea19
  have hg22 := up_s eg20
  have ha23 : zAt ad17 (i) (a) := up_n ea19 ha11 (ne_o (i := i) (c := 0) (d := 2) rfl)
  have hg24 := up_n eg20 hg15 (ne_o (i := i) (c := 0) (d := 2) rfl)
  refine z_putF (fs' := [.int (zI (0)), .ref q4, .ref q16, .null]) C (lt_o (i := i) (c := 0) (d := 3) rfl) ha23 hg24 tyX2 tyX2_ok nmX2 rfl inA_X2 2 (by decide) q_221 rfl rfl hnm rfl rfl rfl (Nat.le_of_ble_eq_true rfl) rfl dX2_init_22 (fun g25 eg26 => ?_)
  have hg27 := up_s eg26
  refine z_aload_n C 0 dX2_init_25 rfl ?_
  refine z_bipush (z := 8) C dX2_init_26 (by decide) ?_
  refine z_newI C 8 rfl q_134 (by decide) (by decide) (by decide) dX2_init_28 (fun q28 ad29 g30 ea31 eg32 => ?_)
  have ha33 : zAt ad29 (i + 1 + 1 + 1) q28 := up_s ea31
  have hg34 := up_s eg32
  have ha35 : zAt ad29 (i) (a) := up_n ea31 ha23 (ne_o (i := i) (c := 0) (d := 3) rfl)
  have hg36 := up_n eg32 hg27 (ne_o (i := i) (c := 0) (d := 3) rfl)
  refine z_putF (fs' := [.int (zI (0)), .ref q4, .ref q16, .ref q28]) C (lt_o (i := i) (c := 0) (d := 4) rfl) ha35 hg36 tyX2 tyX2_ok nmX2 rfl inA_X2 3 (by decide) q_223 rfl rfl hnm rfl rfl rfl (Nat.le_of_ble_eq_true rfl) rfl dX2_init_30 (fun g37 eg38 => ?_)
  have hg39 := up_s eg38
  have ha40 : zAt ad17 (i + 1) (q4) := up_n ea19 ha9 (ne_o (i := i) (c := 1) (d := 2) rfl)
  have ha41 : zAt ad29 (i + 1) (q4) := up_n ea31 ha40 (ne_o (i := i) (c := 1) (d := 3) rfl)
  have ha42 : zAt ad29 (i + 1 + 1) (q16) := up_n ea31 ha21 (ne_o (i := i) (c := 2) (d := 3) rfl)
  have hg43 := up_n eg14 hg10 (ne_o (i := i) (c := 1) (d := 0) rfl)
  have hg44 := up_n eg20 hg43 (ne_o (i := i) (c := 1) (d := 2) rfl)
  have hg45 := up_n eg26 hg44 (ne_o (i := i) (c := 1) (d := 0) rfl)
  have hg46 := up_n eg32 hg45 (ne_o (i := i) (c := 1) (d := 3) rfl)
  have hg47 := up_n eg38 hg46 (ne_o (i := i) (c := 1) (d := 0) rfl)
  have hg48 := up_n eg26 hg22 (ne_o (i := i) (c := 2) (d := 0) rfl)
  have hg49 := up_n eg32 hg48 (ne_o (i := i) (c := 2) (d := 3) rfl)
  have hg50 := up_n eg38 hg49 (ne_o (i := i) (c := 2) (d := 0) rfl)
  have hg51 := up_n eg38 hg34 (ne_o (i := i) (c := 3) (d := 0) rfl)
  exact z_vret C hr hlk dX2_init_33 (by decide) (by decide) (⟨rfl, rfl, fun j h1 => by rw [ea31, va_up_ne _ _ (by omega)]; rw [ea19, va_up_ne _ _ (by omega)]; rw [ea7, va_up_ne _ _ (by omega)], fun j h1 h2 => by rw [eg38, va_up_ne _ _ (by omega)]; rw [eg32, va_up_ne _ _ (by omega)]; rw [eg26, va_up_ne _ _ (by omega)]; rw [eg20, va_up_ne _ _ (by omega)]; rw [eg14, va_up_ne _ _ (by omega)]; rw [eg8, va_up_ne _ _ (by omega)]; rw [eg2, va_up_ne _ _ (by omega)], by rw [← (show ad29 (i + 1) = q4 from ha41), ← (show ad29 (i + 1 + 1) = q16 from ha42), ← (show ad29 (i + 1 + 1 + 1) = q28 from ha33)] at hg39; exact hg39, hg47, hg50, hg51⟩)

set_option maxRecDepth 100000 in
set_option maxHeartbeats 4000000 in
theorem c_X1_init (l : Launch) (D : va_G) (A : Nat → Prop) (cs : Nat → ClassId) (tt : Nat) (ad : Nat → Nat) (g : Nat → va_E) (i a : Nat) (ha : ad i = a) (hg : g i = oC 3 [.null]) : zM l yX1_init cX1_init 1 none ({ frames := 1, cells := 1, slots := 13, locals := 60 } : Room) D A cs tt (i + 1) ad g [.ref a] (rV fun N' ad' g' => N' = i + 2 ∧ (∀ j, j < i + 1 → ad' j = ad j) ∧ (∀ j, j < i + 1 → j ≠ i → g' j = g j) ∧ isLike cs ad' g' i (fun _ => 0)) := by
  refine z_of (by decide) (Nat.le_of_ble_eq_true rfl) ?_
  intro p e s m below meth c C hr hlk hnm
  refine z_lv (lv' := [(0, .ref a)]) [0] rfl ?_
  refine z_aload_n C 0 dX1_init_0 rfl ?_
  refine z_objInit C q_312 q_35 q_36 dX1_init_1 (Nat.le_of_ble_eq_true rfl) (Nat.le_of_ble_eq_true rfl) ?_
  refine z_aload_n C 0 dX1_init_4 rfl ?_
  refine z_bipush (z := 13) C dX1_init_5 (by decide) ?_
  refine z_newI C 13 rfl q_134 (by decide) (by decide) (by decide) dX1_init_7 (fun q1 ad2 g3 ea4 eg5 => ?_)
  have ha6 : zAt ad2 (i + 1) q1 := up_s ea4
  have hg7 := up_s eg5
  have ha8 : zAt ad2 (i) (a) := up_n ea4 ha (ne_o (i := i) (c := 0) (d := 1) rfl)
  have hg9 := up_n eg5 hg (ne_o (i := i) (c := 0) (d := 1) rfl)
  refine z_putF (fs' := [.ref q1]) C (lt_o (i := i) (c := 0) (d := 2) rfl) ha8 hg9 tyX1 tyX1_ok nmX1 rfl inA_X1 0 (by decide) q_313 rfl rfl hnm rfl rfl rfl (Nat.le_of_ble_eq_true rfl) rfl dX1_init_9 (fun g10 eg11 => ?_)
  have hg12 := up_s eg11
  have hg13 := up_n eg11 hg7 (ne_o (i := i) (c := 1) (d := 0) rfl)
  exact z_vret C hr hlk dX1_init_12 (by decide) (by decide) (⟨rfl, rfl, fun j h1 => by rw [ea4, va_up_ne _ _ (by omega)], fun j h1 h2 => by rw [eg11, va_up_ne _ _ (by omega)]; rw [eg5, va_up_ne _ _ (by omega)], by rw [← (show ad2 (i + 1) = q1 from ha6)] at hg12; exact hg12, hg13⟩)

set_option maxRecDepth 100000 in
set_option maxHeartbeats 4000000 in
theorem c_X7_init (l : Launch) (D : va_G) (A : Nat → Prop) (cs : Nat → ClassId) (tt : Nat) (ad : Nat → Nat) (g : Nat → va_E) (i a : Nat) (ha : ad i = a) (hg : g i = oC 9 [.int (zI 0), .int (zI 0), .null, .int (zI 0), .int (zI 0), .int (zI 0), .int (zI 0), .int (zI 0), .int (zI 0)]) : zM l yX7_init cX7_init 1 none ({ frames := 1, cells := 1, slots := 0, locals := 60 } : Room) D A cs tt (i + 1) ad g [.ref a] (rV fun N' ad' g' => N' = i + 2 ∧ (∀ j, j < i + 1 → ad' j = ad j) ∧ (∀ j, j < i + 1 → j ≠ i → g' j = g j) ∧ isRdr cs ad' g' i) := by
  refine z_of (by decide) (Nat.le_of_ble_eq_true rfl) ?_
  intro p e s m below meth c C hr hlk hnm
  refine z_lv (lv' := [(0, .ref a)]) [0] rfl ?_
  refine z_aload_n C 0 dX7_init_0 rfl ?_
  refine z_objInit C q_42 q_35 q_36 dX7_init_1 (Nat.le_of_ble_eq_true rfl) (Nat.le_of_ble_eq_true rfl) ?_
  refine z_aload_n C 0 dX7_init_4 rfl ?_
  refine z_iconst (z := -1) C dX7_init_5 rfl ?_
  refine z_put (fs' := [.int (zI (-1)), .int (zI (0)), .null, .int (zI (0)), .int (zI (0)), .int (zI (0)), .int (zI (0)), .int (zI (0)), .int (zI (0))]) C (lt_o (i := i) (c := 0) (d := 1) rfl) ha hg tyX7 tyX7_ok nmX7 rfl inA_X7 0 (by decide) q_43 rfl rfl rfl rfl (Nat.le_of_ble_eq_true rfl) rfl dX7_init_6 (fun g1 eg2 => ?_)
  have hg3 := up_s eg2
  refine z_aload_n C 0 dX7_init_9 rfl ?_
  refine z_iconst (z := 0) C dX7_init_10 rfl ?_
  refine z_put (fs' := [.int (zI (-1)), .int (zI (0)), .null, .int (zI (0)), .int (zI (0)), .int (zI (0)), .int (zI (0)), .int (zI (0)), .int (zI (0))]) C (lt_o (i := i) (c := 0) (d := 1) rfl) ha hg3 tyX7 tyX7_ok nmX7 rfl inA_X7 1 (by decide) q_45 rfl rfl rfl rfl (Nat.le_of_ble_eq_true rfl) rfl dX7_init_11 (fun g4 eg5 => ?_)
  have hg6 := up_s eg5
  refine z_aload_n C 0 dX7_init_14 rfl ?_
  refine z_iconst (z := 0) C dX7_init_15 rfl ?_
  refine z_newB C 0 rfl q_72 (by decide) (by decide) (by decide) dX7_init_16 (fun q7 ad8 g9 ea10 eg11 => ?_)
  have ha12 : zAt ad8 (i + 1) q7 := up_s ea10
  have hg13 := up_s eg11
  have ha14 : zAt ad8 (i) (a) := up_n ea10 ha (ne_o (i := i) (c := 0) (d := 1) rfl)
  have hg15 := up_n eg11 hg6 (ne_o (i := i) (c := 0) (d := 1) rfl)
  refine z_put (fs' := [.int (zI (-1)), .int (zI (0)), .ref q7, .int (zI (0)), .int (zI (0)), .int (zI (0)), .int (zI (0)), .int (zI (0)), .int (zI (0))]) C (lt_o (i := i) (c := 0) (d := 2) rfl) ha14 hg15 tyX7 tyX7_ok nmX7 rfl inA_X7 2 (by decide) q_46 rfl rfl rfl rfl (Nat.le_of_ble_eq_true rfl) rfl dX7_init_18 (fun g16 eg17 => ?_)
  have hg18 := up_s eg17
  refine z_aload_n C 0 dX7_init_21 rfl ?_
  refine z_iconst (z := 0) C dX7_init_22 rfl ?_
  refine z_put (fs' := [.int (zI (-1)), .int (zI (0)), .ref q7, .int (zI (0)), .int (zI (0)), .int (zI (0)), .int (zI (0)), .int (zI (0)), .int (zI (0))]) C (lt_o (i := i) (c := 0) (d := 2) rfl) ha14 hg18 tyX7 tyX7_ok nmX7 rfl inA_X7 3 (by decide) q_47 rfl rfl rfl rfl (Nat.le_of_ble_eq_true rfl) rfl dX7_init_23 (fun g19 eg20 => ?_)
  have hg21 := up_s eg20
  refine z_aload_n C 0 dX7_init_26 rfl ?_
  refine z_iconst (z := 0) C dX7_init_27 rfl ?_
  refine z_put (fs' := [.int (zI (-1)), .int (zI (0)), .ref q7, .int (zI (0)), .int (zI (0)), .int (zI (0)), .int (zI (0)), .int (zI (0)), .int (zI (0))]) C (lt_o (i := i) (c := 0) (d := 2) rfl) ha14 hg21 tyX7 tyX7_ok nmX7 rfl inA_X7 4 (by decide) q_48 rfl rfl rfl rfl (Nat.le_of_ble_eq_true rfl) rfl dX7_init_28 (fun g22 eg23 => ?_)
  have hg24 := up_s eg23
  refine z_aload_n C 0 dX7_init_31 rfl ?_
  refine z_iconst (z := 0) C dX7_init_32 rfl ?_
  refine z_put (fs' := [.int (zI (-1)), .int (zI (0)), .ref q7, .int (zI (0)), .int (zI (0)), .int (zI (0)), .int (zI (0)), .int (zI (0)), .int (zI (0))]) C (lt_o (i := i) (c := 0) (d := 2) rfl) ha14 hg24 tyX7 tyX7_ok nmX7 rfl inA_X7 5 (by decide) q_49 rfl rfl rfl rfl (Nat.le_of_ble_eq_true rfl) rfl dX7_init_33 (fun g25 eg26 => ?_)
  have hg27 := up_s eg26
  refine z_aload_n C 0 dX7_init_36 rfl ?_
  refine z_iconst (z := 0) C dX7_init_37 rfl ?_
  refine z_put (fs' := [.int (zI (-1)), .int (zI (0)), .ref q7, .int (zI (0)), .int (zI (0)), .int (zI (0)), .int (zI (0)), .int (zI (0)), .int (zI (0))]) C (lt_o (i := i) (c := 0) (d := 2) rfl) ha14 hg27 tyX7 tyX7_ok nmX7 rfl inA_X7 6 (by decide) q_50 rfl rfl rfl rfl (Nat.le_of_ble_eq_true rfl) rfl dX7_init_38 (fun g28 eg29 => ?_)
  have hg30 := up_s eg29
  refine z_aload_n C 0 dX7_init_41 rfl ?_
  refine z_iconst (z := 0) C dX7_init_42 rfl ?_
  refine z_put (fs' := [.int (zI (-1)), .int (zI (0)), .ref q7, .int (zI (0)), .int (zI (0)), .int (zI (0)), .int (zI (0)), .int (zI (0)), .int (zI (0))]) C (lt_o (i := i) (c := 0) (d := 2) rfl) ha14 hg30 tyX7 tyX7_ok nmX7 rfl inA_X7 7 (by decide) q_51 rfl rfl rfl rfl (Nat.le_of_ble_eq_true rfl) rfl dX7_init_43 (fun g31 eg32 => ?_)
  have hg33 := up_s eg32
  refine z_aload_n C 0 dX7_init_46 rfl ?_
  refine z_iconst (z := 0) C dX7_init_47 rfl ?_
  refine z_put (fs' := [.int (zI (-1)), .int (zI (0)), .ref q7, .int (zI (0)), .int (zI (0)), .int (zI (0)), .int (zI (0)), .int (zI (0)), .int (zI (0))]) C (lt_o (i := i) (c := 0) (d := 2) rfl) ha14 hg33 tyX7 tyX7_ok nmX7 rfl inA_X7 8 (by decide) q_52 rfl rfl rfl rfl (Nat.le_of_ble_eq_true rfl) rfl dX7_init_48 (fun g34 eg35 => ?_)
  have hg36 := up_s eg35
  have hg37 := up_n eg17 hg13 (ne_o (i := i) (c := 1) (d := 0) rfl)
  have hg38 := up_n eg20 hg37 (ne_o (i := i) (c := 1) (d := 0) rfl)
  have hg39 := up_n eg23 hg38 (ne_o (i := i) (c := 1) (d := 0) rfl)
  have hg40 := up_n eg26 hg39 (ne_o (i := i) (c := 1) (d := 0) rfl)
  have hg41 := up_n eg29 hg40 (ne_o (i := i) (c := 1) (d := 0) rfl)
  have hg42 := up_n eg32 hg41 (ne_o (i := i) (c := 1) (d := 0) rfl)
  have hg43 := up_n eg35 hg42 (ne_o (i := i) (c := 1) (d := 0) rfl)
  exact z_vret C hr hlk dX7_init_51 (by decide) (by decide) (⟨rfl, rfl, fun j h1 => by rw [ea10, va_up_ne _ _ (by omega)], fun j h1 h2 => by rw [eg35, va_up_ne _ _ (by omega)]; rw [eg32, va_up_ne _ _ (by omega)]; rw [eg29, va_up_ne _ _ (by omega)]; rw [eg26, va_up_ne _ _ (by omega)]; rw [eg23, va_up_ne _ _ (by omega)]; rw [eg20, va_up_ne _ _ (by omega)]; rw [eg17, va_up_ne _ _ (by omega)]; rw [eg11, va_up_ne _ _ (by omega)]; rw [eg5, va_up_ne _ _ (by omega)]; rw [eg2, va_up_ne _ _ (by omega)], by rw [← (show ad8 (i + 1) = q7 from ha12)] at hg36; exact hg36, hg43⟩)

set_option maxRecDepth 100000 in
set_option maxHeartbeats 4000000 in
theorem c_X4_init (l : Launch) (D : va_G) (A : Nat → Prop) (cs : Nat → ClassId) (tt : Nat) (ad : Nat → Nat) (g : Nat → va_E) (i a : Nat) (ha : ad i = a) (hg : g i = oC 6 [.int (zI 0), .int (zI 0), .null]) : zM l yX4_init cX4_init 1 none ({ frames := 2, cells := 2, slots := 87, locals := 120 } : Room) D A cs tt (i + 1) ad g [.ref a] (rV fun N' ad' g' => N' = i + 3 ∧ (∀ j, j < i + 1 → ad' j = ad j) ∧ (∀ j, j < i + 1 → j ≠ i → g' j = g j) ∧ isPit cs ad' g' i 0 0 0 0 (fun _ => 0)) := by
  refine z_of (by decide) (Nat.le_of_ble_eq_true rfl) ?_
  intro p e s m below meth c C hr hlk hnm
  refine z_lv (lv' := [(0, .ref a)]) [0] rfl ?_
  refine z_aload_n C 0 dX4_init_0 rfl ?_
  refine z_objInit C q_238 q_35 q_36 dX4_init_1 (Nat.le_of_ble_eq_true rfl) (Nat.le_of_ble_eq_true rfl) ?_
  refine z_aload_n C 0 dX4_init_4 rfl ?_
  refine z_iconst (z := 0) C dX4_init_5 rfl ?_
  refine z_put (fs' := [.int (zI (0)), .int (zI (0)), .null]) C (lt_o (i := i) (c := 0) (d := 1) rfl) ha hg tyX4 tyX4_ok nmX4 rfl inA_X4 0 (by decide) q_241 rfl rfl rfl rfl (Nat.le_of_ble_eq_true rfl) rfl dX4_init_6 (fun g1 eg2 => ?_)
  have hg3 := up_s eg2
  refine z_aload_n C 0 dX4_init_9 rfl ?_
  refine z_iconst (z := 0) C dX4_init_10 rfl ?_
  refine z_put (fs' := [.int (zI (0)), .int (zI (0)), .null]) C (lt_o (i := i) (c := 0) (d := 1) rfl) ha hg3 tyX4 tyX4_ok nmX4 rfl inA_X4 1 (by decide) q_244 rfl rfl rfl rfl (Nat.le_of_ble_eq_true rfl) rfl dX4_init_11 (fun g4 eg5 => ?_)
  have hg6 := up_s eg5
  refine z_aload_n C 0 dX4_init_14 rfl ?_
  refine z_new (fs := [.int (zI (0)), .int (zI (0)), .null]) (ci := 5) C tyX3 tyX3_ok rfl inA_X3 q_239 q_149 q_6 (fun j hj => by rcases (show j = 0 ∨ j = 1 ∨ j = 2 by omega) with rfl | rfl | rfl <;> rfl) (by decide) (by decide) dX4_init_15 (fun q7 ad8 g9 ea10 eg11 => ?_)
  have ha12 : zAt ad8 (i + 1) q7 := up_s ea10
  have hg13 := up_s eg11
  refine z_dup C dX4_init_18 rfl ?_
  refine z_cIN (As := []) (rest := [.ref q7, .ref a]) C (c_X3_init l D A cs tt _ _ _ (i + 1) q7 (lt_o (i := i) (c := 1) (d := 2) rfl) ha12 hg13) mi_yX3_init n_240 rfl (by decide +kernel) (by decide) (Nat.le_of_ble_eq_true rfl) (by decide) dX4_init_19 rfl (kV fun M18 ad19 g20 hq21 => ?_)
  obtain ⟨rfl, hA14, hG15, hg16, hg17⟩ := hq21
  have ha22 : zAt ad19 (i + 1 + 1) (ad19 (i + 1 + 1)) := rfl
  have ha23 : zAt ad8 (i) (a) := up_n ea10 ha (ne_o (i := i) (c := 0) (d := 1) rfl)
  have ha24 : zAt ad19 (i) (a) := (hA14 (i) (lt_o (i := i) (c := 0) (d := 2) rfl)).trans ha23
  have hg25 := up_n eg11 hg6 (ne_o (i := i) (c := 0) (d := 1) rfl)
  have hg26 := (hG15 (i) (lt_o (i := i) (c := 0) (d := 2) rfl) (ne_o (i := i) (c := 0) (d := 1) rfl)).trans hg25
  refine z_putF (fs' := [.int (zI (0)), .int (zI (0)), .ref q7]) C (lt_o (i := i) (c := 0) (d := 3) rfl) ha24 hg26 tyX4 tyX4_ok nmX4 rfl inA_X4 2 (by decide) q_247 rfl rfl hnm rfl rfl rfl (Nat.le_of_ble_eq_true rfl) rfl dX4_init_22 (fun g27 eg28 => ?_)
  have hg29 := up_s eg28
  have ha30 : zAt ad19 (i + 1) (q7) := (hA14 (i + 1) (lt_o (i := i) (c := 1) (d := 2) rfl)).trans ha12
  have hg31 := up_n eg28 hg16 (ne_o (i := i) (c := 1) (d := 0) rfl)
  have hg32 := up_n eg28 hg17 (ne_o (i := i) (c := 2) (d := 0) rfl)
  exact z_vret C hr hlk dX4_init_25 (by decide) (by decide) (⟨rfl, rfl, fun j h1 => by rw [hA14 _ (by omega)]; rw [ea10, va_up_ne _ _ (by omega)], fun j h1 h2 => by rw [eg28, va_up_ne _ _ (by omega)]; rw [hG15 _ (by omega) (by omega)]; rw [eg11, va_up_ne _ _ (by omega)]; rw [eg5, va_up_ne _ _ (by omega)]; rw [eg2, va_up_ne _ _ (by omega)], by rw [← (show ad19 (i + 1) = q7 from ha30)] at hg29; exact hg29, by rw [← (show ad19 (i + 1 + 1) = ad19 (i + 1 + 1) from ha22)] at hg31; exact hg31, hg32⟩)

set_option maxRecDepth 100000 in
set_option maxHeartbeats 4000000 in
theorem c_X5_init (l : Launch) (D : va_G) (A : Nat → Prop) (cs : Nat → ClassId) (tt : Nat) (ad : Nat → Nat) (g : Nat → va_E) (i a : Nat) (ha : ad i = a) (hg : g i = oC 7 [.int (zI 0), .int (zI 0), .int (zI 0), .null, .null, .null, .null, .null, .null]) : zM l yX5_init cX5_init 1 none ({ frames := 1, cells := 6, slots := 95, locals := 60 } : Room) D A cs tt (i + 1) ad g [.ref a] (rV fun N' ad' g' => N' = i + 7 ∧ (∀ j, j < i + 1 → ad' j = ad j) ∧ (∀ j, j < i + 1 → j ≠ i → g' j = g j) ∧ isPlan cs ad' g' i 0 0 0 (fun _ => 0) (fun _ => 0) (fun _ => 0) (fun _ => 0) (fun _ => 0) tabZ) := by
  refine z_of (by decide) (Nat.le_of_ble_eq_true rfl) ?_
  intro p e s m below meth c C hr hlk hnm
  refine z_lv (lv' := [(0, .ref a)]) [0] rfl ?_
  refine z_aload_n C 0 dX5_init_0 rfl ?_
  refine z_objInit C q_78 q_35 q_36 dX5_init_1 (Nat.le_of_ble_eq_true rfl) (Nat.le_of_ble_eq_true rfl) ?_
  refine z_aload_n C 0 dX5_init_4 rfl ?_
  refine z_iconst (z := 0) C dX5_init_5 rfl ?_
  refine z_put (fs' := [.int (zI (0)), .int (zI (0)), .int (zI (0)), .null, .null, .null, .null, .null, .null]) C (lt_o (i := i) (c := 0) (d := 1) rfl) ha hg tyX5 tyX5_ok nmX5 rfl inA_X5 0 (by decide) q_88 rfl rfl rfl rfl (Nat.le_of_ble_eq_true rfl) rfl dX5_init_6 (fun g1 eg2 => ?_)
  have hg3 := up_s eg2
  refine z_aload_n C 0 dX5_init_9 rfl ?_
  refine z_iconst (z := 0) C dX5_init_10 rfl ?_
  refine z_put (fs' := [.int (zI (0)), .int (zI (0)), .int (zI (0)), .null, .null, .null, .null, .null, .null]) C (lt_o (i := i) (c := 0) (d := 1) rfl) ha hg3 tyX5 tyX5_ok nmX5 rfl inA_X5 1 (by decide) q_92 rfl rfl rfl rfl (Nat.le_of_ble_eq_true rfl) rfl dX5_init_11 (fun g4 eg5 => ?_)
  have hg6 := up_s eg5
  refine z_aload_n C 0 dX5_init_14 rfl ?_
  refine z_iconst (z := 0) C dX5_init_15 rfl ?_
  refine z_put (fs' := [.int (zI (0)), .int (zI (0)), .int (zI (0)), .null, .null, .null, .null, .null, .null]) C (lt_o (i := i) (c := 0) (d := 1) rfl) ha hg6 tyX5 tyX5_ok nmX5 rfl inA_X5 2 (by decide) q_95 rfl rfl rfl rfl (Nat.le_of_ble_eq_true rfl) rfl dX5_init_16 (fun g7 eg8 => ?_)
  have hg9 := up_s eg8
  refine z_aload_n C 0 dX5_init_19 rfl ?_
  refine z_iconst (z := 4) C dX5_init_20 rfl ?_
  refine z_newI C 4 rfl q_134 (by decide) (by decide) (by decide) dX5_init_21 (fun q10 ad11 g12 ea13 eg14 => ?_)
  have ha15 : zAt ad11 (i + 1) q10 := up_s ea13
  have hg16 := up_s eg14
  have ha17 : zAt ad11 (i) (a) := up_n ea13 ha (ne_o (i := i) (c := 0) (d := 1) rfl)
  have hg18 := up_n eg14 hg9 (ne_o (i := i) (c := 0) (d := 1) rfl)
  refine z_putF (fs' := [.int (zI (0)), .int (zI (0)), .int (zI (0)), .ref q10, .null, .null, .null, .null, .null]) C (lt_o (i := i) (c := 0) (d := 2) rfl) ha17 hg18 tyX5 tyX5_ok nmX5 rfl inA_X5 3 (by decide) q_96 rfl rfl hnm rfl rfl rfl (Nat.le_of_ble_eq_true rfl) rfl dX5_init_23 (fun g19 eg20 => ?_)
  have hg21 := up_s eg20
  refine z_aload_n C 0 dX5_init_26 rfl ?_
  refine z_iconst (z := 4) C dX5_init_27 rfl ?_
  refine z_newI C 4 rfl q_134 (by decide) (by decide) (by decide) dX5_init_28 (fun q22 ad23 g24 ea25 eg26 => ?_)
  have ha27 : zAt ad23 (i + 1 + 1) q22 := up_s ea25
  have hg28 := up_s eg26
  have ha29 : zAt ad23 (i) (a) := up_n ea25 ha17 (ne_o (i := i) (c := 0) (d := 2) rfl)
  have hg30 := up_n eg26 hg21 (ne_o (i := i) (c := 0) (d := 2) rfl)
  refine z_putF (fs' := [.int (zI (0)), .int (zI (0)), .int (zI (0)), .ref q10, .ref q22, .null, .null, .null, .null]) C (lt_o (i := i) (c := 0) (d := 3) rfl) ha29 hg30 tyX5 tyX5_ok nmX5 rfl inA_X5 4 (by decide) q_100 rfl rfl hnm rfl rfl rfl (Nat.le_of_ble_eq_true rfl) rfl dX5_init_30 (fun g31 eg32 => ?_)
  have hg33 := up_s eg32
  refine z_aload_n C 0 dX5_init_33 rfl ?_
  refine z_bipush (z := 24) C dX5_init_34 (by decide) ?_
  refine z_newI C 24 rfl q_134 (by decide) (by decide) (by decide) dX5_init_36 (fun q34 ad35 g36 ea37 eg38 => ?_)
  have ha39 : zAt ad35 (i + 1 + 1 + 1) q34 := up_s ea37
  have hg40 := up_s eg38
  have ha41 : zAt ad35 (i) (a) := up_n ea37 ha29 (ne_o (i := i) (c := 0) (d := 3) rfl)
  have hg42 := up_n eg38 hg33 (ne_o (i := i) (c := 0) (d := 3) rfl)
  refine z_putF (fs' := [.int (zI (0)), .int (zI (0)), .int (zI (0)), .ref q10, .ref q22, .ref q34, .null, .null, .null]) C (lt_o (i := i) (c := 0) (d := 4) rfl) ha41 hg42 tyX5 tyX5_ok nmX5 rfl inA_X5 5 (by decide) q_104 rfl rfl hnm rfl rfl rfl (Nat.le_of_ble_eq_true rfl) rfl dX5_init_38 (fun g43 eg44 => ?_)
  have hg45 := up_s eg44
  refine z_aload_n C 0 dX5_init_41 rfl ?_
  refine z_bipush (z := 24) C dX5_init_42 (by decide) ?_
  refine z_newI C 24 rfl q_134 (by decide) (by decide) (by decide) dX5_init_44 (fun q46 ad47 g48 ea49 eg50 => ?_)
  have ha51 : zAt ad47 (i + 1 + 1 + 1 + 1) q46 := up_s ea49
  have hg52 := up_s eg50
  have ha53 : zAt ad47 (i) (a) := up_n ea49 ha41 (ne_o (i := i) (c := 0) (d := 4) rfl)
  have hg54 := up_n eg50 hg45 (ne_o (i := i) (c := 0) (d := 4) rfl)
  refine z_putF (fs' := [.int (zI (0)), .int (zI (0)), .int (zI (0)), .ref q10, .ref q22, .ref q34, .ref q46, .null, .null]) C (lt_o (i := i) (c := 0) (d := 5) rfl) ha53 hg54 tyX5 tyX5_ok nmX5 rfl inA_X5 6 (by decide) q_107 rfl rfl hnm rfl rfl rfl (Nat.le_of_ble_eq_true rfl) rfl dX5_init_46 (fun g55 eg56 => ?_)
  have hg57 := up_s eg56
  refine z_aload_n C 0 dX5_init_49 rfl ?_
  refine z_bipush (z := 24) C dX5_init_50 (by decide) ?_
  refine z_newI C 24 rfl q_134 (by decide) (by decide) (by decide) dX5_init_52 (fun q58 ad59 g60 ea61 eg62 => ?_)
  have ha63 : zAt ad59 (i + 1 + 1 + 1 + 1 + 1) q58 := up_s ea61
  have hg64 := up_s eg62
  have ha65 : zAt ad59 (i) (a) := up_n ea61 ha53 (ne_o (i := i) (c := 0) (d := 5) rfl)
  have hg66 := up_n eg62 hg57 (ne_o (i := i) (c := 0) (d := 5) rfl)
  refine z_putF (fs' := [.int (zI (0)), .int (zI (0)), .int (zI (0)), .ref q10, .ref q22, .ref q34, .ref q46, .ref q58, .null]) C (lt_o (i := i) (c := 0) (d := 6) rfl) ha65 hg66 tyX5 tyX5_ok nmX5 rfl inA_X5 7 (by decide) q_110 rfl rfl hnm rfl rfl rfl (Nat.le_of_ble_eq_true rfl) rfl dX5_init_54 (fun g67 eg68 => ?_)
  have hg69 := up_s eg68
  refine z_aload_n C 0 dX5_init_57 rfl ?_
  refine z_getT C n_79 dX5_init_58 ?_
  refine z_cloneT C q_81 q_82 q_83 q_84 q_85 n_86 (by decide) (Nat.le_of_ble_eq_true rfl) (by decide) (by decide) dX5_init_61 (fun q70 ad71 g72 ea73 eg74 => ?_)
  have ha75 : zAt ad71 (i + 1 + 1 + 1 + 1 + 1 + 1) q70 := up_s ea73
  have hg76 := up_s eg74
  refine z_castI C (by omega) ha75 hg76 q_87 dX5_init_64 ?_
  have ha77 : zAt ad71 (i) (a) := up_n ea73 ha65 (ne_o (i := i) (c := 0) (d := 6) rfl)
  have hg78 := up_n eg74 hg69 (ne_o (i := i) (c := 0) (d := 6) rfl)
  refine z_putF (fs' := [.int (zI (0)), .int (zI (0)), .int (zI (0)), .ref q10, .ref q22, .ref q34, .ref q46, .ref q58, .ref q70]) C (lt_o (i := i) (c := 0) (d := 7) rfl) ha77 hg78 tyX5 tyX5_ok nmX5 rfl inA_X5 8 (by decide) q_113 rfl rfl hnm rfl rfl rfl (Nat.le_of_ble_eq_true rfl) rfl dX5_init_67 (fun g79 eg80 => ?_)
  have hg81 := up_s eg80
  have ha82 : zAt ad23 (i + 1) (q10) := up_n ea25 ha15 (ne_o (i := i) (c := 1) (d := 2) rfl)
  have ha83 : zAt ad35 (i + 1) (q10) := up_n ea37 ha82 (ne_o (i := i) (c := 1) (d := 3) rfl)
  have ha84 : zAt ad47 (i + 1) (q10) := up_n ea49 ha83 (ne_o (i := i) (c := 1) (d := 4) rfl)
  have ha85 : zAt ad59 (i + 1) (q10) := up_n ea61 ha84 (ne_o (i := i) (c := 1) (d := 5) rfl)
  have ha86 : zAt ad71 (i + 1) (q10) := up_n ea73 ha85 (ne_o (i := i) (c := 1) (d := 6) rfl)
  have ha87 : zAt ad35 (i + 1 + 1) (q22) := up_n ea37 ha27 (ne_o (i := i) (c := 2) (d := 3) rfl)
  have ha88 : zAt ad47 (i + 1 + 1) (q22) := up_n ea49 ha87 (ne_o (i := i) (c := 2) (d := 4) rfl)
  have ha89 : zAt ad59 (i + 1 + 1) (q22) := up_n ea61 ha88 (ne_o (i := i) (c := 2) (d := 5) rfl)
  have ha90 : zAt ad71 (i + 1 + 1) (q22) := up_n ea73 ha89 (ne_o (i := i) (c := 2) (d := 6) rfl)
  have ha91 : zAt ad47 (i + 1 + 1 + 1) (q34) := up_n ea49 ha39 (ne_o (i := i) (c := 3) (d := 4) rfl)
  have ha92 : zAt ad59 (i + 1 + 1 + 1) (q34) := up_n ea61 ha91 (ne_o (i := i) (c := 3) (d := 5) rfl)
  have ha93 : zAt ad71 (i + 1 + 1 + 1) (q34) := up_n ea73 ha92 (ne_o (i := i) (c := 3) (d := 6) rfl)
  have ha94 : zAt ad59 (i + 1 + 1 + 1 + 1) (q46) := up_n ea61 ha51 (ne_o (i := i) (c := 4) (d := 5) rfl)
  have ha95 : zAt ad71 (i + 1 + 1 + 1 + 1) (q46) := up_n ea73 ha94 (ne_o (i := i) (c := 4) (d := 6) rfl)
  have ha96 : zAt ad71 (i + 1 + 1 + 1 + 1 + 1) (q58) := up_n ea73 ha63 (ne_o (i := i) (c := 5) (d := 6) rfl)
  have hg97 := up_n eg20 hg16 (ne_o (i := i) (c := 1) (d := 0) rfl)
  have hg98 := up_n eg26 hg97 (ne_o (i := i) (c := 1) (d := 2) rfl)
  have hg99 := up_n eg32 hg98 (ne_o (i := i) (c := 1) (d := 0) rfl)
  have hg100 := up_n eg38 hg99 (ne_o (i := i) (c := 1) (d := 3) rfl)
  have hg101 := up_n eg44 hg100 (ne_o (i := i) (c := 1) (d := 0) rfl)
  have hg102 := up_n eg50 hg101 (ne_o (i := i) (c := 1) (d := 4) rfl)
  have hg103 := up_n eg56 hg102 (ne_o (i := i) (c := 1) (d := 0) rfl)
  have hg104 := up_n eg62 hg103 (ne_o (i := i) (c := 1) (d := 5) rfl)
  have hg105 := up_n eg68 hg104 (ne_o (i := i) (c := 1) (d := 0) rfl)
  have hg106 := up_n eg74 hg105 (ne_o (i := i) (c := 1) (d := 6) rfl)
  have hg107 := up_n eg80 hg106 (ne_o (i := i) (c := 1) (d := 0) rfl)
  have hg108 := up_n eg32 hg28 (ne_o (i := i) (c := 2) (d := 0) rfl)
  have hg109 := up_n eg38 hg108 (ne_o (i := i) (c := 2) (d := 3) rfl)
  have hg110 := up_n eg44 hg109 (ne_o (i := i) (c := 2) (d := 0) rfl)
  have hg111 := up_n eg50 hg110 (ne_o (i := i) (c := 2) (d := 4) rfl)
  have hg112 := up_n eg56 hg111 (ne_o (i := i) (c := 2) (d := 0) rfl)
  have hg113 := up_n eg62 hg112 (ne_o (i := i) (c := 2) (d := 5) rfl)
  have hg114 := up_n eg68 hg113 (ne_o (i := i) (c := 2) (d := 0) rfl)
  have hg115 := up_n eg74 hg114 (ne_o (i := i) (c := 2) (d := 6) rfl)
  have hg116 := up_n eg80 hg115 (ne_o (i := i) (c := 2) (d := 0) rfl)
  have hg117 := up_n eg44 hg40 (ne_o (i := i) (c := 3) (d := 0) rfl)
  have hg118 := up_n eg50 hg117 (ne_o (i := i) (c := 3) (d := 4) rfl)
  have hg119 := up_n eg56 hg118 (ne_o (i := i) (c := 3) (d := 0) rfl)
  have hg120 := up_n eg62 hg119 (ne_o (i := i) (c := 3) (d := 5) rfl)
  have hg121 := up_n eg68 hg120 (ne_o (i := i) (c := 3) (d := 0) rfl)
  have hg122 := up_n eg74 hg121 (ne_o (i := i) (c := 3) (d := 6) rfl)
  have hg123 := up_n eg80 hg122 (ne_o (i := i) (c := 3) (d := 0) rfl)
  have hg124 := up_n eg56 hg52 (ne_o (i := i) (c := 4) (d := 0) rfl)
  have hg125 := up_n eg62 hg124 (ne_o (i := i) (c := 4) (d := 5) rfl)
  have hg126 := up_n eg68 hg125 (ne_o (i := i) (c := 4) (d := 0) rfl)
  have hg127 := up_n eg74 hg126 (ne_o (i := i) (c := 4) (d := 6) rfl)
  have hg128 := up_n eg80 hg127 (ne_o (i := i) (c := 4) (d := 0) rfl)
  have hg129 := up_n eg68 hg64 (ne_o (i := i) (c := 5) (d := 0) rfl)
  have hg130 := up_n eg74 hg129 (ne_o (i := i) (c := 5) (d := 6) rfl)
  have hg131 := up_n eg80 hg130 (ne_o (i := i) (c := 5) (d := 0) rfl)
  have hg132 := up_n eg80 hg76 (ne_o (i := i) (c := 6) (d := 0) rfl)
  exact z_vret C hr hlk dX5_init_70 (by decide) (by decide) (⟨rfl, rfl, fun j h1 => by rw [ea73, va_up_ne _ _ (by omega)]; rw [ea61, va_up_ne _ _ (by omega)]; rw [ea49, va_up_ne _ _ (by omega)]; rw [ea37, va_up_ne _ _ (by omega)]; rw [ea25, va_up_ne _ _ (by omega)]; rw [ea13, va_up_ne _ _ (by omega)], fun j h1 h2 => by rw [eg80, va_up_ne _ _ (by omega)]; rw [eg74, va_up_ne _ _ (by omega)]; rw [eg68, va_up_ne _ _ (by omega)]; rw [eg62, va_up_ne _ _ (by omega)]; rw [eg56, va_up_ne _ _ (by omega)]; rw [eg50, va_up_ne _ _ (by omega)]; rw [eg44, va_up_ne _ _ (by omega)]; rw [eg38, va_up_ne _ _ (by omega)]; rw [eg32, va_up_ne _ _ (by omega)]; rw [eg26, va_up_ne _ _ (by omega)]; rw [eg20, va_up_ne _ _ (by omega)]; rw [eg14, va_up_ne _ _ (by omega)]; rw [eg8, va_up_ne _ _ (by omega)]; rw [eg5, va_up_ne _ _ (by omega)]; rw [eg2, va_up_ne _ _ (by omega)], by rw [← (show ad71 (i + 1) = q10 from ha86), ← (show ad71 (i + 1 + 1) = q22 from ha90), ← (show ad71 (i + 1 + 1 + 1) = q34 from ha93), ← (show ad71 (i + 1 + 1 + 1 + 1) = q46 from ha95), ← (show ad71 (i + 1 + 1 + 1 + 1 + 1) = q58 from ha96), ← (show ad71 (i + 1 + 1 + 1 + 1 + 1 + 1) = q70 from ha75)] at hg81; exact hg81, hg107, hg116, hg123, hg128, hg131, hg132⟩)

set_option maxRecDepth 100000 in
set_option maxHeartbeats 4000000 in
theorem c_X0_init (l : Launch) (D : va_G) (A : Nat → Prop) (cs : Nat → ClassId) (tt : Nat) (ad : Nat → Nat) (g : Nat → va_E) (i a : Nat) (ha : ad i = a) (hg : g i = oC 2 [.int (zI 0), .int (zI 0), .null, .null]) : zM l yX0_init cX0_init 1 none ({ frames := 1, cells := 6, slots := 4808, locals := 60 } : Room) D A cs tt (i + 1) ad g [.ref a] (rV fun N' ad' g' => N' = i + 7 ∧ (∀ j, j < i + 1 → ad' j = ad j) ∧ (∀ j, j < i + 1 → j ≠ i → g' j = g j) ∧ isGss cs ad' g' i 0 (-1) (fun _ => 0) (fun _ _ => 0)) := by
  refine z_of (by decide) (Nat.le_of_ble_eq_true rfl) ?_
  intro p e s m below meth c C hr hlk hnm
  refine z_lv (lv' := [(0, .ref a)]) [0] rfl ?_
  refine z_aload_n C 0 dX0_init_0 rfl ?_
  refine z_objInit C q_288 q_35 q_36 dX0_init_1 (Nat.le_of_ble_eq_true rfl) (Nat.le_of_ble_eq_true rfl) ?_
  refine z_aload_n C 0 dX0_init_4 rfl ?_
  refine z_iconst (z := 0) C dX0_init_5 rfl ?_
  refine z_put (fs' := [.int (zI (0)), .int (zI (0)), .null, .null]) C (lt_o (i := i) (c := 0) (d := 1) rfl) ha hg tyX0 tyX0_ok nmX0 rfl inA_X0 0 (by decide) q_291 rfl rfl rfl rfl (Nat.le_of_ble_eq_true rfl) rfl dX0_init_6 (fun g1 eg2 => ?_)
  have hg3 := up_s eg2
  refine z_aload_n C 0 dX0_init_9 rfl ?_
  refine z_iconst (z := -1) C dX0_init_10 rfl ?_
  refine z_put (fs' := [.int (zI (0)), .int (zI (-1)), .null, .null]) C (lt_o (i := i) (c := 0) (d := 1) rfl) ha hg3 tyX0 tyX0_ok nmX0 rfl inA_X0 1 (by decide) q_293 rfl rfl rfl rfl (Nat.le_of_ble_eq_true rfl) rfl dX0_init_11 (fun g4 eg5 => ?_)
  have hg6 := up_s eg5
  refine z_aload_n C 0 dX0_init_14 rfl ?_
  refine z_iconst (z := 4) C dX0_init_15 rfl ?_
  refine z_newI C 4 rfl q_134 (by decide) (by decide) (by decide) dX0_init_16 (fun q7 ad8 g9 ea10 eg11 => ?_)
  have ha12 : zAt ad8 (i + 1) q7 := up_s ea10
  have hg13 := up_s eg11
  have ha14 : zAt ad8 (i) (a) := up_n ea10 ha (ne_o (i := i) (c := 0) (d := 1) rfl)
  have hg15 := up_n eg11 hg6 (ne_o (i := i) (c := 0) (d := 1) rfl)
  refine z_putF (fs' := [.int (zI (0)), .int (zI (-1)), .ref q7, .null]) C (lt_o (i := i) (c := 0) (d := 2) rfl) ha14 hg15 tyX0 tyX0_ok nmX0 rfl inA_X0 2 (by decide) q_295 rfl rfl hnm rfl rfl rfl (Nat.le_of_ble_eq_true rfl) rfl dX0_init_18 (fun g16 eg17 => ?_)
  have hg18 := up_s eg17
  refine z_aload_n C 0 dX0_init_21 rfl ?_
  refine z_iconst (z := 4) C dX0_init_22 rfl ?_
  refine z_sipush (z := 1200) C dX0_init_23 (by decide) ?_
  refine z_mna C q_289 q_134 (by decide) (by decide) dX0_init_26 (fun q19 r20 ad21 g22 ea23 eg24 => ?_)
  have hA25 : ∀ j, j < i + 1 + 1 → ad21 j = ad8 j := fun j h1 => by rw [ea23, va_up_ne _ _ (by omega), va_up_ne _ _ (by omega), va_up_ne _ _ (by omega), va_up_ne _ _ (by omega), va_up_ne _ _ (by omega)]
  have hG26 : ∀ j, j < i + 1 + 1 → g22 j = g16 j := fun j h1 => by rw [eg24, va_up_ne _ _ (by omega), va_up_ne _ _ (by omega), va_up_ne _ _ (by omega), va_up_ne _ _ (by omega), va_up_ne _ _ (by omega)]
  have ha27 : zAt ad21 (i + 1 + 1) (q19) := by show ad21 (i + 1 + 1) = q19; rw [ea23, va_up_ne _ _ (by omega), va_up_ne _ _ (by omega), va_up_ne _ _ (by omega), va_up_ne _ _ (by omega), va_up_self]
  have hg28 := congrFun eg24 (i + 1 + 1)
  rw [va_up_ne _ _ (by omega), va_up_ne _ _ (by omega), va_up_ne _ _ (by omega), va_up_ne _ _ (by omega), va_up_self] at hg28
  have ha29 : zAt ad21 (i + 1 + 1 + 1) (r20 0) := by show ad21 (i + 1 + 1 + 1) = r20 0; rw [ea23, va_up_ne _ _ (by omega), va_up_ne _ _ (by omega), va_up_ne _ _ (by omega), va_up_self]
  have hg30 := congrFun eg24 (i + 1 + 1 + 1)
  rw [va_up_ne _ _ (by omega), va_up_ne _ _ (by omega), va_up_ne _ _ (by omega), va_up_self] at hg30
  have ha31 : zAt ad21 (i + 1 + 1 + 1 + 1) (r20 1) := by show ad21 (i + 1 + 1 + 1 + 1) = r20 1; rw [ea23, va_up_ne _ _ (by omega), va_up_ne _ _ (by omega), va_up_self]
  have hg32 := congrFun eg24 (i + 1 + 1 + 1 + 1)
  rw [va_up_ne _ _ (by omega), va_up_ne _ _ (by omega), va_up_self] at hg32
  have ha33 : zAt ad21 (i + 1 + 1 + 1 + 1 + 1) (r20 2) := by show ad21 (i + 1 + 1 + 1 + 1 + 1) = r20 2; rw [ea23, va_up_ne _ _ (by omega), va_up_self]
  have hg34 := congrFun eg24 (i + 1 + 1 + 1 + 1 + 1)
  rw [va_up_ne _ _ (by omega), va_up_self] at hg34
  have ha35 : zAt ad21 (i + 1 + 1 + 1 + 1 + 1 + 1) (r20 3) := by show ad21 (i + 1 + 1 + 1 + 1 + 1 + 1) = r20 3; rw [ea23, va_up_self]
  have hg36 := congrFun eg24 (i + 1 + 1 + 1 + 1 + 1 + 1)
  rw [va_up_self] at hg36
  have ha37 : zAt ad21 (i) (a) := (hA25 (i) (lt_o (i := i) (c := 0) (d := 2) rfl)).trans ha14
  have hg38 := (hG26 (i) (lt_o (i := i) (c := 0) (d := 2) rfl)).trans hg18
  refine z_putF (fs' := [.int (zI (0)), .int (zI (-1)), .ref q7, .ref q19]) C (lt_o (i := i) (c := 0) (d := 7) rfl) ha37 hg38 tyX0 tyX0_ok nmX0 rfl inA_X0 3 (by decide) q_297 rfl rfl hnm rfl rfl rfl (Nat.le_of_ble_eq_true rfl) rfl dX0_init_30 (fun g39 eg40 => ?_)
  have hg41 := up_s eg40
  have ha42 : zAt ad21 (i + 1) (q7) := (hA25 (i + 1) (lt_o (i := i) (c := 1) (d := 2) rfl)).trans ha12
  have hg43 := up_n eg17 hg13 (ne_o (i := i) (c := 1) (d := 0) rfl)
  have hg44 := (hG26 (i + 1) (lt_o (i := i) (c := 1) (d := 2) rfl)).trans hg43
  have hg45 := up_n eg40 hg44 (ne_o (i := i) (c := 1) (d := 0) rfl)
  have hg46 := up_n eg40 hg28 (ne_o (i := i) (c := 2) (d := 0) rfl)
  have hg47 := up_n eg40 hg30 (ne_o (i := i) (c := 3) (d := 0) rfl)
  have hg48 := up_n eg40 hg32 (ne_o (i := i) (c := 4) (d := 0) rfl)
  have hg49 := up_n eg40 hg34 (ne_o (i := i) (c := 5) (d := 0) rfl)
  have hg50 := up_n eg40 hg36 (ne_o (i := i) (c := 6) (d := 0) rfl)
  have hk4 : ∀ k, k < 4 → (fun i => if i < 4 then some (r20 i) else none) k = some (ad21 (i + 3 + k)) := by
    intro k hk
    rcases (show k = 0 ∨ k = 1 ∨ k = 2 ∨ k = 3 by omega) with rfl | rfl | rfl | rfl
    · exact congrArg some (Eq.symm ha29)
    · exact congrArg some (Eq.symm ha31)
    · exact congrArg some (Eq.symm ha33)
    · exact congrArg some (Eq.symm ha35)
  have hc4 : ∀ k, k < 4 → g39 (i + 3 + k) = iA cs 1200 (fun _ => 0) := by
    intro k hk
    rcases (show k = 0 ∨ k = 1 ∨ k = 2 ∨ k = 3 by omega) with rfl | rfl | rfl | rfl
    · exact hg47
    · exact hg48
    · exact hg49
    · exact hg50
  exact z_vret C hr hlk dX0_init_33 (by decide) (by decide) (⟨rfl, rfl, fun j h1 => by rw [hA25 _ (by omega)]; rw [ea10, va_up_ne _ _ (by omega)], fun j h1 h2 => by rw [eg40, va_up_ne _ _ (by omega)]; rw [hG26 _ (by omega)]; rw [eg17, va_up_ne _ _ (by omega)]; rw [eg11, va_up_ne _ _ (by omega)]; rw [eg5, va_up_ne _ _ (by omega)]; rw [eg2, va_up_ne _ _ (by omega)], by rw [← (show ad21 (i + 1) = q7 from ha42), ← (show ad21 (i + 1 + 1) = q19 from ha27)] at hg41; exact hg41, hg45, ⟨_, hg46, hk4⟩, hc4⟩)

set_option maxRecDepth 100000 in
set_option maxHeartbeats 4000000 in
theorem c_J5_init_d00df (l : Launch) (D : va_G) (A : Nat → Prop) (cs : Nat → ClassId) (tt : Nat) (ad : Nat → Nat) (g : Nat → va_E) (i a : Nat) (ha : ad i = a) (hg : g i = oC 1 [.null, .int (zI 0), .int (zI 0), .int (zI 0)]) : zM l yJ5_init_d00df cJ5_init_d00df 2 none ({ frames := 1, cells := 1, slots := 16, locals := 60 } : Room) D A cs tt (i + 1) ad g [.ref a, .int (zI 16)] (rV fun N' ad' g' => N' = i + 2 ∧ (∀ j, j < i + 1 → ad' j = ad j) ∧ (∀ j, j < i + 1 → j ≠ i → g' j = g j) ∧ isBld cs ad' g' i) := by
  refine z_of (by decide) (Nat.le_of_ble_eq_true rfl) ?_
  intro p e s m below meth c C hr hlk hnm
  refine z_lv (lv' := [(0, .ref a), (1, .int (zI (16)))]) [0, 1] rfl ?_
  refine z_aload_n C 0 dJ5_init_d00df_0 rfl ?_
  refine z_objInit C q_325 q_35 q_36 dJ5_init_d00df_1 (Nat.le_of_ble_eq_true rfl) (Nat.le_of_ble_eq_true rfl) ?_
  refine z_getZ C q_326 dJ5_init_d00df_4 ?_
  refine z_if_eq (tgt := 25) C dJ5_init_d00df_7 (by decide) (by omega) (fun h => absurd h (by omega)) (fun _ => ?_)
  refine z_aload_n C 0 dJ5_init_d00df_10 rfl ?_
  refine z_iload_n C 1 dJ5_init_d00df_11 rfl ?_
  refine z_newB C 16 rfl q_72 (by decide) (by decide) (by decide) dJ5_init_d00df_12 (fun q1 ad2 g3 ea4 eg5 => ?_)
  have ha6 : zAt ad2 (i + 1) q1 := up_s ea4
  have hg7 := up_s eg5
  have ha8 : zAt ad2 (i) (a) := up_n ea4 ha (ne_o (i := i) (c := 0) (d := 1) rfl)
  have hg9 := up_n eg5 hg (ne_o (i := i) (c := 0) (d := 1) rfl)
  refine z_put (fs' := [.ref q1, .int (zI (0)), .int (zI (0)), .int (zI (0))]) C (lt_o (i := i) (c := 0) (d := 2) rfl) ha8 hg9 tyJ4 tyJ4_ok nmJ4 rfl inA_J4 0 (by decide) q_335 rfl rfl rfl rfl (Nat.le_of_ble_eq_true rfl) rfl dJ5_init_d00df_14 (fun g10 eg11 => ?_)
  have hg12 := up_s eg11
  refine z_aload_n C 0 dJ5_init_d00df_17 rfl ?_
  refine z_iconst (z := 0) C dJ5_init_d00df_18 rfl ?_
  refine z_put (fs' := [.ref q1, .int (zI (0)), .int (zI (0)), .int (zI (0))]) C (lt_o (i := i) (c := 0) (d := 2) rfl) ha8 hg12 tyJ4 tyJ4_ok nmJ4 rfl inA_J4 1 (by decide) q_336 rfl rfl (by decide) rfl (Nat.le_of_ble_eq_true rfl) rfl dJ5_init_d00df_19 (fun g13 eg14 => ?_)
  have hg15 := up_s eg14
  refine z_goto (tgt := 38) C dJ5_init_d00df_22 (by decide) ?_
  have hg16 := up_n eg11 hg7 (ne_o (i := i) (c := 1) (d := 0) rfl)
  have hg17 := up_n eg14 hg16 (ne_o (i := i) (c := 1) (d := 0) rfl)
  exact z_vret C hr hlk dJ5_init_d00df_38 (by decide) (by decide) (⟨rfl, rfl, fun j h1 => by rw [ea4, va_up_ne _ _ (by omega)], fun j h1 h2 => by rw [eg14, va_up_ne _ _ (by omega)]; rw [eg11, va_up_ne _ _ (by omega)]; rw [eg5, va_up_ne _ _ (by omega)], by rw [← (show ad2 (i + 1) = q1 from ha6)] at hg15; exact hg15, hg17⟩)

set_option maxRecDepth 100000 in
set_option maxHeartbeats 4000000 in
theorem c_J4_init_da8c8 (l : Launch) (D : va_G) (A : Nat → Prop) (cs : Nat → ClassId) (tt : Nat) (ad : Nat → Nat) (g : Nat → va_E) (i a : Nat) (ha : ad i = a) (hg : g i = oC 1 [.null, .int (zI 0), .int (zI 0), .int (zI 0)]) : zM l yJ4_init_da8c8 cJ4_init_da8c8 1 none ({ frames := 2, cells := 1, slots := 16, locals := 120 } : Room) D A cs tt (i + 1) ad g [.ref a] (rV fun N' ad' g' => N' = i + 2 ∧ (∀ j, j < i + 1 → ad' j = ad j) ∧ (∀ j, j < i + 1 → j ≠ i → g' j = g j) ∧ isBld cs ad' g' i) := by
  refine z_of (by decide) (Nat.le_of_ble_eq_true rfl) ?_
  intro p e s m below meth c C hr hlk hnm
  refine z_lv (lv' := [(0, .ref a)]) [0] rfl ?_
  refine z_aload_n C 0 dJ4_init_da8c8_0 rfl ?_
  refine z_bipush (z := 16) C dJ4_init_da8c8_1 (by decide) ?_
  refine z_cI (As := [.int (zI (16))]) (rest := []) C (c_J5_init_d00df l D A cs tt _ _ i a ha hg) mi_yJ5_init_d00df q_322 rfl (by decide +kernel) (by decide) (Nat.le_of_ble_eq_true rfl) (by decide) dJ4_init_da8c8_3 rfl (kV fun M4 ad5 g6 hq7 => ?_)
  obtain ⟨rfl, hA1, hG2, hp3⟩ := hq7
  exact z_vret C hr hlk dJ4_init_da8c8_6 (by decide) (by decide) (⟨rfl, rfl, hA1, hG2, hp3⟩)

def isSt (cs : Nat → ClassId) (ad : Nat → Nat) (g : Nat → va_E) (i : Nat) : Prop := g i = oC 8 [.ref (ad (i + 1)), .ref (ad (i + 11)), .int (zI 0), .ref (ad (i + 12)), .ref (ad (i + 13)), .ref (ad (i + 17))] ∧ isWorld cs ad g (i + 1) (fun _ => 0) (fun _ => 0) (fun _ => 0) (fun _ _ => 0) ∧ (∃ b : Nat → Option Nat, g (i + 11) = rA (cs 4) 40 b ∧ ∀ k, k < 40 → b k = some (ad (i + 18 + 10 * k))) ∧ (∃ b : Nat → Option Nat, g (i + 12) = rA (cs 5) 6 b ∧ ∀ k, k < 6 → b k = some (ad (i + 418 + 3 * k))) ∧ isNotes cs ad g (i + 13) 0 (fun _ => 0) (fun _ => 0) (fun _ => 0) ∧ g (i + 17) = iA cs 3 (fun _ => 0) ∧ (∀ k, k < 40 → isWorld cs ad g (i + 18 + 10 * k) (fun _ => 0) (fun _ => 0) (fun _ => 0) (fun _ _ => 0)) ∧ ∀ k, k < 6 → isPit cs ad g (i + 418 + 3 * k) 0 0 0 0 (fun _ => 0)
theorem isSt.mv {cs : Nat → ClassId} {ad ad' : Nat → Nat} {g g' : Nat → va_E} {i : Nat} (hA : ∀ j, i ≤ j → j < i + 436 → ad' j = ad j) (hG : ∀ j, i ≤ j → j < i + 436 → g' j = g j) (h : isSt cs ad g i) : isSt cs ad' g' i := by
  obtain ⟨h1, h2, ⟨b1, h3, h4⟩, ⟨b2, h5, h6⟩, h7, h8, h9, h10⟩ := h
  refine ⟨by rw [hG _ (by omega) (by omega), hA _ (by omega) (by omega), hA _ (by omega) (by omega), hA _ (by omega) (by omega), hA _ (by omega) (by omega), hA _ (by omega) (by omega)]; exact h1, h2.mv (fun j _ _ => hA j (by omega) (by omega)) (fun j _ _ => hG j (by omega) (by omega)), ⟨b1, by rw [hG _ (by omega) (by omega)]; exact h3, fun k hk => by rw [hA _ (by omega) (by omega)]; exact h4 k hk⟩, ⟨b2, by rw [hG _ (by omega) (by omega)]; exact h5, fun k hk => by rw [hA _ (by omega) (by omega)]; exact h6 k hk⟩, h7.mv (fun j _ _ => hA j (by omega) (by omega)) (fun j _ _ => hG j (by omega) (by omega)), by rw [hG _ (by omega) (by omega)]; exact h8, fun k hk => (h9 k hk).mv (fun j _ _ => hA j (by omega) (by omega)) (fun j _ _ => hG j (by omega) (by omega)), fun k hk => (h10 k hk).mv (fun j _ _ => hA j (by omega) (by omega)) (fun j _ _ => hG j (by omega) (by omega))⟩

set_option maxRecDepth 100000 in
set_option maxHeartbeats 4000000 in
theorem c_X6_init (l : Launch) (D : va_G) (A : Nat → Prop) (cs : Nat → ClassId) (tt : Nat) (ad : Nat → Nat) (g : Nat → va_E) (i a : Nat) (ha : ad i = a) (hg : g i = oC 8 [.null, .null, .int (zI 0), .null, .null, .null]) : zM l yX6_init cX6_init 2 none ({ frames := 3, cells := 435, slots := 15336, locals := 180 } : Room) D A cs tt (i + 1) ad g [.ref a] (rV fun N' ad' g' => N' = i + 436 ∧ (∀ j, j < i + 1 → ad' j = ad j) ∧ (∀ j, j < i + 1 → j ≠ i → g' j = g j) ∧ isSt cs ad' g' i) := by
  refine z_of (by decide) (Nat.le_of_ble_eq_true rfl) ?_
  intro p e s m below meth c C hr hlk hnm
  refine z_lv (lv' := [(0, .ref a)]) [0] rfl ?_
  refine z_aload_n C 0 dX6_init_0 rfl ?_
  refine z_objInit C q_140 q_35 q_36 dX6_init_1 (Nat.le_of_ble_eq_true rfl) (Nat.le_of_ble_eq_true rfl) ?_
  refine z_aload_n C 0 dX6_init_4 rfl ?_
  refine z_new (fs := [.int (zI (0)), .int (zI (0)), .int (zI (0)), .int (zI (0)), .int (zI (0)), .int (zI (0)), .null]) (ci := 10) C tyX8 tyX8_ok rfl inA_X8 q_141 q_142 q_5 (fun j hj => by rcases (show j = 0 ∨ j = 1 ∨ j = 2 ∨ j = 3 ∨ j = 4 ∨ j = 5 ∨ j = 6 by omega) with rfl | rfl | rfl | rfl | rfl | rfl | rfl <;> rfl) (by decide) (by decide) dX6_init_5 (fun q1 ad2 g3 ea4 eg5 => ?_)
  have ha6 : zAt ad2 (i + 1) q1 := up_s ea4
  have hg7 := up_s eg5
  refine z_dup C dX6_init_8 rfl ?_
  refine z_cI (As := []) (rest := [.ref q1, .ref a]) C (c_X8_init l D A cs tt _ _ (i + 1) q1 ha6 hg7) mi_yX8_init q_143 rfl (by decide +kernel) (by decide) (Nat.le_of_ble_eq_true rfl) (by decide) dX6_init_9 rfl (kV fun M11 ad12 g13 hq14 => ?_)
  obtain ⟨rfl, hA8, hG9, hp10⟩ := hq14
  have ha15 : zAt ad2 (i) (a) := up_n ea4 ha (ne_o (i := i) (c := 0) (d := 1) rfl)
  have ha16 : zAt ad12 (i) (a) := (hA8 (i) (lt_o (i := i) (c := 0) (d := 2) rfl)).trans ha15
  have hg17 := up_n eg5 hg (ne_o (i := i) (c := 0) (d := 1) rfl)
  have hg18 := (hG9 (i) (lt_o (i := i) (c := 0) (d := 2) rfl) (ne_o (i := i) (c := 0) (d := 1) rfl)).trans hg17
  refine z_putF (fs' := [.ref q1, .null, .int (zI (0)), .null, .null, .null]) C (lt_o (i := i) (c := 0) (d := 11) rfl) ha16 hg18 tyX6 tyX6_ok nmX6 rfl inA_X6 0 (by decide) q_257 rfl rfl hnm rfl rfl rfl (Nat.le_of_ble_eq_true rfl) rfl dX6_init_12 (fun g19 eg20 => ?_)
  have hg21 := up_s eg20
  refine z_aload_n C 0 dX6_init_15 rfl ?_
  refine z_bipush (z := 40) C dX6_init_16 (by decide) ?_
  refine z_newR C 4 40 rfl rfl q_141 C.2.2.2.2.2.2.2.2.1.2.1 (by decide) (by decide) (by decide) dX6_init_18 (fun q22 ad23 g24 ea25 eg26 => ?_)
  have ha27 : zAt ad23 (i + 1 + 10) q22 := up_s ea25
  have hg28 := up_s eg26
  have ha29 : zAt ad23 (i) (a) := up_n ea25 ha16 (ne_o (i := i) (c := 0) (d := 11) rfl)
  have hg30 := up_n eg26 hg21 (ne_o (i := i) (c := 0) (d := 11) rfl)
  refine z_putF (fs' := [.ref q1, .ref q22, .int (zI (0)), .null, .null, .null]) C (lt_o (i := i) (c := 0) (d := 12) rfl) ha29 hg30 tyX6 tyX6_ok nmX6 rfl inA_X6 1 (by decide) q_259 rfl rfl hnm rfl rfl rfl (Nat.le_of_ble_eq_true rfl) rfl dX6_init_21 (fun g31 eg32 => ?_)
  have hg33 := up_s eg32
  refine z_aload_n C 0 dX6_init_24 rfl ?_
  refine z_iconst (z := 0) C dX6_init_25 rfl ?_
  refine z_put (fs' := [.ref q1, .ref q22, .int (zI (0)), .null, .null, .null]) C (lt_o (i := i) (c := 0) (d := 12) rfl) ha29 hg33 tyX6 tyX6_ok nmX6 rfl inA_X6 2 (by decide) q_260 rfl rfl rfl rfl (Nat.le_of_ble_eq_true rfl) rfl dX6_init_26 (fun g34 eg35 => ?_)
  have hg36 := up_s eg35
  refine z_aload_n C 0 dX6_init_29 rfl ?_
  refine z_bipush (z := 6) C dX6_init_30 (by decide) ?_
  refine z_newR C 5 6 rfl rfl q_208 C.2.2.2.2.2.2.2.2.1.2.2.1 (by decide) (by decide) (by decide) dX6_init_32 (fun q37 ad38 g39 ea40 eg41 => ?_)
  have ha42 : zAt ad38 (i + 1 + 10 + 1) q37 := up_s ea40
  have hg43 := up_s eg41
  have ha44 : zAt ad38 (i) (a) := up_n ea40 ha29 (ne_o (i := i) (c := 0) (d := 12) rfl)
  have hg45 := up_n eg41 hg36 (ne_o (i := i) (c := 0) (d := 12) rfl)
  refine z_putF (fs' := [.ref q1, .ref q22, .int (zI (0)), .ref q37, .null, .null]) C (lt_o (i := i) (c := 0) (d := 13) rfl) ha44 hg45 tyX6 tyX6_ok nmX6 rfl inA_X6 3 (by decide) q_262 rfl rfl hnm rfl rfl rfl (Nat.le_of_ble_eq_true rfl) rfl dX6_init_35 (fun g46 eg47 => ?_)
  have hg48 := up_s eg47
  refine z_aload_n C 0 dX6_init_38 rfl ?_
  refine z_new (fs := [.int (zI (0)), .null, .null, .null]) (ci := 4) C tyX2 tyX2_ok rfl inA_X2 q_210 q_211 q_7 (fun j hj => by rcases (show j = 0 ∨ j = 1 ∨ j = 2 ∨ j = 3 by omega) with rfl | rfl | rfl | rfl <;> rfl) (by decide) (by decide) dX6_init_39 (fun q49 ad50 g51 ea52 eg53 => ?_)
  have ha54 : zAt ad50 (i + 1 + 10 + 1 + 1) q49 := up_s ea52
  have hg55 := up_s eg53
  refine z_dup C dX6_init_42 rfl ?_
  refine z_cIN (As := []) (rest := [.ref q49, .ref a]) C (c_X2_init l D A cs tt _ _ (i + 1 + 10 + 1 + 1) q49 ha54 hg55) mi_yX2_init n_212 rfl (by decide +kernel) (by decide) (Nat.le_of_ble_eq_true rfl) (by decide) dX6_init_43 rfl (kV fun M59 ad60 g61 hq62 => ?_)
  obtain ⟨rfl, hA56, hG57, hp58⟩ := hq62
  have ha63 : zAt ad50 (i) (a) := up_n ea52 ha44 (ne_o (i := i) (c := 0) (d := 13) rfl)
  have ha64 : zAt ad60 (i) (a) := (hA56 (i) (lt_o (i := i) (c := 0) (d := 14) rfl)).trans ha63
  have hg65 := up_n eg53 hg48 (ne_o (i := i) (c := 0) (d := 13) rfl)
  have hg66 := (hG57 (i) (lt_o (i := i) (c := 0) (d := 14) rfl) (ne_o (i := i) (c := 0) (d := 13) rfl)).trans hg65
  refine z_putF (fs' := [.ref q1, .ref q22, .int (zI (0)), .ref q37, .ref q49, .null]) C (lt_o (i := i) (c := 0) (d := 17) rfl) ha64 hg66 tyX6 tyX6_ok nmX6 rfl inA_X6 4 (by decide) q_264 rfl rfl hnm rfl rfl rfl (Nat.le_of_ble_eq_true rfl) rfl dX6_init_46 (fun g67 eg68 => ?_)
  have hg69 := up_s eg68
  refine z_aload_n C 0 dX6_init_49 rfl ?_
  refine z_iconst (z := 3) C dX6_init_50 rfl ?_
  refine z_newI C 3 rfl q_134 (by decide) (by decide) (by decide) dX6_init_51 (fun q70 ad71 g72 ea73 eg74 => ?_)
  have ha75 : zAt ad71 (i + 1 + 10 + 1 + 1 + 4) q70 := up_s ea73
  have hg76 := up_s eg74
  have ha77 : zAt ad71 (i) (a) := up_n ea73 ha64 (ne_o (i := i) (c := 0) (d := 17) rfl)
  have hg78 := up_n eg74 hg69 (ne_o (i := i) (c := 0) (d := 17) rfl)
  refine z_putF (fs' := [.ref q1, .ref q22, .int (zI (0)), .ref q37, .ref q49, .ref q70]) C (lt_o (i := i) (c := 0) (d := 18) rfl) ha77 hg78 tyX6 tyX6_ok nmX6 rfl inA_X6 5 (by decide) q_266 rfl rfl hnm rfl rfl rfl (Nat.le_of_ble_eq_true rfl) rfl dX6_init_53 (fun g79 eg80 => ?_)
  have hg81 := up_s eg80
  refine z_iconst (z := 0) C dX6_init_56 rfl ?_
  refine z_istore_n (lv' := [(1, .int (zI (0))), (0, .ref a)]) C dX6_init_57 rfl (by decide) rfl ?_
  have ha83 : zAt ad12 (i + 1) (q1) := (hA8 (i + 1) (lt_o (i := i) (c := 1) (d := 2) rfl)).trans ha6
  have ha84 : zAt ad23 (i + 1) (q1) := up_n ea25 ha83 (ne_o (i := i) (c := 1) (d := 11) rfl)
  have ha85 : zAt ad38 (i + 1) (q1) := up_n ea40 ha84 (ne_o (i := i) (c := 1) (d := 12) rfl)
  have ha86 : zAt ad50 (i + 1) (q1) := up_n ea52 ha85 (ne_o (i := i) (c := 1) (d := 13) rfl)
  have ha87 : zAt ad60 (i + 1) (q1) := (hA56 (i + 1) (lt_o (i := i) (c := 1) (d := 14) rfl)).trans ha86
  have ha88 : zAt ad71 (i + 1) (q1) := up_n ea73 ha87 (ne_o (i := i) (c := 1) (d := 17) rfl)
  have ha89 : zAt ad38 (i + 1 + 10) (q22) := up_n ea40 ha27 (ne_o (i := i) (c := 11) (d := 12) rfl)
  have ha90 : zAt ad50 (i + 1 + 10) (q22) := up_n ea52 ha89 (ne_o (i := i) (c := 11) (d := 13) rfl)
  have ha91 : zAt ad60 (i + 1 + 10) (q22) := (hA56 (i + 1 + 10) (lt_o (i := i) (c := 11) (d := 14) rfl)).trans ha90
  have ha92 : zAt ad71 (i + 1 + 10) (q22) := up_n ea73 ha91 (ne_o (i := i) (c := 11) (d := 17) rfl)
  have ha93 : zAt ad50 (i + 1 + 10 + 1) (q37) := up_n ea52 ha42 (ne_o (i := i) (c := 12) (d := 13) rfl)
  have ha94 : zAt ad60 (i + 1 + 10 + 1) (q37) := (hA56 (i + 1 + 10 + 1) (lt_o (i := i) (c := 12) (d := 14) rfl)).trans ha93
  have ha95 : zAt ad71 (i + 1 + 10 + 1) (q37) := up_n ea73 ha94 (ne_o (i := i) (c := 12) (d := 17) rfl)
  have ha96 : zAt ad60 (i + 1 + 10 + 1 + 1) (q49) := (hA56 (i + 1 + 10 + 1 + 1) (lt_o (i := i) (c := 13) (d := 14) rfl)).trans ha54
  have ha97 : zAt ad71 (i + 1 + 10 + 1 + 1) (q49) := up_n ea73 ha96 (ne_o (i := i) (c := 13) (d := 17) rfl)
  have h82 : g79 i = oC 8 [.ref (ad71 (i + 1)), .ref (ad71 (i + 11)), .int (zI 0), .ref (ad71 (i + 12)), .ref (ad71 (i + 13)), .ref (ad71 (i + 17))] := by rw [← (show ad71 (i + 1) = q1 from ha88), ← (show ad71 (i + 1 + 10) = q22 from ha92), ← (show ad71 (i + 1 + 10 + 1) = q37 from ha95), ← (show ad71 (i + 1 + 10 + 1 + 1) = q49 from ha97), ← (show ad71 (i + 1 + 10 + 1 + 1 + 4) = q70 from ha75)] at hg81; exact hg81
  have hp98 := isWorld.mv (ad' := ad71) (g' := g79) (fun j h1 h2 => by rw [ea73, va_up_ne _ _ (by omega)]; rw [hA56 _ (by omega)]; rw [ea52, va_up_ne _ _ (by omega)]; rw [ea40, va_up_ne _ _ (by omega)]; rw [ea25, va_up_ne _ _ (by omega)]) (fun j h1 h2 => by rw [eg80, va_up_ne _ _ (by omega)]; rw [eg74, va_up_ne _ _ (by omega)]; rw [eg68, va_up_ne _ _ (by omega)]; rw [hG57 _ (by omega) (by omega)]; rw [eg53, va_up_ne _ _ (by omega)]; rw [eg47, va_up_ne _ _ (by omega)]; rw [eg41, va_up_ne _ _ (by omega)]; rw [eg35, va_up_ne _ _ (by omega)]; rw [eg32, va_up_ne _ _ (by omega)]; rw [eg26, va_up_ne _ _ (by omega)]; rw [eg20, va_up_ne _ _ (by omega)]) hp10
  have hp99 := isNotes.mv (ad' := ad71) (g' := g79) (fun j h1 h2 => by rw [ea73, va_up_ne _ _ (by omega)]) (fun j h1 h2 => by rw [eg80, va_up_ne _ _ (by omega)]; rw [eg74, va_up_ne _ _ (by omega)]; rw [eg68, va_up_ne _ _ (by omega)]) hp58
  have hg100 := up_n eg32 hg28 (ne_o (i := i) (c := 11) (d := 0) rfl)
  have hg101 := up_n eg35 hg100 (ne_o (i := i) (c := 11) (d := 0) rfl)
  have hg102 := up_n eg41 hg101 (ne_o (i := i) (c := 11) (d := 12) rfl)
  have hg103 := up_n eg47 hg102 (ne_o (i := i) (c := 11) (d := 0) rfl)
  have hg104 := up_n eg53 hg103 (ne_o (i := i) (c := 11) (d := 13) rfl)
  have hg105 := (hG57 (i + 1 + 10) (lt_o (i := i) (c := 11) (d := 14) rfl) (ne_o (i := i) (c := 11) (d := 13) rfl)).trans hg104
  have hg106 := up_n eg68 hg105 (ne_o (i := i) (c := 11) (d := 0) rfl)
  have hg107 := up_n eg74 hg106 (ne_o (i := i) (c := 11) (d := 17) rfl)
  have hg108 := up_n eg80 hg107 (ne_o (i := i) (c := 11) (d := 0) rfl)
  have hg109 := up_n eg47 hg43 (ne_o (i := i) (c := 12) (d := 0) rfl)
  have hg110 := up_n eg53 hg109 (ne_o (i := i) (c := 12) (d := 13) rfl)
  have hg111 := (hG57 (i + 1 + 10 + 1) (lt_o (i := i) (c := 12) (d := 14) rfl) (ne_o (i := i) (c := 12) (d := 13) rfl)).trans hg110
  have hg112 := up_n eg68 hg111 (ne_o (i := i) (c := 12) (d := 0) rfl)
  have hg113 := up_n eg74 hg112 (ne_o (i := i) (c := 12) (d := 17) rfl)
  have hg114 := up_n eg80 hg113 (ne_o (i := i) (c := 12) (d := 0) rfl)
  have hg115 := up_n eg80 hg76 (ne_o (i := i) (c := 17) (d := 0) rfl)
  have hadf : ∀ j, j < i + 1 → ad71 j = ad j := fun j h1 => by rw [ea73, va_up_ne _ _ (by omega)]; rw [hA56 _ (by omega)]; rw [ea52, va_up_ne _ _ (by omega)]; rw [ea40, va_up_ne _ _ (by omega)]; rw [ea25, va_up_ne _ _ (by omega)]; rw [hA8 _ (by omega)]; rw [ea4, va_up_ne _ _ (by omega)]
  have hgf : ∀ j, j < i → g79 j = g j := fun j h1 => by rw [eg80, va_up_ne _ _ (by omega)]; rw [eg74, va_up_ne _ _ (by omega)]; rw [eg68, va_up_ne _ _ (by omega)]; rw [hG57 _ (by omega) (by omega)]; rw [eg53, va_up_ne _ _ (by omega)]; rw [eg47, va_up_ne _ _ (by omega)]; rw [eg41, va_up_ne _ _ (by omega)]; rw [eg35, va_up_ne _ _ (by omega)]; rw [eg32, va_up_ne _ _ (by omega)]; rw [eg26, va_up_ne _ _ (by omega)]; rw [eg20, va_up_ne _ _ (by omega)]; rw [hG9 _ (by omega) (by omega)]; rw [eg5, va_up_ne _ _ (by omega)]
  have loop2 : ∀ (n kk : Nat) (ad1 : Nat → Nat) (g1 : Nat → va_E), kk + n = 6 → (∀ j, j < i + 1 → ad1 j = ad j) → (∀ j, j < i → g1 j = g j) → g1 i = oC 8 [.ref (ad1 (i + 1)), .ref (ad1 (i + 11)), .int (zI 0), .ref (ad1 (i + 12)), .ref (ad1 (i + 13)), .ref (ad1 (i + 17))] → isWorld cs ad1 g1 (i + 1) (fun _ => 0) (fun _ => 0) (fun _ => 0) (fun _ _ => 0) → isNotes cs ad1 g1 (i + 13) 0 (fun _ => 0) (fun _ => 0) (fun _ => 0) → g1 (i + 17) = iA cs 3 (fun _ => 0) → (∃ b : Nat → Option Nat, g1 (i + 11) = rA (cs 4) 40 b ∧ ∀ k, k < 40 → b k = some (ad1 (i + 18 + 10 * k))) → (∀ k, k < 40 → isWorld cs ad1 g1 (i + 18 + 10 * k) (fun _ => 0) (fun _ => 0) (fun _ => 0) (fun _ _ => 0)) → (∃ b : Nat → Option Nat, g1 (i + 12) = rA (cs 5) 6 b ∧ ∀ k, k < kk → b k = some (ad1 (i + 418 + 3 * k))) → (∀ k, k < kk → isPit cs ad1 g1 (i + 418 + 3 * k) 0 0 0 0 (fun _ => 0)) → zV p l e ({ frames := 3, cells := 435, slots := 15336, locals := 180 } : Room) s m [Value.ref a].toArray below meth c (MQ below (zPost D A (rV fun N' ad' g' => N' = i + 436 ∧ (∀ j, j < i + 1 → ad' j = ad j) ∧ (∀ j, j < i + 1 → j ≠ i → g' j = g j) ∧ isSt cs ad' g' i)) [Value.ref a].toArray s ({ frames := 3, cells := 435, slots := 15336, locals := 180 } : Room).cells ({ frames := 3, cells := 435, slots := 15336, locals := 180 } : Room).slots A) D A 2 (i + 418 + 3 * kk) ad1 g1 (417 + 3 * kk) (14796 + 90 * kk) 88 [(1, .int (zI (kk : Int))), (0, .ref a)] [] := by
    intro n
    induction n with
    | zero =>
      intro kk ad1 g1 hkk f1 f2 f8 fw fn fr g40 gw40 g6 gw6
      have haa : zAt ad1 i a := by show ad1 i = a; rw [f1 _ (by omega)]; exact ha
      have ha116 : zAt ad1 (i + 12) (ad1 (i + 12)) := rfl
      obtain ⟨b, fb1, fb2⟩ := g6
      refine z_iload_n C 0 dX6_init_88 rfl ?_
      refine z_aload_n C 1 dX6_init_89 rfl ?_
      refine z_get (v := .ref (ad1 (i + 12))) C (by omega) haa f8 rfl inA_X6 3 (by decide) q_262 rfl rfl dX6_init_90 ?_
      refine z_alen (z := 6) C (by omega) ha116 fb1 5 rfl rfl dX6_init_93 ?_
      have hkk : kk = 6 := by omega
      subst hkk
      refine z_icmp_ge (tgt := 116) C dX6_init_94 (by decide) (by omega) (by omega) (fun _ => ?_) (fun h => absurd h (by omega))
      exact z_vret C hr hlk dX6_init_116 (by decide) (by decide) (⟨rfl, rfl, f1, fun j h1 h2 => f2 j (by omega), f8, fw, g40, ⟨b, fb1, fb2⟩, fn, fr, gw40, gw6⟩)
    | succ n ih =>
      intro kk ad1 g1 hkk f1 f2 f8 fw fn fr g40 gw40 g6 gw6
      have haa : zAt ad1 i a := by show ad1 i = a; rw [f1 _ (by omega)]; exact ha
      have ha117 : zAt ad1 (i + 12) (ad1 (i + 12)) := rfl
      obtain ⟨b, fb1, fb2⟩ := g6
      refine z_iload_n C 0 dX6_init_88 rfl ?_
      refine z_aload_n C 1 dX6_init_89 rfl ?_
      refine z_get (v := .ref (ad1 (i + 12))) C (by omega) haa f8 rfl inA_X6 3 (by decide) q_262 rfl rfl dX6_init_90 ?_
      refine z_alen (z := 6) C (by omega) ha117 fb1 5 rfl rfl dX6_init_93 ?_
      refine z_icmp_ge (tgt := 116) C dX6_init_94 (by decide) (by omega) (by omega) (fun h => absurd h (by omega)) (fun _ => ?_)
      refine z_aload_n C 1 dX6_init_97 rfl ?_
      refine z_get (v := .ref (ad1 (i + 12))) C (by omega) haa f8 rfl inA_X6 3 (by decide) q_262 rfl rfl dX6_init_98 ?_
      refine z_iload_n C 0 dX6_init_101 rfl ?_
      refine z_new (fs := [.int (zI (0)), .int (zI (0)), .null]) (ci := 6) C tyX4 tyX4_ok rfl inA_X4 q_208 q_234 q_8 (fun j hj => by rcases (show j = 0 ∨ j = 1 ∨ j = 2 by omega) with rfl | rfl | rfl <;> rfl) (by show _ ≤ 435; omega) (by show _ ≤ 15336; omega) dX6_init_102 (fun q118 ad119 g120 ea121 eg122 => ?_)
      have ha123 : zAt ad119 (i + 418 + 3 * kk) q118 := up_s ea121
      have hg124 := up_s eg122
      refine z_dup C dX6_init_105 rfl ?_
      refine z_cIN (As := []) (rest := [.ref q118, .int (zI ((kk : Int))), .ref (ad1 (i + 12))]) C (c_X4_init l D A cs tt _ _ (i + 418 + 3 * kk) q118 ha123 hg124) mi_yX4_init n_235 rfl (by decide +kernel) (by decide) (Nat.le_of_ble_eq_true rfl) ⟨by show _ + 2 ≤ 435; omega, by show _ + 87 ≤ 15336; omega⟩ dX6_init_106 rfl (kV fun M128 ad129 g130 hq131 => ?_)
      obtain ⟨rfl, hA125, hG126, hp127⟩ := hq131
      have ha132 : zAt ad119 (i + 12) (ad1 (i + 12)) := up_n ea121 ha117 (by omega)
      have ha133 : zAt ad129 (i + 12) (ad1 (i + 12)) := (hA125 (i + 12) (by omega)).trans ha132
      have hg134 := up_n eg122 fb1 (by omega)
      have hg135 := (hG126 (i + 12) (by omega) (by omega)).trans hg134
      have ha136 : zAt ad129 (i + 418 + 3 * kk) (q118) := (hA125 (i + 418 + 3 * kk) (lt_o (i := i + 418 + 3 * kk) (c := 0) (d := 1) rfl)).trans ha123
      refine z_aast (q := (RX4, TX4, 3)) C (by omega) ha133 hg135 5 rfl (lt_o (i := i + 418 + 3 * kk) (c := 0) (d := 3) rfl) ha136 hp127.1 rfl (kk) (by omega) (by omega) (by decide) dX6_init_109 (fun g137 eg138 => ?_)
      have hg139 := up_s eg138
      refine z_iinc (z := ((kk + 1 : Nat) : Int)) (lv' := [(1, .int (zI (((kk + 1 : Nat) : Int)))), (0, .ref a)]) (j := 0) C dX6_init_110 rfl (congrArg zI (by omega)) (by decide) rfl ?_
      refine z_goto (tgt := 88) C dX6_init_113 (by decide) ?_
      have hp140 := isPit.mv (ad' := ad129) (g' := g137) (fun j h1 h2 => by rfl) (fun j h1 h2 => by rw [eg138, va_up_ne _ _ (by omega)]) hp127
      have f1' : ∀ j, j < i + 1 → ad129 j = ad j := fun j h1 => by rw [hA125 _ (by omega)]; rw [ea121, va_up_ne _ _ (by omega)]; exact f1 j h1
      have f2' : ∀ j, j < i → g137 j = g j := fun j h1 => by rw [eg138, va_up_ne _ _ (by omega)]; rw [hG126 _ (by omega) (by omega)]; rw [eg122, va_up_ne _ _ (by omega)]; exact f2 j h1
      have hA9 : ∀ j, j < i + 418 + 3 * kk → ad129 j = ad1 j := fun j h1 => by rw [hA125 _ (by omega)]; rw [ea121, va_up_ne _ _ (by omega)]
      have hG9 : ∀ j, j < i + 418 + 3 * kk → j ≠ i + 12 → g137 j = g1 j := fun j h1 h2 => by rw [eg138, va_up_ne _ _ (by omega)]; rw [hG126 _ (by omega) (by omega)]; rw [eg122, va_up_ne _ _ (by omega)]
      have f8' : g137 i = oC 8 [.ref (ad129 (i + 1)), .ref (ad129 (i + 11)), .int (zI 0), .ref (ad129 (i + 12)), .ref (ad129 (i + 13)), .ref (ad129 (i + 17))] := by rw [hG9 _ (by omega) (by omega), hA9 _ (by omega), hA9 _ (by omega), hA9 _ (by omega), hA9 _ (by omega), hA9 _ (by omega)]; exact f8
      have fb' : ∀ k, k < kk + 1 → (va_up (b) (kk) (some q118)) k = some (ad129 (i + 418 + 3 * k)) := by
        intro k hk
        by_cases e9 : k = kk
        · subst e9; rw [va_up_self]; exact congrArg some (Eq.symm ha136)
        · rw [va_up_ne _ _ e9, hA9 _ (by omega)]; exact fb2 k (by omega)
      have fw' : ∀ k, k < kk + 1 → isPit cs ad129 g137 (i + 418 + 3 * k) 0 0 0 0 (fun _ => 0) := by
        intro k hk
        by_cases e9 : k = kk
        · subst e9; exact hp140
        · exact (gw6 k (by omega)).mv (fun j h1 h2 => hA9 j (by omega)) (fun j h1 h2 => hG9 j (by omega) (by omega))
      have e9 : i + 418 + 3 * kk + 3 = i + 418 + 3 * (kk + 1) := by omega
      rw [e9]
      refine z_widen (k2 := 417 + 3 * (kk + 1)) (n2 := 14796 + 90 * (kk + 1)) (by show 417 + 3 * kk + 1 + 2 ≤ _; omega) (by show 14796 + 90 * kk + 3 + 87 ≤ _; omega) ?_
      refine ih (kk + 1) ad129 g137 (by omega) f1' f2' f8' (fw.mv (fun j h1 h2 => hA9 j (by omega)) (fun j h1 h2 => hG9 j (by omega) (by omega))) (fn.mv (fun j h1 h2 => hA9 j (by omega)) (fun j h1 h2 => hG9 j (by omega) (by omega))) (by rw [hG9 _ (by omega) (by omega)]; exact fr) ?_ (fun k hk => (gw40 k hk).mv (fun j h1 h2 => hA9 j (by omega)) (fun j h1 h2 => hG9 j (by omega) (by omega))) ⟨_, hg139, fb'⟩ fw'
      obtain ⟨b4, q1, q2⟩ := g40
      exact ⟨b4, by rw [hG9 _ (by omega) (by omega)]; exact q1, fun k hk => by rw [hA9 _ (by omega)]; exact q2 k hk⟩
  have loop1 : ∀ (n kk : Nat) (ad1 : Nat → Nat) (g1 : Nat → va_E), kk + n = 40 → (∀ j, j < i + 1 → ad1 j = ad j) → (∀ j, j < i → g1 j = g j) → g1 i = oC 8 [.ref (ad1 (i + 1)), .ref (ad1 (i + 11)), .int (zI 0), .ref (ad1 (i + 12)), .ref (ad1 (i + 13)), .ref (ad1 (i + 17))] → isWorld cs ad1 g1 (i + 1) (fun _ => 0) (fun _ => 0) (fun _ => 0) (fun _ _ => 0) → isNotes cs ad1 g1 (i + 13) 0 (fun _ => 0) (fun _ => 0) (fun _ => 0) → g1 (i + 17) = iA cs 3 (fun _ => 0) → g1 (i + 12) = rA (cs 5) 6 (fun _ => none) → (∃ b : Nat → Option Nat, g1 (i + 11) = rA (cs 4) 40 b ∧ ∀ k, k < kk → b k = some (ad1 (i + 18 + 10 * k))) → (∀ k, k < kk → isWorld cs ad1 g1 (i + 18 + 10 * k) (fun _ => 0) (fun _ => 0) (fun _ => 0) (fun _ _ => 0)) → zV p l e ({ frames := 3, cells := 435, slots := 15336, locals := 180 } : Room) s m [Value.ref a].toArray below meth c (MQ below (zPost D A (rV fun N' ad' g' => N' = i + 436 ∧ (∀ j, j < i + 1 → ad' j = ad j) ∧ (∀ j, j < i + 1 → j ≠ i → g' j = g j) ∧ isSt cs ad' g' i)) [Value.ref a].toArray s ({ frames := 3, cells := 435, slots := 15336, locals := 180 } : Room).cells ({ frames := 3, cells := 435, slots := 15336, locals := 180 } : Room).slots A) D A 2 (i + 18 + 10 * kk) ad1 g1 (17 + 10 * kk) (436 + 359 * kk) 58 [(1, .int (zI (kk : Int))), (0, .ref a)] [] := by
    intro n
    induction n with
    | zero =>
      intro kk ad1 g1 hkk f1 f2 f8 fw fn fr gp g40 gw40
      have haa : zAt ad1 i a := by show ad1 i = a; rw [f1 _ (by omega)]; exact ha
      have ha141 : zAt ad1 (i + 11) (ad1 (i + 11)) := rfl
      obtain ⟨b, fb1, fb2⟩ := g40
      refine z_iload_n C 0 dX6_init_58 rfl ?_
      refine z_aload_n C 1 dX6_init_59 rfl ?_
      refine z_get (v := .ref (ad1 (i + 11))) C (by omega) haa f8 rfl inA_X6 1 (by decide) q_259 rfl rfl dX6_init_60 ?_
      refine z_alen (z := 40) C (by omega) ha141 fb1 4 rfl rfl dX6_init_63 ?_
      have hkk : kk = 40 := by omega
      subst hkk
      refine z_icmp_ge (tgt := 86) C dX6_init_64 (by decide) (by omega) (by omega) (fun _ => ?_) (fun h => absurd h (by omega))
      refine z_iconst (z := 0) C dX6_init_86 rfl ?_
      refine z_istore_n (lv' := [(1, .int (zI (0))), (0, .ref a)]) C dX6_init_87 rfl (by decide) rfl ?_
      refine z_lv (lv' := [(1, .int (zI ((0 : Nat) : Int))), (0, .ref a)]) [0, 1] rfl ?_
      refine z_widen (k2 := 417 + 3 * 0) (n2 := 14796 + 90 * 0) (by decide) (by decide) ?_
      exact loop2 6 0 ad1 g1 rfl f1 f2 f8 fw fn fr ⟨b, fb1, fb2⟩ gw40 ⟨_, gp, fun k hk => absurd hk (Nat.not_lt_zero k)⟩ (fun k hk => absurd hk (Nat.not_lt_zero k))
    | succ n ih =>
      intro kk ad1 g1 hkk f1 f2 f8 fw fn fr gp g40 gw40
      have haa : zAt ad1 i a := by show ad1 i = a; rw [f1 _ (by omega)]; exact ha
      have ha142 : zAt ad1 (i + 11) (ad1 (i + 11)) := rfl
      obtain ⟨b, fb1, fb2⟩ := g40
      refine z_iload_n C 0 dX6_init_58 rfl ?_
      refine z_aload_n C 1 dX6_init_59 rfl ?_
      refine z_get (v := .ref (ad1 (i + 11))) C (by omega) haa f8 rfl inA_X6 1 (by decide) q_259 rfl rfl dX6_init_60 ?_
      refine z_alen (z := 40) C (by omega) ha142 fb1 4 rfl rfl dX6_init_63 ?_
      refine z_icmp_ge (tgt := 86) C dX6_init_64 (by decide) (by omega) (by omega) (fun h => absurd h (by omega)) (fun _ => ?_)
      refine z_aload_n C 1 dX6_init_67 rfl ?_
      refine z_get (v := .ref (ad1 (i + 11))) C (by omega) haa f8 rfl inA_X6 1 (by decide) q_259 rfl rfl dX6_init_68 ?_
      refine z_iload_n C 0 dX6_init_71 rfl ?_
      refine z_new (fs := [.int (zI (0)), .int (zI (0)), .int (zI (0)), .int (zI (0)), .int (zI (0)), .int (zI (0)), .null]) (ci := 10) C tyX8 tyX8_ok rfl inA_X8 q_141 q_142 q_5 (fun j hj => by rcases (show j = 0 ∨ j = 1 ∨ j = 2 ∨ j = 3 ∨ j = 4 ∨ j = 5 ∨ j = 6 by omega) with rfl | rfl | rfl | rfl | rfl | rfl | rfl <;> rfl) (by show _ ≤ 435; omega) (by show _ ≤ 15336; omega) dX6_init_72 (fun q143 ad144 g145 ea146 eg147 => ?_)
      have ha148 : zAt ad144 (i + 18 + 10 * kk) q143 := up_s ea146
      have hg149 := up_s eg147
      refine z_dup C dX6_init_75 rfl ?_
      refine z_cI (As := []) (rest := [.ref q143, .int (zI ((kk : Int))), .ref (ad1 (i + 11))]) C (c_X8_init l D A cs tt _ _ (i + 18 + 10 * kk) q143 ha148 hg149) mi_yX8_init q_143 rfl (by decide +kernel) (by decide) (Nat.le_of_ble_eq_true rfl) ⟨by show _ + 9 ≤ 435; omega, by show _ + 352 ≤ 15336; omega⟩ dX6_init_76 rfl (kV fun M153 ad154 g155 hq156 => ?_)
      obtain ⟨rfl, hA150, hG151, hp152⟩ := hq156
      have ha157 : zAt ad144 (i + 11) (ad1 (i + 11)) := up_n ea146 ha142 (by omega)
      have ha158 : zAt ad154 (i + 11) (ad1 (i + 11)) := (hA150 (i + 11) (by omega)).trans ha157
      have hg159 := up_n eg147 fb1 (by omega)
      have hg160 := (hG151 (i + 11) (by omega) (by omega)).trans hg159
      have ha161 : zAt ad154 (i + 18 + 10 * kk) (q143) := (hA150 (i + 18 + 10 * kk) (lt_o (i := i + 18 + 10 * kk) (c := 0) (d := 1) rfl)).trans ha148
      refine z_aast (q := (RX8, TX8, 7)) C (by omega) ha158 hg160 4 rfl (lt_o (i := i + 18 + 10 * kk) (c := 0) (d := 10) rfl) ha161 hp152.1 rfl (kk) (by omega) (by omega) (by decide) dX6_init_79 (fun g162 eg163 => ?_)
      have hg164 := up_s eg163
      refine z_iinc (z := ((kk + 1 : Nat) : Int)) (lv' := [(1, .int (zI (((kk + 1 : Nat) : Int)))), (0, .ref a)]) (j := 0) C dX6_init_80 rfl (congrArg zI (by omega)) (by decide) rfl ?_
      refine z_goto (tgt := 58) C dX6_init_83 (by decide) ?_
      have hp165 := isWorld.mv (ad' := ad154) (g' := g162) (fun j h1 h2 => by rfl) (fun j h1 h2 => by rw [eg163, va_up_ne _ _ (by omega)]) hp152
      have f1' : ∀ j, j < i + 1 → ad154 j = ad j := fun j h1 => by rw [hA150 _ (by omega)]; rw [ea146, va_up_ne _ _ (by omega)]; exact f1 j h1
      have f2' : ∀ j, j < i → g162 j = g j := fun j h1 => by rw [eg163, va_up_ne _ _ (by omega)]; rw [hG151 _ (by omega) (by omega)]; rw [eg147, va_up_ne _ _ (by omega)]; exact f2 j h1
      have hA9 : ∀ j, j < i + 18 + 10 * kk → ad154 j = ad1 j := fun j h1 => by rw [hA150 _ (by omega)]; rw [ea146, va_up_ne _ _ (by omega)]
      have hG9 : ∀ j, j < i + 18 + 10 * kk → j ≠ i + 11 → g162 j = g1 j := fun j h1 h2 => by rw [eg163, va_up_ne _ _ (by omega)]; rw [hG151 _ (by omega) (by omega)]; rw [eg147, va_up_ne _ _ (by omega)]
      have f8' : g162 i = oC 8 [.ref (ad154 (i + 1)), .ref (ad154 (i + 11)), .int (zI 0), .ref (ad154 (i + 12)), .ref (ad154 (i + 13)), .ref (ad154 (i + 17))] := by rw [hG9 _ (by omega) (by omega), hA9 _ (by omega), hA9 _ (by omega), hA9 _ (by omega), hA9 _ (by omega), hA9 _ (by omega)]; exact f8
      have fb' : ∀ k, k < kk + 1 → (va_up (b) (kk) (some q143)) k = some (ad154 (i + 18 + 10 * k)) := by
        intro k hk
        by_cases e9 : k = kk
        · subst e9; rw [va_up_self]; exact congrArg some (Eq.symm ha161)
        · rw [va_up_ne _ _ e9, hA9 _ (by omega)]; exact fb2 k (by omega)
      have fw' : ∀ k, k < kk + 1 → isWorld cs ad154 g162 (i + 18 + 10 * k) (fun _ => 0) (fun _ => 0) (fun _ => 0) (fun _ _ => 0) := by
        intro k hk
        by_cases e9 : k = kk
        · subst e9; exact hp165
        · exact (gw40 k (by omega)).mv (fun j h1 h2 => hA9 j (by omega)) (fun j h1 h2 => hG9 j (by omega) (by omega))
      have e9 : i + 18 + 10 * kk + 10 = i + 18 + 10 * (kk + 1) := by omega
      rw [e9]
      refine z_widen (k2 := 17 + 10 * (kk + 1)) (n2 := 436 + 359 * (kk + 1)) (by show 17 + 10 * kk + 1 + 9 ≤ _; omega) (by show 436 + 359 * kk + 7 + 352 ≤ _; omega) ?_
      exact ih (kk + 1) ad154 g162 (by omega) f1' f2' f8' (fw.mv (fun j h1 h2 => hA9 j (by omega)) (fun j h1 h2 => hG9 j (by omega) (by omega))) (fn.mv (fun j h1 h2 => hA9 j (by omega)) (fun j h1 h2 => hG9 j (by omega) (by omega))) (by rw [hG9 _ (by omega) (by omega)]; exact fr) (by rw [hG9 _ (by omega) (by omega)]; exact gp) ⟨_, hg164, fb'⟩ fw'
  refine z_lv (lv' := [(1, .int (zI ((0 : Nat) : Int))), (0, .ref a)]) [0, 1] rfl ?_
  refine z_widen (k2 := 17 + 10 * 0) (n2 := 436 + 359 * 0) (by decide) (by decide) ?_
  exact loop1 40 0 ad71 g79 rfl hadf hgf h82 hp98 hp99 hg115 hg114 ⟨_, hg108, fun k hk => absurd hk (Nat.not_lt_zero k)⟩ (fun k hk => absurd hk (Nat.not_lt_zero k))
end
section
-- 09.words.lean.txt
-- words of rec
theorem n_285 : (Jvm.Cond.methodLinkNest "SnowRecorder" (63 : Nat) ({ cls := "SnowRecorder$Guesses", name := "<init>", desc := "()V" } : Jvm.MethodName) "SnowRecorder") ∈ NW := NW_m2 45 (by decide +kernel) (by decide +kernel)
theorem n_309 : (Jvm.Cond.methodLinkNest "SnowRecorder" (70 : Nat) ({ cls := "SnowRecorder$Likeness", name := "<init>", desc := "()V" } : Jvm.MethodName) "SnowRecorder") ∈ NW := NW_m2 69 (by decide +kernel) (by decide +kernel)
theorem n_39 : (Jvm.Cond.methodLinkNest "SnowRecorder" (22 : Nat) ({ cls := "SnowRecorder$TextReader", name := "<init>", desc := "()V" } : Jvm.MethodName) "SnowRecorder") ∈ NW := NW_m1 39 (by decide +kernel) (by decide +kernel)
theorem n_75 : (Jvm.Cond.methodLinkNest "SnowRecorder" (29 : Nat) ({ cls := "SnowRecorder$Plan", name := "<init>", desc := "()V" } : Jvm.MethodName) "SnowRecorder") ∈ NW := NW_m1 75 (by decide +kernel) (by decide +kernel)
theorem q_10 : (Jvm.Cond.initialized "SnowRecorder$Likeness") ∈ AW := AW_m1 10 (by decide +kernel) (by decide +kernel)
theorem q_12 : (Jvm.Cond.initialized "java/lang/StringBuilder") ∈ AW := AW_m1 12 (by decide +kernel) (by decide +kernel)
theorem q_135 : (Jvm.Cond.classLink "SnowRecorder" (34 : Nat) "SnowRecorder$State") ∈ AW := AW_m1 135 (by decide +kernel) (by decide +kernel)
theorem q_136 : (Jvm.Cond.instantiable "SnowRecorder$State" (6 : Nat)) ∈ AW := AW_m1 136 (by decide +kernel) (by decide +kernel)
theorem q_137 : (Jvm.Cond.methodLink "SnowRecorder" (36 : Nat) ({ cls := "SnowRecorder$State", name := "<init>", desc := "()V" } : Jvm.MethodName)) ∈ AW := AW_m1 137 (by decide +kernel) (by decide +kernel)
theorem q_138 : (Jvm.Cond.instanceMethod ({ cls := "SnowRecorder$State", name := "<init>", desc := "()V" } : Jvm.MethodName)) ∈ AW := AW_m1 138 (by decide +kernel) (by decide +kernel)
theorem q_139 : (Jvm.Cond.code ({ cls := "SnowRecorder$State", name := "<init>", desc := "()V" } : Jvm.MethodName) prog_8_method_1_code (2 : Nat) (Option.none : Option Jvm.ClassFile.FieldType)) ∈ AW := AW_m1 139 (by decide +kernel) (by decide +kernel)
theorem q_2 : (Jvm.Cond.initialized "SnowRecorder$TextReader") ∈ AW := AW_m1 2 (by decide +kernel) (by decide +kernel)
theorem q_281 : (Jvm.Cond.classLink "SnowRecorder" (51 : Nat) "SnowRecorder$World") ∈ AW := AW_m2 41 (by decide +kernel) (by decide +kernel)
theorem q_282 : (Jvm.Cond.methodLink "SnowRecorder" (53 : Nat) ({ cls := "SnowRecorder$World", name := "<init>", desc := "()V" } : Jvm.MethodName)) ∈ AW := AW_m2 42 (by decide +kernel) (by decide +kernel)
theorem q_283 : (Jvm.Cond.classLink "SnowRecorder" (61 : Nat) "SnowRecorder$Guesses") ∈ AW := AW_m2 43 (by decide +kernel) (by decide +kernel)
theorem q_284 : (Jvm.Cond.instantiable "SnowRecorder$Guesses" (4 : Nat)) ∈ AW := AW_m2 44 (by decide +kernel) (by decide +kernel)
theorem q_286 : (Jvm.Cond.instanceMethod ({ cls := "SnowRecorder$Guesses", name := "<init>", desc := "()V" } : Jvm.MethodName)) ∈ AW := AW_m2 46 (by decide +kernel) (by decide +kernel)
theorem q_287 : (Jvm.Cond.code ({ cls := "SnowRecorder$Guesses", name := "<init>", desc := "()V" } : Jvm.MethodName) prog_2_method_1_code (1 : Nat) (Option.none : Option Jvm.ClassFile.FieldType)) ∈ AW := AW_m2 47 (by decide +kernel) (by decide +kernel)
theorem q_3 : (Jvm.Cond.initialized "SnowRecorder$Plan") ∈ AW := AW_m1 3 (by decide +kernel) (by decide +kernel)
theorem q_307 : (Jvm.Cond.classLink "SnowRecorder" (68 : Nat) "SnowRecorder$Likeness") ∈ AW := AW_m2 67 (by decide +kernel) (by decide +kernel)
theorem q_308 : (Jvm.Cond.instantiable "SnowRecorder$Likeness" (1 : Nat)) ∈ AW := AW_m2 68 (by decide +kernel) (by decide +kernel)
theorem q_310 : (Jvm.Cond.instanceMethod ({ cls := "SnowRecorder$Likeness", name := "<init>", desc := "()V" } : Jvm.MethodName)) ∈ AW := AW_m2 70 (by decide +kernel) (by decide +kernel)
theorem q_311 : (Jvm.Cond.code ({ cls := "SnowRecorder$Likeness", name := "<init>", desc := "()V" } : Jvm.MethodName) prog_3_method_1_code (1 : Nat) (Option.none : Option Jvm.ClassFile.FieldType)) ∈ AW := AW_m2 71 (by decide +kernel) (by decide +kernel)
theorem q_317 : (Jvm.Cond.classLink "SnowRecorder" (75 : Nat) "java/lang/StringBuilder") ∈ AW := AW_m2 77 (by decide +kernel) (by decide +kernel)
theorem q_318 : (Jvm.Cond.instantiable "java/lang/StringBuilder" (4 : Nat)) ∈ AW := AW_m2 78 (by decide +kernel) (by decide +kernel)
theorem q_319 : (Jvm.Cond.methodLink "SnowRecorder" (77 : Nat) ({ cls := "java/lang/StringBuilder", name := "<init>", desc := "()V" } : Jvm.MethodName)) ∈ AW := AW_m2 79 (by decide +kernel) (by decide +kernel)
theorem q_320 : (Jvm.Cond.instanceMethod ({ cls := "java/lang/StringBuilder", name := "<init>", desc := "()V" } : Jvm.MethodName)) ∈ AW := AW_m2 80 (by decide +kernel) (by decide +kernel)
theorem q_321 : (Jvm.Cond.code ({ cls := "java/lang/StringBuilder", name := "<init>", desc := "()V" } : Jvm.MethodName) prog_26_method_1_code (1 : Nat) (Option.none : Option Jvm.ClassFile.FieldType)) ∈ AW := AW_m2 81 (by decide +kernel) (by decide +kernel)
theorem q_34 : (Jvm.Cond.methodLink "SnowRecorder" (3 : Nat) ({ cls := "java/lang/Object", name := "<init>", desc := "()V" } : Jvm.MethodName)) ∈ AW := AW_m1 34 (by decide +kernel) (by decide +kernel)
theorem q_349 : (Jvm.Cond.fieldLink "SnowRecorder" (9 : Nat) "SnowRecorder" "tape" "[B") ∈ AW := AW_m2 109 (by decide +kernel) (by decide +kernel)
theorem q_350 : (Jvm.Cond.fieldLink "SnowRecorder" (13 : Nat) "SnowRecorder" "tapeSize" "I") ∈ AW := AW_m2 110 (by decide +kernel) (by decide +kernel)
theorem q_351 : (Jvm.Cond.fieldLink "SnowRecorder" (17 : Nat) "SnowRecorder" "faultPlace" "I") ∈ AW := AW_m2 111 (by decide +kernel) (by decide +kernel)
theorem q_352 : (Jvm.Cond.fieldLink "SnowRecorder" (23 : Nat) "SnowRecorder" "reader" "LSnowRecorder$TextReader;") ∈ AW := AW_m2 112 (by decide +kernel) (by decide +kernel)
theorem q_353 : (Jvm.Cond.fieldLink "SnowRecorder" (30 : Nat) "SnowRecorder" "plan" "LSnowRecorder$Plan;") ∈ AW := AW_m2 113 (by decide +kernel) (by decide +kernel)
theorem q_354 : (Jvm.Cond.fieldLink "SnowRecorder" (37 : Nat) "SnowRecorder" "state" "LSnowRecorder$State;") ∈ AW := AW_m2 114 (by decide +kernel) (by decide +kernel)
theorem q_355 : (Jvm.Cond.fieldLink "SnowRecorder" (41 : Nat) "SnowRecorder" "kept" "LSnowRecorder$State;") ∈ AW := AW_m2 115 (by decide +kernel) (by decide +kernel)
theorem q_356 : (Jvm.Cond.fieldLink "SnowRecorder" (44 : Nat) "SnowRecorder" "imaged" "Z") ∈ AW := AW_m2 116 (by decide +kernel) (by decide +kernel)
theorem q_357 : (Jvm.Cond.fieldLink "SnowRecorder" (48 : Nat) "SnowRecorder" "otherPlan" "LSnowRecorder$Plan;") ∈ AW := AW_m2 117 (by decide +kernel) (by decide +kernel)
theorem q_358 : (Jvm.Cond.fieldLink "SnowRecorder" (54 : Nat) "SnowRecorder" "trial" "LSnowRecorder$World;") ∈ AW := AW_m2 118 (by decide +kernel) (by decide +kernel)
theorem q_359 : (Jvm.Cond.fieldLink "SnowRecorder" (58 : Nat) "SnowRecorder" "lead" "LSnowRecorder$World;") ∈ AW := AW_m2 119 (by decide +kernel) (by decide +kernel)
theorem q_360 : (Jvm.Cond.fieldLink "SnowRecorder" (64 : Nat) "SnowRecorder" "guesses" "LSnowRecorder$Guesses;") ∈ AW := AW_m2 120 (by decide +kernel) (by decide +kernel)
theorem q_361 : (Jvm.Cond.fieldLink "SnowRecorder" (71 : Nat) "SnowRecorder" "likeness" "LSnowRecorder$Likeness;") ∈ AW := AW_m2 121 (by decide +kernel) (by decide +kernel)
theorem q_362 : (Jvm.Cond.fieldLink "SnowRecorder" (78 : Nat) "SnowRecorder" "line" "Ljava/lang/StringBuilder;") ∈ AW := AW_m2 122 (by decide +kernel) (by decide +kernel)
theorem q_363 : (Jvm.Cond.laysFinal "SnowRecorder" "SnowRecorder" "tape" "[B") ∈ AW := AW_m2 123 (by decide +kernel) (by decide +kernel)
theorem q_365 : (Jvm.Cond.lays "SnowRecorder" "SnowRecorder" "tapeSize" "I") ∈ AW := AW_m2 125 (by decide +kernel) (by decide +kernel)
theorem q_367 : (Jvm.Cond.lays "SnowRecorder" "SnowRecorder" "faultPlace" "I") ∈ AW := AW_m2 127 (by decide +kernel) (by decide +kernel)
theorem q_369 : (Jvm.Cond.laysFinal "SnowRecorder" "SnowRecorder" "reader" "LSnowRecorder$TextReader;") ∈ AW := AW_m2 129 (by decide +kernel) (by decide +kernel)
theorem q_37 : (Jvm.Cond.classLink "SnowRecorder" (20 : Nat) "SnowRecorder$TextReader") ∈ AW := AW_m1 37 (by decide +kernel) (by decide +kernel)
theorem q_371 : (Jvm.Cond.laysFinal "SnowRecorder" "SnowRecorder" "plan" "LSnowRecorder$Plan;") ∈ AW := AW_m2 131 (by decide +kernel) (by decide +kernel)
theorem q_373 : (Jvm.Cond.laysFinal "SnowRecorder" "SnowRecorder" "state" "LSnowRecorder$State;") ∈ AW := AW_m2 133 (by decide +kernel) (by decide +kernel)
theorem q_375 : (Jvm.Cond.laysFinal "SnowRecorder" "SnowRecorder" "kept" "LSnowRecorder$State;") ∈ AW := AW_m2 135 (by decide +kernel) (by decide +kernel)
theorem q_377 : (Jvm.Cond.lays "SnowRecorder" "SnowRecorder" "imaged" "Z") ∈ AW := AW_m2 137 (by decide +kernel) (by decide +kernel)
theorem q_379 : (Jvm.Cond.laysFinal "SnowRecorder" "SnowRecorder" "otherPlan" "LSnowRecorder$Plan;") ∈ AW := AW_m2 139 (by decide +kernel) (by decide +kernel)
theorem q_38 : (Jvm.Cond.instantiable "SnowRecorder$TextReader" (9 : Nat)) ∈ AW := AW_m1 38 (by decide +kernel) (by decide +kernel)
theorem q_381 : (Jvm.Cond.laysFinal "SnowRecorder" "SnowRecorder" "trial" "LSnowRecorder$World;") ∈ AW := AW_m2 141 (by decide +kernel) (by decide +kernel)
theorem q_383 : (Jvm.Cond.laysFinal "SnowRecorder" "SnowRecorder" "lead" "LSnowRecorder$World;") ∈ AW := AW_m2 143 (by decide +kernel) (by decide +kernel)
theorem q_385 : (Jvm.Cond.laysFinal "SnowRecorder" "SnowRecorder" "guesses" "LSnowRecorder$Guesses;") ∈ AW := AW_m2 145 (by decide +kernel) (by decide +kernel)
theorem q_387 : (Jvm.Cond.laysFinal "SnowRecorder" "SnowRecorder" "likeness" "LSnowRecorder$Likeness;") ∈ AW := AW_m2 147 (by decide +kernel) (by decide +kernel)
theorem q_389 : (Jvm.Cond.laysFinal "SnowRecorder" "SnowRecorder" "line" "Ljava/lang/StringBuilder;") ∈ AW := AW_m2 149 (by decide +kernel) (by decide +kernel)
theorem q_4 : (Jvm.Cond.initialized "SnowRecorder$State") ∈ AW := AW_m1 4 (by decide +kernel) (by decide +kernel)
theorem q_40 : (Jvm.Cond.instanceMethod ({ cls := "SnowRecorder$TextReader", name := "<init>", desc := "()V" } : Jvm.MethodName)) ∈ AW := AW_m1 40 (by decide +kernel) (by decide +kernel)
theorem q_41 : (Jvm.Cond.code ({ cls := "SnowRecorder$TextReader", name := "<init>", desc := "()V" } : Jvm.MethodName) prog_9_method_1_code (1 : Nat) (Option.none : Option Jvm.ClassFile.FieldType)) ∈ AW := AW_m1 41 (by decide +kernel) (by decide +kernel)
theorem q_73 : (Jvm.Cond.classLink "SnowRecorder" (27 : Nat) "SnowRecorder$Plan") ∈ AW := AW_m1 73 (by decide +kernel) (by decide +kernel)
theorem q_74 : (Jvm.Cond.instantiable "SnowRecorder$Plan" (9 : Nat)) ∈ AW := AW_m1 74 (by decide +kernel) (by decide +kernel)
theorem q_76 : (Jvm.Cond.instanceMethod ({ cls := "SnowRecorder$Plan", name := "<init>", desc := "()V" } : Jvm.MethodName)) ∈ AW := AW_m1 76 (by decide +kernel) (by decide +kernel)
theorem q_77 : (Jvm.Cond.code ({ cls := "SnowRecorder$Plan", name := "<init>", desc := "()V" } : Jvm.MethodName) prog_7_method_1_code (1 : Nat) (Option.none : Option Jvm.ClassFile.FieldType)) ∈ AW := AW_m1 77 (by decide +kernel) (by decide +kernel)
theorem q_9 : (Jvm.Cond.initialized "SnowRecorder$Guesses") ∈ AW := AW_m1 9 (by decide +kernel) (by decide +kernel)
theorem mi_yX7_init : zWi yX7_init cX7_init 1 := ⟨q_40, q_2, q_41⟩
theorem mi_yX5_init : zWi yX5_init cX5_init 1 := ⟨q_76, q_3, q_77⟩
theorem mi_yX6_init : zWi yX6_init cX6_init 2 := ⟨q_138, q_4, q_139⟩
theorem mi_yX0_init : zWi yX0_init cX0_init 1 := ⟨q_286, q_9, q_287⟩
theorem mi_yX1_init : zWi yX1_init cX1_init 1 := ⟨q_310, q_10, q_311⟩
theorem mi_yJ4_init_da8c8 : zWi yJ4_init_da8c8 cJ4_init_da8c8 1 := ⟨q_320, q_12, q_321⟩
theorem inA_X9 : ∀ w ∈ u_ws RX9 TX9 14, w ∈ AW := show ∀ w ∈ ([Cond.laysFinal "SnowRecorder" "SnowRecorder" "tape" "[B", Cond.lays "SnowRecorder" "SnowRecorder" "tapeSize" "I", Cond.lays "SnowRecorder" "SnowRecorder" "faultPlace" "I", Cond.laysFinal "SnowRecorder" "SnowRecorder" "reader" "LSnowRecorder$TextReader;", Cond.laysFinal "SnowRecorder" "SnowRecorder" "plan" "LSnowRecorder$Plan;", Cond.laysFinal "SnowRecorder" "SnowRecorder" "state" "LSnowRecorder$State;", Cond.laysFinal "SnowRecorder" "SnowRecorder" "kept" "LSnowRecorder$State;", Cond.lays "SnowRecorder" "SnowRecorder" "imaged" "Z", Cond.laysFinal "SnowRecorder" "SnowRecorder" "otherPlan" "LSnowRecorder$Plan;", Cond.laysFinal "SnowRecorder" "SnowRecorder" "trial" "LSnowRecorder$World;", Cond.laysFinal "SnowRecorder" "SnowRecorder" "lead" "LSnowRecorder$World;", Cond.laysFinal "SnowRecorder" "SnowRecorder" "guesses" "LSnowRecorder$Guesses;", Cond.laysFinal "SnowRecorder" "SnowRecorder" "likeness" "LSnowRecorder$Likeness;", Cond.laysFinal "SnowRecorder" "SnowRecorder" "line" "Ljava/lang/StringBuilder;"] : List Cond), w ∈ AW from List.forall_mem_cons.mpr ⟨q_363, List.forall_mem_cons.mpr ⟨q_365, List.forall_mem_cons.mpr ⟨q_367, List.forall_mem_cons.mpr ⟨q_369, List.forall_mem_cons.mpr ⟨q_371, List.forall_mem_cons.mpr ⟨q_373, List.forall_mem_cons.mpr ⟨q_375, List.forall_mem_cons.mpr ⟨q_377, List.forall_mem_cons.mpr ⟨q_379, List.forall_mem_cons.mpr ⟨q_381, List.forall_mem_cons.mpr ⟨q_383, List.forall_mem_cons.mpr ⟨q_385, List.forall_mem_cons.mpr ⟨q_387, List.forall_mem_cons.mpr ⟨q_389, fun _ h => absurd h List.not_mem_nil⟩⟩⟩⟩⟩⟩⟩⟩⟩⟩⟩⟩⟩⟩
end
section
-- 10.dec.lean.txt
-- decode rows of rec
theorem dX9_init_0 : decode cX9_init 0 = .ok (.aload_n 0, 1) := by decide +kernel
theorem dX9_init_1 : decode cX9_init 1 = .ok (.invokespecial 3, 3) := by decide +kernel
theorem dX9_init_4 : decode cX9_init 4 = .ok (.aload_n 0, 1) := by decide +kernel
theorem dX9_init_5 : decode cX9_init 5 = .ok (.sipush 900, 3) := by decide +kernel
theorem dX9_init_8 : decode cX9_init 8 = .ok (.newarray .byte, 2) := by decide +kernel
theorem dX9_init_10 : decode cX9_init 10 = .ok (.putfield 9, 3) := by decide +kernel
theorem dX9_init_13 : decode cX9_init 13 = .ok (.aload_n 0, 1) := by decide +kernel
theorem dX9_init_14 : decode cX9_init 14 = .ok (.iconst 0, 1) := by decide +kernel
theorem dX9_init_15 : decode cX9_init 15 = .ok (.putfield 13, 3) := by decide +kernel
theorem dX9_init_18 : decode cX9_init 18 = .ok (.aload_n 0, 1) := by decide +kernel
theorem dX9_init_19 : decode cX9_init 19 = .ok (.iconst (-1), 1) := by decide +kernel
theorem dX9_init_20 : decode cX9_init 20 = .ok (.putfield 17, 3) := by decide +kernel
theorem dX9_init_23 : decode cX9_init 23 = .ok (.aload_n 0, 1) := by decide +kernel
theorem dX9_init_24 : decode cX9_init 24 = .ok (.new 20, 3) := by decide +kernel
theorem dX9_init_27 : decode cX9_init 27 = .ok (.dup, 1) := by decide +kernel
theorem dX9_init_28 : decode cX9_init 28 = .ok (.invokespecial 22, 3) := by decide +kernel
theorem dX9_init_31 : decode cX9_init 31 = .ok (.putfield 23, 3) := by decide +kernel
theorem dX9_init_34 : decode cX9_init 34 = .ok (.aload_n 0, 1) := by decide +kernel
theorem dX9_init_35 : decode cX9_init 35 = .ok (.new 27, 3) := by decide +kernel
theorem dX9_init_38 : decode cX9_init 38 = .ok (.dup, 1) := by decide +kernel
theorem dX9_init_39 : decode cX9_init 39 = .ok (.invokespecial 29, 3) := by decide +kernel
theorem dX9_init_42 : decode cX9_init 42 = .ok (.putfield 30, 3) := by decide +kernel
theorem dX9_init_45 : decode cX9_init 45 = .ok (.aload_n 0, 1) := by decide +kernel
theorem dX9_init_46 : decode cX9_init 46 = .ok (.new 34, 3) := by decide +kernel
theorem dX9_init_49 : decode cX9_init 49 = .ok (.dup, 1) := by decide +kernel
theorem dX9_init_50 : decode cX9_init 50 = .ok (.invokespecial 36, 3) := by decide +kernel
theorem dX9_init_53 : decode cX9_init 53 = .ok (.putfield 37, 3) := by decide +kernel
theorem dX9_init_56 : decode cX9_init 56 = .ok (.aload_n 0, 1) := by decide +kernel
theorem dX9_init_57 : decode cX9_init 57 = .ok (.new 34, 3) := by decide +kernel
theorem dX9_init_60 : decode cX9_init 60 = .ok (.dup, 1) := by decide +kernel
theorem dX9_init_61 : decode cX9_init 61 = .ok (.invokespecial 36, 3) := by decide +kernel
theorem dX9_init_64 : decode cX9_init 64 = .ok (.putfield 41, 3) := by decide +kernel
theorem dX9_init_67 : decode cX9_init 67 = .ok (.aload_n 0, 1) := by decide +kernel
theorem dX9_init_68 : decode cX9_init 68 = .ok (.iconst 0, 1) := by decide +kernel
theorem dX9_init_69 : decode cX9_init 69 = .ok (.putfield 44, 3) := by decide +kernel
theorem dX9_init_72 : decode cX9_init 72 = .ok (.aload_n 0, 1) := by decide +kernel
theorem dX9_init_73 : decode cX9_init 73 = .ok (.new 27, 3) := by decide +kernel
theorem dX9_init_76 : decode cX9_init 76 = .ok (.dup, 1) := by decide +kernel
theorem dX9_init_77 : decode cX9_init 77 = .ok (.invokespecial 29, 3) := by decide +kernel
theorem dX9_init_80 : decode cX9_init 80 = .ok (.putfield 48, 3) := by decide +kernel
theorem dX9_init_83 : decode cX9_init 83 = .ok (.aload_n 0, 1) := by decide +kernel
theorem dX9_init_84 : decode cX9_init 84 = .ok (.new 51, 3) := by decide +kernel
theorem dX9_init_87 : decode cX9_init 87 = .ok (.dup, 1) := by decide +kernel
theorem dX9_init_88 : decode cX9_init 88 = .ok (.invokespecial 53, 3) := by decide +kernel
theorem dX9_init_91 : decode cX9_init 91 = .ok (.putfield 54, 3) := by decide +kernel
theorem dX9_init_94 : decode cX9_init 94 = .ok (.aload_n 0, 1) := by decide +kernel
theorem dX9_init_95 : decode cX9_init 95 = .ok (.new 51, 3) := by decide +kernel
theorem dX9_init_98 : decode cX9_init 98 = .ok (.dup, 1) := by decide +kernel
theorem dX9_init_99 : decode cX9_init 99 = .ok (.invokespecial 53, 3) := by decide +kernel
theorem dX9_init_102 : decode cX9_init 102 = .ok (.putfield 58, 3) := by decide +kernel
theorem dX9_init_105 : decode cX9_init 105 = .ok (.aload_n 0, 1) := by decide +kernel
theorem dX9_init_106 : decode cX9_init 106 = .ok (.new 61, 3) := by decide +kernel
theorem dX9_init_109 : decode cX9_init 109 = .ok (.dup, 1) := by decide +kernel
theorem dX9_init_110 : decode cX9_init 110 = .ok (.invokespecial 63, 3) := by decide +kernel
theorem dX9_init_113 : decode cX9_init 113 = .ok (.putfield 64, 3) := by decide +kernel
theorem dX9_init_116 : decode cX9_init 116 = .ok (.aload_n 0, 1) := by decide +kernel
theorem dX9_init_117 : decode cX9_init 117 = .ok (.new 68, 3) := by decide +kernel
theorem dX9_init_120 : decode cX9_init 120 = .ok (.dup, 1) := by decide +kernel
theorem dX9_init_121 : decode cX9_init 121 = .ok (.invokespecial 70, 3) := by decide +kernel
theorem dX9_init_124 : decode cX9_init 124 = .ok (.putfield 71, 3) := by decide +kernel
theorem dX9_init_127 : decode cX9_init 127 = .ok (.aload_n 0, 1) := by decide +kernel
theorem dX9_init_128 : decode cX9_init 128 = .ok (.new 75, 3) := by decide +kernel
theorem dX9_init_131 : decode cX9_init 131 = .ok (.dup, 1) := by decide +kernel
theorem dX9_init_132 : decode cX9_init 132 = .ok (.invokespecial 77, 3) := by decide +kernel
theorem dX9_init_135 : decode cX9_init 135 = .ok (.putfield 78, 3) := by decide +kernel
theorem dX9_init_138 : decode cX9_init 138 = .ok (.return_, 1) := by decide +kernel
end
