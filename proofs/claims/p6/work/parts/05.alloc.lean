theorem zRA_fc {U : State} {cA : ClassId} {ty : FieldType} (h : va_RA U cA ty) : U.vm.findClass ("[" ++ ty.toString) = some cA := by
  cases ty with
  | object Cn => obtain ⟨_, _, _, _, _, h4⟩ := h; exact h4
  | _ => exact h
theorem zK_cls {D : va_G} {cs : Nat → ClassId} {s : State} {cA cB : ClassId} {ty : FieldType} (t : Nat) (ht : (tyL cs)[t]? = some (cB, ty)) (hK : va_K D vwCl (tyL cs ++ [(cA, ty)]) s) : cA = cB := by
  have h1 := zRA_fc (hK.2 (tyL cs).length _ (by rw [List.getElem?_append_right (Nat.le_refl _), Nat.sub_self]; rfl)).2
  have hlt : t < (tyL cs).length := (List.getElem?_eq_some_iff.mp ht).1
  have h2 := zRA_fc (hK.2 t _ (by rw [List.getElem?_append_left hlt]; exact ht)).2
  exact Option.some.inj (h1.symm.trans h2)
section ZA
variable {p : Program} {l : Launch} {e : Env} {R : Room} {s : State} {m : MethodId} {args : Array Value} {below : List Frame} {meth : Method} {c : Code} {Q : State → Prop} {D : va_G} {A : Nat → Prop} {cs : Nat → ClassId} {tt : Nat} {cc : ByteArray} {nL : Nat} {own : String} {N : Nat} {ad : Nat → Nat} {g : Nat → va_E} {k n pc : Nat} {lv lv' : List (Nat × Value)} {rest st : List Value}
theorem z_newI (C : zC p s m args c cc nL own D A cs tt) {z : Int} (M : Nat) (hz : z = (M : Int)) (hw : Cond.arrayClass .int ∈ AW) (hM : M * componentBytes .int ≤ 536870912 ∧ M ≤ 2147483647) (hcells : k + 1 ≤ R.cells) (hslots : n + M ≤ R.slots) (hdg : decode cc pc = .ok (.newarray .int, 2)) (kk : ∀ (q : Nat) (ad' : Nat → Nat) (g' : Nat → va_E), ad' = va_up ad N q → g' = va_up g N (iA cs M (fun _ => 0)) → zV p l e R s m args below meth c Q D A nL (N + 1) ad' g' (k + 1) (n + M) (pc + 2) (lv) (.ref q :: rest)) : zV p l e R s m args below meth c Q D A nL N ad g k n (pc) (lv) (.int (zI z) :: rest) := by
  subst hz
  exact fun H locs ls hP hD hS hl => va_newa (atype := .int) (ty := .int) (a0 := (M, .inl (fun _ => zI 0))) (N' := M) C.1 C.2.1 (C.2.2.2.2.1 _ hw) rfl C.2.2.2.2.2.1 hP hD hS C.2.2.2.2.2.2.2.1 (fun cA => rfl) (by rw [← zI_0, zI_lt (by omega) (by omega)]; omega) (zI_clN hM.2) hM.1 hcells hslots hdg (fun q cA H1 hK1 hP1 hD1 hS1 => by
    obtain rfl := zK_cls 1 rfl hK1
    rw [wl_push] at hP1 hD1
    exact kk q _ _ rfl rfl H1 locs ls hP1 hD1 hS1 hl)
theorem z_newB (C : zC p s m args c cc nL own D A cs tt) {z : Int} (M : Nat) (hz : z = (M : Int)) (hw : Cond.arrayClass .byte ∈ AW) (hM : M * componentBytes .byte ≤ 536870912 ∧ M ≤ 2147483647) (hcells : k + 1 ≤ R.cells) (hslots : n + M ≤ R.slots) (hdg : decode cc pc = .ok (.newarray .byte, 2)) (kk : ∀ (q : Nat) (ad' : Nat → Nat) (g' : Nat → va_E), ad' = va_up ad N q → g' = va_up g N (bA cs M (fun _ => 0)) → zV p l e R s m args below meth c Q D A nL (N + 1) ad' g' (k + 1) (n + M) (pc + 2) (lv) (.ref q :: rest)) : zV p l e R s m args below meth c Q D A nL N ad g k n (pc) (lv) (.int (zI z) :: rest) := by
  subst hz
  exact fun H locs ls hP hD hS hl => va_newa (atype := .byte) (ty := .byte) (a0 := (M, .inl (fun _ => zI 0))) (N' := M) C.1 C.2.1 (C.2.2.2.2.1 _ hw) rfl C.2.2.2.2.2.1 hP hD hS C.2.2.2.2.2.2.2.1 (fun cA => rfl) (by rw [← zI_0, zI_lt (by omega) (by omega)]; omega) (zI_clN hM.2) hM.1 hcells hslots hdg (fun q cA H1 hK1 hP1 hD1 hS1 => by
    obtain rfl := zK_cls 0 rfl hK1
    rw [wl_push] at hP1 hD1
    exact kk q _ _ rfl rfl H1 locs ls hP1 hD1 hS1 hl)
theorem z_newJ (C : zC p s m args c cc nL own D A cs tt) {z : Int} (M : Nat) (hz : z = (M : Int)) (hw : Cond.arrayClass .long ∈ AW) (hM : M * componentBytes .long ≤ 536870912 ∧ M ≤ 2147483647) (hcells : k + 1 ≤ R.cells) (hslots : n + M ≤ R.slots) (hdg : decode cc pc = .ok (.newarray .long, 2)) (kk : ∀ (q : Nat) (ad' : Nat → Nat) (g' : Nat → va_E), ad' = va_up ad N q → g' = va_up g N (jA cs M (fun _ => 0)) → zV p l e R s m args below meth c Q D A nL (N + 1) ad' g' (k + 1) (n + M) (pc + 2) (lv) (.ref q :: rest)) : zV p l e R s m args below meth c Q D A nL N ad g k n (pc) (lv) (.int (zI z) :: rest) := by
  subst hz
  exact fun H locs ls hP hD hS hl => va_newa (atype := .long) (ty := .long) (a0 := (M, .inr (.inl (fun _ => zJ 0)))) (N' := M) C.1 C.2.1 (C.2.2.2.2.1 _ hw) rfl C.2.2.2.2.2.1 hP hD hS C.2.2.2.2.2.2.2.1 (fun cA => rfl) (by rw [← zI_0, zI_lt (by omega) (by omega)]; omega) (zI_clN hM.2) hM.1 hcells hslots hdg (fun q cA H1 hK1 hP1 hD1 hS1 => by
    obtain rfl := zK_cls 2 rfl hK1
    rw [wl_push] at hP1 hD1
    exact kk q _ _ rfl rfl H1 locs ls hP1 hD1 hS1 hl)
theorem z_newR (C : zC p s m args c cc nL own D A cs tt) {Cn : String} {cA0 : ClassId} {index : Nat} {z : Int} (t M : Nat) (hz : z = (M : Int)) (ht : (tyL cs)[t]? = some (cA0, .object Cn)) (hw : Cond.classLink own index Cn ∈ AW) (ho : va_AO Cn s) (hM : M * 4 ≤ 536870912 ∧ M ≤ 2147483647) (hcells : k + 1 ≤ R.cells) (hslots : n + M ≤ R.slots) (hdg : decode cc pc = .ok (.anewarray index, 3)) (kk : ∀ (q : Nat) (ad' : Nat → Nat) (g' : Nat → va_E), ad' = va_up ad N q → g' = va_up g N (rA cA0 M (fun _ => none)) → zV p l e R s m args below meth c Q D A nL (N + 1) ad' g' (k + 1) (n + M) (pc + 3) (lv) (.ref q :: rest)) : zV p l e R s m args below meth c Q D A nL N ad g k n (pc) (lv) (.int (zI z) :: rest) := by
  subst hz
  exact fun H locs ls hP hD hS hl => va_newq (N' := M) C.1 C.2.1 C.2.2.2.1 (C.2.2.2.2.1 _ hw) ho C.2.2.2.2.2.1 hP hD hS C.2.2.2.2.2.2.2.1 (by rw [← zI_0, zI_lt (by omega) (by omega)]; omega) (zI_clN hM.2) hM.1 hcells hslots hdg (fun q cA H1 hK1 hP1 hD1 hS1 => by
    obtain rfl := zK_cls t ht hK1
    rw [wl_push] at hP1 hD1
    exact kk q _ _ rfl rfl H1 locs ls hP1 hD1 hS1 hl)
theorem z_getT (C : zC p s m args c cc nL own D A cs tt) {index : Nat} {host : String} (hw : Cond.fieldLinkNest own index RX9 "TABLE" "[I" host ∈ NW) (hdg : decode cc pc = .ok (.getstatic index, 3)) (kk : zV p l e R s m args below meth c Q D A nL N ad g k n (pc + 3) (lv) (.ref tt :: rest)) : zV p l e R s m args below meth c Q D A nL N ad g k n (pc) (lv) (rest) := fun H locs ls hP hD hS hl => va_getsN C.1 C.2.1 C.2.2.2.2.2.2.2.2.2.1.1 hS C.2.2.2.1 (NW_use hw (C.2.2.2.2.2.2.1 _ hw)) (fun _ h => h) hdg (kk H locs ls hP hD hS hl)
theorem zTB_cell {H : Heap} {locs : List Loc} (hE : zE D A cs tt s) (hS : va_S A s.heap H locs) : ∃ cell : Cell, H[tt]? = some cell ∧ s.isArrayOf cell .int ∧ cell.vm ≠ .unknown ∧ cell.cls = cs 1 ∧ cell.slots = (arrV (cs 1) 15 (fun j => .int (zI (tabZ j)))).slots ∧ s.vm.findClass "[I" = some cell.cls ∧ ¬ A tt := by
  obtain ⟨cell, h1, h2, h3, h4, h5, h6, h7⟩ := hE.2.2.2.2.1.2.1
  have hc : s.vm.findClass "[I" = some (cs 1) := zRA_fc (hE.1.2 1 _ rfl).2
  refine ⟨cell, by rw [hS.2.1 tt (Array.getElem?_eq_some_iff.mp h1).1 h7]; exact h1, h2, h3, Option.some.inj (h6.symm.trans hc), ?_, h6, h7⟩
  apply Array.ext_getElem?
  intro j
  by_cases hj : j < 15
  · rw [h5 j hj, arrV_read _ _ hj]
  · rw [Array.getElem?_eq_none (by omega), Array.getElem?_eq_none (by rw [arrV_size]; omega)]
theorem z_cloneT (C : zC p s m args c cc nL own D A cs tt) {index : Nat} (hlk : Cond.methodLink own index ⟨"[I", "clone", "()Ljava/lang/Object;"⟩ ∈ AW) (hsm : Cond.sameMethod "[I" "java/lang/Object" "clone" "()Ljava/lang/Object;" ∈ AW) (hnat : Cond.native ⟨"java/lang/Object", "clone", "()Ljava/lang/Object;"⟩ ∈ AW) (hinst : Cond.instanceMethod ⟨"java/lang/Object", "clone", "()Ljava/lang/Object;"⟩ ∈ AW)
    (hsel : Cond.selects "[I" ⟨"[I", "clone", "()Ljava/lang/Object;"⟩ ⟨"java/lang/Object", "clone", "()Ljava/lang/Object;"⟩ ∈ AW) (hcl : Cond.castable "[I" "java/lang/Cloneable" ∈ NW) (hframes : 1 ≤ R.frames) (hlocals : (rest.map fun v => v.category).sum + 14 ≤ R.locals) (hcells : k + 1 ≤ R.cells) (hslots : n + 15 ≤ R.slots) (hdg : decode cc pc = .ok (.invokevirtual index, 3))
    (kk : ∀ (q : Nat) (ad' : Nat → Nat) (g' : Nat → va_E), ad' = va_up ad N q → g' = va_up g N (iA cs 15 tabZ) → zV p l e R s m args below meth c Q D A nL (N + 1) ad' g' (k + 1) (n + 15) (pc + 3) (lv) (.ref q :: rest)) : zV p l e R s m args below meth c Q D A nL N ad g k n (pc) (lv) (.ref tt :: rest) := by
  intro H locs ls hP hD hS hl T hT X
  obtain ⟨cell, hc1, hof, hkn, hcls, hsl, hfc, hnA⟩ := zTB_cell C.2.2.2.2.2 hS
  obtain ⟨c0, t0', f1, f2, f3⟩ := Cond.castable_spec (NW_use (a := args) hcl (C.2.2.2.2.2.2.1 _ hcl))
  cases hfc.symm.trans f1
  obtain ⟨ho1, kS, hkS, compS, hkindS⟩ := hof
  obtain ⟨-, kA, hkA, comp, hkind⟩ := State.isArrayOf_alike X.warmed.alike (⟨ho1, kS, hkS, compS, hkindS⟩ : s.isArrayOf cell .int)
  have hsz : cell.slots.size = 15 := by rw [hsl, arrV_size]
  obtain ⟨vm', X', st9⟩ := X.cloneArray C.1 C.2.2.2.1 (C.2.2.2.2.1 _ hlk) (C.2.2.2.2.1 _ hsm) (C.2.2.2.2.1 _ hnat) (C.2.2.2.2.1 _ hinst) (C.2.2.2.2.1 _ hsel) (a := tt) (cell := cell) (by rw [hT]; exact hc1) ho1 hkn hfc f2 f3
    (fun i v hv => by
      have hk' : T.vm.classes[cell.cls]? = some kA := hkA
      have hv2 : fits .int v = true := by
        by_cases hi : i < 15
        · rw [hsl, arrV_read _ _ hi] at hv
          cases hv
          rfl
        · rw [Array.getElem?_eq_none (by omega)] at hv
          cases hv
      simpa [State.fitsSlot, State.slotType?, hk', hkind] using hv2)
    (g := F0 m pc ls (.ref tt :: rest)) rfl (by rw [C.2.2.1]; exact hl.1) rfl (by rw [C.2.1]; exact hdg) hframes (by show 2 * 0 + _ + 14 ≤ _; omega) hcells (by rw [hsz]; exact hslots) (hloader := Vm.clonesLoader_of_array hkS hkindS)
  have hcE : ({ cls := cell.cls, slots := cell.slots } : Cell) = vp_cell (cs 1) (15, .inl (fun j => zI (tabZ j))) := by rw [hcls, hsl]; rfl
  rw [hcE, hsz] at X'
  generalize hH1 : H.push (vp_cell (cs 1) (15, .inl (fun j => zI (tabZ j)))) = H1
  have e1 : H1[H.size]? = some (vp_cell (cs 1) (15, .inl (fun j => zI (tabZ j)))) := by rw [← hH1, Array.getElem?_push_size]
  have o1 : ∀ q : Nat, q < H.size → H1[q]? = H[q]? := fun q hq => by rw [← hH1, Array.getElem?_push, if_neg (Nat.ne_of_lt hq)]
  have z1 : H1.size = H.size + 1 := by rw [← hH1, Array.size_push]
  have hP1 : va_P D vwCl (wl N ad g ++ [(H.size, iA cs 15 tabZ)]) H1 := (hP.kept (fun k y hy => o1 y.1 ((hP k y hy).lt))).app (fun k y hy => by
      have hz : k < 1 := (List.getElem?_eq_some_iff.mp hy).1
      rw [show k = 0 by omega] at hy
      cases hy
      exact e1)
  have hD1 : va_D A (wl N ad g ++ [(H.size, iA cs 15 tabZ)]) := hD.push hP rfl (C.2.2.2.2.2.2.2.1 _ hS.1)
  rw [wl_push] at hP1 hD1
  obtain ⟨t, b1, b2⟩ := kk H.size _ _ rfl rfl H1 locs ls hP1 hD1 ⟨Nat.le_trans hS.1 (by omega), fun y h1 h2 => (o1 y (Nat.lt_of_lt_of_le h1 hS.1)).trans (hS.2.1 y h1 h2), hS.2.2⟩ hl ((T.setVm vm').pushCell (vp_cell (cs 1) (15, .inl (fun j => zI (tabZ j))))) (by rw [← hH1, ← hT]; rfl) X'
  refine ⟨t, st9 t ?_, b2⟩
  rw [hcE, hT]
  exact b1
theorem z_castI (C : zC p s m args c cc nL own D A cs tt) {i a index M : Nat} {r : Nat → Int} (hi : i < N) (ha : ad i = a) (hg : g i = iA cs M r) (hw : Cond.classLink own index "[I" ∈ AW) (hdg : decode cc pc = .ok (.checkcast index, 3)) (kk : zV p l e R s m args below meth c Q D A nL N ad g k n (pc + 3) (lv) (.ref a :: rest)) : zV p l e R s m args below meth c Q D A nL N ad g k n (pc) (lv) (.ref a :: rest) := fun H locs ls hP hD hS hl => va_castA C.1 C.2.1 C.2.2.2.1 (C.2.2.2.2.1 _ hw) hP i ((wl_at hi).trans (by rw [hg, ha])) (zRA_fc (C.2.2.2.2.2.1.2 1 _ rfl).2) hdg (kk H locs ls hP hD hS hl)
def cZ (f h : Nat → Int) (sp dp n : Nat) : Nat → Int := fun j => if dp ≤ j ∧ j < dp + n then f (sp + (j - dp)) else h j
theorem cZ_cpy (f h : Nat → Int) (sp dp n : Nat) : va_cpy (fun j => zI (f j)) (fun j => zI (h j)) sp dp n = fun j => zI (cZ f h sp dp n j) := by
  funext j
  by_cases hj : dp ≤ j ∧ j < dp + n
  · rw [pk_cpy_in hj.1 hj.2]; simp only [cZ, if_pos hj]
  · rw [pk_cpy_out (by omega)]; simp only [cZ, if_neg hj]
theorem cZ_all {f h : Nat → Int} {n j : Nat} (hj : j < n) : cZ f h 0 0 n j = f j := by
  show (if 0 ≤ j ∧ j < 0 + n then f (0 + (j - 0)) else h j) = f j
  rw [if_pos (by omega)]; congr 1; omega
theorem z_copyI (C : zC p s m args c cc nL own D A cs tt) {index i j a b : Nat} (hlk : Cond.methodLink own index arraycopyName ∈ AW) (hnat : Cond.native arraycopyName ∈ AW) (hstat : Cond.static arraycopyName ∈ AW) (hini : Cond.initialized "java/lang/System" ∈ AW) (hi : i < N) (hj : j < N) (ha : ad i = a) (hb : ad j = b) {M1 M2 : Nat} {f h : Nat → Int} (hg1 : g i = iA cs M1 f) (hg2 : g j = iA cs M2 h) (sp dp L : Nat) {zs zd zn : Int} (h1 : zs = (sp : Int)) (h2 : zd = (dp : Int)) (h3 : zn = (L : Int)) (h4 : sp + L ≤ M1) (h5 : dp + L ≤ M2) (h6 : M1 ≤ 2147483647 ∧ M2 ≤ 2147483647) (hframes : 1 ≤ R.frames) (hlocals : (rest.map fun v => v.category).sum + (nativeFrameWords "java/lang/System" "arraycopy" 5 + 11) ≤ R.locals) (hdg : decode cc pc = .ok (.invokestatic index, 3)) (kk : ∀ g' : Nat → va_E, g' = va_up g j (iA cs M2 (cZ f h sp dp L)) → zV p l e R s m args below meth c Q D A nL N ad g' k n (pc + 3) (lv) (rest)) : zV p l e R s m args below meth c Q D A nL N ad g k n (pc) (lv) (.int (zI zn) :: .int (zI zd) :: .ref b :: .int (zI zs) :: .ref a :: rest) := by
  subst h1; subst h2; subst h3; subst ha; subst hb
  have nn : ∀ x : Nat, x ≤ 2147483647 → ¬ zI (x : Int) < 0 := fun x hx => by rw [← zI_0, zI_lt (by omega) (by omega)]; omega
  exact fun H locs ls hP hD hS hl => va_copyi C.1 C.2.1 (by rw [C.2.2.1]; exact hl.1.symm) C.2.2.2.1 (C.2.2.2.2.1 _ hlk) (C.2.2.2.2.1 _ hnat) (C.2.2.2.2.1 _ hstat) (C.2.2.2.2.1 _ hini) C.2.2.2.2.2.1 hP hD hS i j 1 1 ((wl_at hi).trans (by rw [hg1])) ((wl_at hj).trans (by rw [hg2])) rfl rfl rfl (nn _ (by omega)) (nn _ (by omega)) (nn _ (by omega)) (by rw [zI_clN (by omega), zI_clN (by omega)]; exact h4) (by rw [zI_clN (by omega), zI_clN (by omega)]; exact h5) (fun _ _ => rfl) hframes hlocals hdg (fun H1 locs1 hP1 hD1 hS1 => by
    rw [zI_clN (by omega), zI_clN (by omega), zI_clN (by omega), cZ_cpy, wl_set] at hP1 hD1
    exact kk _ rfl H1 locs1 ls hP1 hD1 hS1 hl)
theorem z_copyT (C : zC p s m args c cc nL own D A cs tt) {index j b : Nat} (hlk : Cond.methodLink own index arraycopyName ∈ AW) (hnat : Cond.native arraycopyName ∈ AW) (hstat : Cond.static arraycopyName ∈ AW) (hini : Cond.initialized "java/lang/System" ∈ AW) (hj : j < N) (hb : ad j = b) {h : Nat → Int} (hg2 : g j = iA cs 15 h) (hframes : 1 ≤ R.frames) (hlocals : (rest.map fun v => v.category).sum + (nativeFrameWords "java/lang/System" "arraycopy" 5 + 11) ≤ R.locals) (hdg : decode cc pc = .ok (.invokestatic index, 3)) (kk : ∀ g' : Nat → va_E, g' = va_up g j (iA cs 15 (cZ tabZ h 0 0 15)) → zV p l e R s m args below meth c Q D A nL N ad g' k n (pc + 3) (lv) (rest)) : zV p l e R s m args below meth c Q D A nL N ad g k n (pc) (lv) (.int (zI 15) :: .int (zI 0) :: .ref b :: .int (zI 0) :: .ref tt :: rest) := by
  subst hb
  intro H locs ls hP hD hS hl T hT X
  obtain ⟨cell, hc0, hof, hkn, hcls, hsl, hfc, hnA⟩ := zTB_cell C.2.2.2.2.2 hS
  have he := (wl_at (ad := ad) (g := g) hj).trans (by rw [hg2])
  have hc1 : H[ad j]? = some (vp_cell (cs 1) (15, .inl (fun k => zI (h k)))) := hP j _ he
  obtain ⟨ho1, k0, hk0, cm0, hkk0⟩ := hof
  obtain ⟨-, k1, hk1, cm1, hkk1⟩ := (C.2.2.2.2.2.1.2 1 _ rfl).1 15 (fun j => .int (zI (h j)))
  have hrd : ∀ j : Nat, j < 15 → cell.slots[j]? = some (.int (zI (tabZ j))) := fun j hj => by rw [hsl, arrV_read _ _ hj]
  have hsz : cell.slots.size = 15 := by rw [hsl, arrV_size]
  have c15 : (zI 15).toNatClampNeg = 15 := zI_clN (k := 15) (by omega)
  have c0 : (zI 0).toNatClampNeg = 0 := rfl
  obtain ⟨vm', X', step⟩ := X.arraycopy C.1 C.2.2.2.1 (C.2.2.2.2.1 _ hlk) (C.2.2.2.2.1 _ hnat) (C.2.2.2.2.1 _ hstat) (C.2.2.2.2.1 _ hini) (src := tt) (dst := ad j) (cs := cell) (cd := vp_cell (cs 1) (15, .inl (fun k => zI (h k)))) (srcPos := zI 0) (destPos := zI 0) (n := zI 15) (by rw [hT]; exact hc0) (by rw [hT]; exact hc1)
    ho1 (fun _ h => by cases h) hkn (fun h => by cases h) hk0 hk1 hkk0 hkk1 (by simp [refKind]) (by decide) (by decide) (by decide)
    (by show ¬ (0 : Int) + 15 > _; rw [hsz]; omega)
    (by show ¬ (0 : Int) + 15 > ((arrV (cs 1) 15 (fun j => .int (zI (h j)))).slots.size : Int); rw [arrV_size]; omega)
    (fun vm₁ _ i hi => by
      have e : cell.slots.getD ((zI 0).toNatClampNeg + i) .null = .int (zI (tabZ i)) := by
        rw [c15] at hi
        rw [c0, Nat.zero_add, Array.getD_eq_getD_getElem?, hrd i hi]
        rfl
      refine ⟨?_, ?_⟩
      · rw [e]; rfl
      · rw [e]; exact trivial)
    (g := F0 m pc ls (.int (zI 15) :: .int (zI 0) :: .ref (ad j) :: .int (zI 0) :: .ref tt :: rest)) rfl (by rw [C.2.2.1]; exact hl.1) (rest := rest) rfl (by rw [C.2.1]; exact hdg) hframes (by show 2 * 0 + _ + _ ≤ _; omega)
  have e1 : copied cell (vp_cell (cs 1) (15, .inl (fun k => zI (h k)))) (zI 0) (zI 0) (zI 15) = vp_cell (cs 1) (15, .inl (fun k => zI (cZ tabZ h 0 0 15 k))) := by
    have q9 : copied cell (vp_cell (cs 1) (15, .inl (fun k => zI (h k)))) (zI 0) (zI 0) (zI 15) = vp_cell (cs 1) (15, .inl (va_cpy (fun k => zI (tabZ k)) (fun k => zI (h k)) (zI 0).toNatClampNeg (zI 0).toNatClampNeg (zI 15).toNatClampNeg)) := va_copiedX (fun z => .int z) cell (cs 1) (fun k => zI (tabZ k)) (fun k => zI (h k)) hrd (by rw [c0, c15]; omega)
    rw [q9, c0, c15, cZ_cpy]
  rw [e1] at X' step
  have hlt : ad j < H.size := (Array.getElem?_eq_some_iff.mp hc1).1
  generalize hH1 : H.setIfInBounds (ad j) (vp_cell (cs 1) (15, .inl (fun k => zI (cZ tabZ h 0 0 15 k)))) = H1
  have oq : ∀ q : Nat, q ≠ ad j → H1[q]? = H[q]? := fun q hq => by rw [← hH1]; simp [Array.getElem?_setIfInBounds, Ne.symm hq]
  have ea : H1[ad j]? = some (vp_cell (cs 1) (15, .inl (fun k => zI (cZ tabZ h 0 0 15 k)))) := by rw [← hH1]; simp [Array.getElem?_setIfInBounds, hlt]
  have hz1 : H1.size = H.size := by rw [← hH1]; simp
  have hP1 := hP.set (e := iA cs 15 (cZ tabZ h 0 0 15)) hD he ea oq
  have hD1 := hD.set (e := iA cs 15 (cZ tabZ h 0 0 15)) he
  rw [wl_set] at hP1 hD1
  have hAj : A (ad j) := hD.2 j _ he
  obtain ⟨t, a1, b1⟩ := kk _ rfl H1 _ ls hP1 hD1 ⟨by rw [hz1]; exact hS.1, fun q g1 g2 => by
      rw [oq q (fun e => g2 (by rw [e]; exact hAj))]
      exact hS.2.1 q g1 g2, fun q hq => by
      rcases List.mem_append.mp hq with h | h
      · exact hS.2.2 q h
      · obtain ⟨z, -, hz⟩ := List.mem_map.mp h
        rw [← hz]
        exact hAj⟩ hl _ (by rw [← hH1, ← hT]; rfl) X'
  exact ⟨t, step t a1, b1⟩
theorem z_mmax (C : zC p s m args c cc nL own D A cs tt) {index : Nat} {a b : Int} (hlk : Cond.methodLink own index Lib.Math.max.name ∈ AW) (hstat : Cond.static Lib.Math.max.name ∈ AW) (hini : Cond.initialized "java/lang/Math" ∈ AW) (hcd : Cond.code Lib.Math.max.name Lib.Math.max.code 2 (some .int) ∈ AW) (ha : -2147483648 ≤ a ∧ a ≤ 2147483647) (hb : -2147483648 ≤ b ∧ b ≤ 2147483647) (hframes : 1 ≤ R.frames) (hlocals : (rest.map fun v => v.category).sum + 13 ≤ R.locals) (hc : k ≤ R.cells) (hs : n ≤ R.slots) (hdg : decode cc pc = .ok (.invokestatic index, 3)) (kk : zV p l e R s m args below meth c Q D A nL N ad g k n (pc + 3) (lv) (.int (zI (if a < b then b else a)) :: rest)) : zV p l e R s m args below meth c Q D A nL N ad g k n (pc) (lv) (.int (zI b) :: .int (zI a) :: rest) := fun H locs ls hP hD hS hl => va_mmax C.1 C.2.1 (by rw [C.2.2.1]; exact hl.1.symm) C.2.2.2.1 (C.2.2.2.2.1 _ hlk) (C.2.2.2.2.1 _ hstat) (C.2.2.2.2.1 _ hini) (C.2.2.2.2.1 _ hcd) hframes hlocals hc hs hdg (by
    have e9 : (if zI a < zI b then zI b else zI a) = zI (if a < b then b else a) := by
      by_cases h : a < b
      · rw [if_pos h, if_pos ((zI_lt ha hb).mpr h)]
      · rw [if_neg h, if_neg (fun q => h ((zI_lt ha hb).mp q))]
    rw [e9]; exact kk H locs ls hP hD hS hl)
theorem z_mmin (C : zC p s m args c cc nL own D A cs tt) {index : Nat} {a b : Int} (hlk : Cond.methodLink own index Lib.Math.min.name ∈ AW) (hstat : Cond.static Lib.Math.min.name ∈ AW) (hini : Cond.initialized "java/lang/Math" ∈ AW) (hcd : Cond.code Lib.Math.min.name Lib.Math.min.code 2 (some .int) ∈ AW) (ha : -2147483648 ≤ a ∧ a ≤ 2147483647) (hb : -2147483648 ≤ b ∧ b ≤ 2147483647) (hframes : 1 ≤ R.frames) (hlocals : (rest.map fun v => v.category).sum + 13 ≤ R.locals) (hc : k ≤ R.cells) (hs : n ≤ R.slots) (hdg : decode cc pc = .ok (.invokestatic index, 3)) (kk : zV p l e R s m args below meth c Q D A nL N ad g k n (pc + 3) (lv) (.int (zI (if b < a then b else a)) :: rest)) : zV p l e R s m args below meth c Q D A nL N ad g k n (pc) (lv) (.int (zI b) :: .int (zI a) :: rest) := fun H locs ls hP hD hS hl => va_mmin C.1 C.2.1 (by rw [C.2.2.1]; exact hl.1.symm) C.2.2.2.1 (C.2.2.2.2.1 _ hlk) (C.2.2.2.2.1 _ hstat) (C.2.2.2.2.1 _ hini) (C.2.2.2.2.1 _ hcd) hframes hlocals hc hs hdg (by
    have e9 : (if zI b < zI a then zI b else zI a) = zI (if b < a then b else a) := by
      by_cases h : b < a
      · rw [if_pos h, if_pos ((zI_lt hb ha).mpr h)]
      · rw [if_neg h, if_neg (fun q => h ((zI_lt hb ha).mp q))]
    rw [e9]; exact kk H locs ls hP hD hS hl)
theorem z_mna (C : zC p s m args c cc nL own D A cs tt) {index : Nat} (hw : Cond.classLink own index "[[I" ∈ AW) (hac : Cond.arrayClass .int ∈ AW) (hcells : k + 5 ≤ R.cells) (hslots : n + 4804 ≤ R.slots) (hdg : decode cc pc = .ok (.multianewarray index 2, 4))
    (kk : ∀ (q : Nat) (r : Nat → Nat) (ad' : Nat → Nat) (g' : Nat → va_E), ad' = va_up (va_up (va_up (va_up (va_up ad N q) (N + 1) (r 0)) (N + 1 + 1) (r 1)) (N + 1 + 1 + 1) (r 2)) (N + 1 + 1 + 1 + 1) (r 3) → g' = va_up (va_up (va_up (va_up (va_up g N (rA (cs 6) 4 (fun i => if i < 4 then some (r i) else none))) (N + 1) (iA cs 1200 (fun _ => 0))) (N + 1 + 1) (iA cs 1200 (fun _ => 0))) (N + 1 + 1 + 1) (iA cs 1200 (fun _ => 0))) (N + 1 + 1 + 1 + 1) (iA cs 1200 (fun _ => 0)) → zV p l e R s m args below meth c Q D A nL (N + 1 + 1 + 1 + 1 + 1) ad' g' (k + 1 + 4) (n + 4 + 4 * 1200) (pc + 4) (lv) (.ref q :: rest)) : zV p l e R s m args below meth c Q D A nL N ad g k n (pc) (lv) (.int (zI 1200) :: .int (zI 4) :: rest) := by
  intro H locs ls hP hD hS hl
  have hP0 : va_P D vwCl (wl N ad g ++ va_pl [] (fun _ => iA cs 0 (fun _ => 0))) H := by show va_P D vwCl (wl N ad g ++ []) H; rw [List.append_nil]; exact hP
  have hD0 : va_D A (wl N ad g ++ va_pl [] (fun _ => iA cs 0 (fun _ => 0))) := by show va_D A (wl N ad g ++ []); rw [List.append_nil]; exact hD
  refine va_mna (X := wl N ad g) (L := []) (f := fun _ => iA cs 0 (fun _ => 0)) (ty := .int) (cy := cs 1) (N' := 4) (K' := 1200) (z := (1200, .inl (fun _ => zI 0))) C.1 C.2.1 C.2.2.2.1 (C.2.2.2.2.1 _ hw) C.2.2.2.2.2.2.2.2.1.2.2.2 (C.2.2.2.2.1 _ hac) (zRA_fc (C.2.2.2.2.2.1.2 1 _ rfl).2) C.2.2.2.2.2.1 hP0 hD0 hS C.2.2.2.2.2.2.2.1 (by decide) (by decide) (by decide) (by decide) (by decide) (by decide) (by decide) rfl rfl (by omega) (by omega) (fun c9 => arrV_new c9 1200 (.int 0)) hdg (fun q r cA H1 hinj hnin hK1 hP1 hD1 hS1 => ?_)
  obtain rfl := zK_cls 6 rfl hK1
  have e9 : va_pl ([] ++ (List.range 4).map r) (vr_up (fun _ => iA cs 0 (fun _ => 0)) ((List.range 4).map r) (iA cs 1200 (fun _ => 0))) = [(r 0, iA cs 1200 (fun _ => 0))] ++ ([(r 1, iA cs 1200 (fun _ => 0))] ++ ([(r 2, iA cs 1200 (fun _ => 0))] ++ [(r 3, iA cs 1200 (fun _ => 0))])) := by
    show ([r 0, r 1, r 2, r 3].map fun a => (a, vr_up (fun _ => iA cs 0 (fun _ => 0)) [r 0, r 1, r 2, r 3] (iA cs 1200 (fun _ => 0)) a)) = _
    simp [vr_up]
  rw [e9, wl_push, ← List.append_assoc, wl_push, ← List.append_assoc, wl_push, ← List.append_assoc, wl_push, wl_push] at hP1 hD1
  exact kk q r _ _ rfl rfl H1 locs ls hP1 hD1 hS1 hl
theorem z_getZ (C : zC p s m args c cc nL own D A cs tt) {index : Nat} (hw : Cond.fieldLink own index RJ0 "COMPACT_STRINGS" "Z" ∈ AW) (hdg : decode cc pc = .ok (.getstatic index, 3)) (kk : zV p l e R s m args below meth c Q D A nL N ad g k n (pc + 3) (lv) (.int (zI 1) :: rest)) : zV p l e R s m args below meth c Q D A nL N ad g k n (pc) (lv) (rest) := fun H locs ls hP hD hS hl => va_gets C.1 C.2.1 C.2.2.2.2.2.2.2.2.2.1.2.2 hS C.2.2.2.1 (C.2.2.2.2.1 _ hw) (fun _ h => h) hdg (kk H locs ls hP hD hS hl)
end ZA
