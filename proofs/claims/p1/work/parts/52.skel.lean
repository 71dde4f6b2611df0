/-! THE CLAIM OUT OF ONE WALK OF THE LAW'S BODY. Your part is whole_start (and what it stands on); all else here is the same for every law, but numbers. -/
def R_law : String := "SnowRecorderLaw"
def lw_P (b : Addr) (xs : List Int32) (args : Array Value) (s : State) : Prop := args = #[.ref b] ∧ s.IntsAt b xs ∧ xs.length ≤ 6 ∧ (Jvm.Cond.and given_1 narrow_1).before args s = true
def lw_Q (_ : Array Value) (s : State) (o : Outcome) (t : State) : Prop := o = .returned (some (.int 1)) ∧ Framed s o t [] 600002 7302232
def lw_Z (below : List Frame) (a : Array Value) (s : State) : State → Prop := fun t => ∃ o, t.status = .running ∧ Ended t below o ∧ lw_Q a s o t
/-- the law's own end, with 1 on the stack, nothing written that was there before, its room as the claim has it -/
theorem lw_ret {p : Program} {l : Launch} {e : Env} {s : State} {m : MethodId} {below : List Frame} {meth : Method} {c : Code} {b : Nat} (hx : p.tables.exec = Jvm.exec) (hb : c.code = code) (hr : meth.sig.returnType = ret) (hlocks : meth.locks = false) {pc : Nat} {H : Heap} {ls : Array Slot} (hdg : decode code pc = .ok (.ireturn, 1)) : W p l e room_1 s m #[Value.ref b] below meth c H [] 600002 7302232 (lw_Z below #[Value.ref b] s) (F0 m pc ls [.int 1]) := by
  intro T hT X
  obtain ⟨fs, hret, hrun, hended, hW, hframe⟩ := X.leave (v := some (.int 1)) (hlocks := hlocks) (fun h => by rw [hr] at h; cases h)
  have hmeth' : T.vm.method? m = some meth := X.method'
  refine ⟨T.setFrames fs, ?_, .returned (some (.int 1)), hrun, hended, rfl, ⟨_, rfl⟩, hW, hframe⟩
  jvm_step X.here [X.here.top, hx, hb, hdg, hmeth', hr, ret, narrow_b1]
  (try refine ⟨rfl, ?_⟩); (try refine ⟨rfl, ?_⟩)
  first | (intro acts; rw [hret _ acts rfl rfl rfl]) | rw [hret _ _ rfl rfl rfl]
  exact Steps.refl _
/-- what holds at the law's entry: the machine, the code, the tables' words (any of lw_tbl by 'hts w (by decide +kernel)'), the script of L ints xs at the cell b, what the Statement gives of the start (any of its parts by flat_of_before) -/
def lw_At (p : Program) (s : State) (m : MethodId) (meth : Method) (c : Code) (b L : Nat) (xs : Nat → Int32) : Prop :=
  p.tables.exec = Jvm.exec ∧ c.code = code ∧ meth.sig.returnType = ret ∧ c.maxLocals = 7 ∧ s.vm.findClass R_law = some m.cls ∧ (∀ w ∈ lw_tbl, w.before #[Value.ref b] s = true) ∧ va_X b L xs s s.heap ∧ b < s.heap.size ∧ meth.locks = false ∧ (Jvm.Cond.and given_1 narrow_1).before #[Value.ref b] s = true
section ZLaw
variable {p : Program} {l : Launch} {e : Env} {R : Room} {s : State} {m : MethodId} {args : Array Value} {below : List Frame} {meth : Method} {c : Code} {Q : State → Prop} {D : va_G} {A : Nat → Prop} {cs : Nat → ClassId} {tt : Nat} {cc : ByteArray} {nL : Nat} {own : String} {N : Nat} {ad : Nat → Nat} {g : Nat → va_E} {k n pc : Nat} {lv : List (Nat × Value)} {rest : List Value}
theorem z_sld (C : zC p s m args c cc nL own D A cs tt) {b L : Nat} {xs : Nat → Int32} (hX : va_X b L xs s s.heap) (hbl : b < s.heap.size) (hbA : ¬ A b) (j : Nat) {z x : Int} (hz : z = (j : Int)) (hj : j < L) (hL : L ≤ 2147483647) (hx : xs j = zI x) (hdg : decode cc pc = .ok (.iaload, 1)) (kk : zV p l e R s m args below meth c Q D A nL N ad g k n (pc + 1) (lv) (.int (zI x) :: rest)) : zV p l e R s m args below meth c Q D A nL N ad g k n (pc) (lv) (.int (zI z) :: .ref b :: rest) := by
  subst hz
  exact fun H locs ls hP hD hS hl => va_sld C.1 C.2.1 hX hbl hbA hS (zI_in hj hL) hdg (by rw [zI_clN (by omega), hx]; exact kk H locs ls hP hD hS hl)
theorem z_slen (C : zC p s m args c cc nL own D A cs tt) {b L : Nat} {xs : Nat → Int32} (hX : va_X b L xs s s.heap) (hbl : b < s.heap.size) (hbA : ¬ A b) (hdg : decode cc pc = .ok (.arraylength, 1)) (kk : zV p l e R s m args below meth c Q D A nL N ad g k n (pc + 1) (lv) (.int (zI (L : Int)) :: rest)) : zV p l e R s m args below meth c Q D A nL N ad g k n (pc) (lv) (.ref b :: rest) :=
  fun H locs ls hP hD hS hl => va_slen C.1 C.2.1 hX hbl hbA hS hdg (by rw [zI_nat]; exact kk H locs ls hP hD hS hl)
theorem z_lcmp0 (C : zC p s m args c cc nL own D A cs tt) {a : Int} (hdg : decode cc pc = .ok (.lcmp, 1)) (kk : zV p l e R s m args below meth c Q D A nL N ad g k n (pc + 1) (lv) (.int (zI 0) :: rest)) : zV p l e R s m args below meth c Q D A nL N ad g k n (pc) (lv) (.long (zJ a) :: .long (zJ a) :: rest) :=
  fun H locs ls hP hD hS hl => W.lcmp C.1 C.2.1 hdg (by rw [show lg_cmp (zJ a) (zJ a) = zI 0 by simp [lg_cmp]; rfl]; exact kk H locs ls hP hD hS hl)
theorem z_lend {b : Nat} (C : zC p s m #[Value.ref b] c code 7 own D A cs tt) (hr : meth.sig.returnType = ret) (hlk : meth.locks = false) (hA : ∀ q, A q → s.heap.size ≤ q) (hdg : decode code pc = .ok (.ireturn, 1)) (hk : k ≤ 600002) (hn : n ≤ 7302232) : zV p l e room_1 s m #[Value.ref b] below meth c (lw_Z below #[Value.ref b] s) D A 7 N ad g k n (pc) (lv) [.int (zI 1)] :=
  fun H locs ls hP hD hS hl => va_forget (fun q hq => hA _ (hS.2.2 q hq)) (W.widen hk hn (lw_ret C.1 C.2.1 hr hlk hdg))
theorem isM0.cell {i : Nat} (h : isM0 cs ad g i) : g i = mC ad i mF0 := by
  obtain ⟨B, h1, _⟩ := h
  exact h1.1
end ZLaw
