section ZPV
variable {p : Program} {l : Launch} {e : Env} {R : Room} {s : State} {m : MethodId} {args : Array Value} {below : List Frame} {meth : Method} {c : Code}
theorem zp_callVP {T : State} {locs : List Loc} {cells slots : Nat} (X : Stand p l e R s m args below meth c T locs cells slots) (hexec : p.tables.exec = Jvm.exec) {own : String} {index : Nat} {y : MethodName} {bytes : ByteArray} {maxL : Nat} {ret : Option FieldType}
    (hown : s.vm.findClass own = some m.cls) (hlink : (Cond.methodLink own index y).before args s = true) (hsame : (Cond.sameMethod y.cls y.cls y.name y.desc).before args s = true) (hpriv : (Cond.privateMethod y).before args s = true) (hinst : (Cond.instanceMethod y).before args s = true) (hcode : (Cond.code y bytes maxL ret).before args s = true) (hy : y.cls ≠ "java/lang/invoke/MethodHandle" ∧ y.cls ≠ "java/lang/invoke/VarHandle")
    {W : Nat} {Pre : Pt → Array Value → Prop} {Post : Pt → Array Value → Option Value → Pt → Prop} (hK : Back l R p e below s args y 3 W Pre Post)
    {b : Addr} {cellB : Cell} (hcell : T.heap[b]? = some cellB) (hobj : cellB.vm.isStatics = false)
    {g : JFrame} (hg : g.method = m) (hsize : g.locals.size = c.maxLocals) {argsL rest : List Value} (hlen : ∀ sig, parseMethodDescriptor y.desc = some sig → argsL.length = sig.parameters.length)
    (hstack : g.stack = argsL.reverse ++ .ref b :: rest) (hW : 2 * g.monitorRoom + (rest.map fun v => v.category).sum ≤ W) (hdg : decode c.code g.pc = .ok (.invokevirtual index, 3))
    (hpre : ∀ vm₁, s.WarmedH vm₁ → Pre ⟨T.setVm vm₁, locs, cells, slots⟩ (Value.ref b :: argsL).toArray) :
    ∃ (v : Option Value) (vm₁ : Vm) (B : Pt), s.WarmedH vm₁ ∧ Stand p l e R s m args below meth c B.U B.locs B.cells B.slots ∧ Post ⟨T.setVm vm₁, locs, cells, slots⟩ (Value.ref b :: argsL).toArray v B ∧
      ∀ target, Steps p.tables e below (B.U.setTop { g with pc := g.pc + 3, stack := v.toList ++ rest }) target → Steps p.tables e below (T.setTop g) target := by
  obtain ⟨mk, methM, hnamed, hmethM, hstM, habM⟩ := Cond.instanceMethod_spec hinst
  obtain ⟨methM', cM, hmethM', -, -, -, -, -, -, hsigM⟩ := Cond.code_spec hnamed hcode
  cases hmethM.symm.trans hmethM'
  obtain ⟨cn, ck, r1, hcn, hck, hni, hf, hn1⟩ := Cond.sameMethod_found hsame
  have hn : s.methodNamed? ⟨y.cls, y.name, y.desc⟩ = some mk := hnamed
  have hpm : cn = mk.cls := Option.some.inj (hcn.symm.trans (findClass_of_methodNamed hnamed))
  subst hpm
  have hselP : selectMethod e.platform s.vm cellB.cls mk = .method mk := selectMethod_private hmethM (Cond.privateMethod_at hpriv mk methM hnamed hmethM)
  obtain ⟨vm₁, X₁, hstep₁⟩ := X.invokevirtualUp hexec hown hlink hsame hy hn hmethM hstM (a := b) (cell := cellB) hcell
    (fun z h => by rw [h] at hobj; cases hobj) hselP hmethM habM hck hni (g := g) hg (argsL := argsL) (rest := rest) (hlen _ hsigM) hstack hdg
  obtain ⟨v, B, X', hpost, hsteps⟩ := hK m meth c ⟨T.setVm vm₁, locs, cells, slots⟩ { g with stack := rest } (.invokevirtual index) mk (Value.ref b :: argsL).toArray X₁ hg hsize hdg hW (X₁.named hnamed) (hpre vm₁ X₁.warmed)
  exact ⟨v, vm₁, B, X₁.warmed, X', hpost, fun target h => hstep₁ _ fun acts => by rw [doInvoke_state]; exact hsteps.trans h⟩
variable {H : Heap} {locs : List Loc} {cells slots : Nat}
theorem zp_runVP {y : MethodName} {bytes cc : ByteArray} {maxL nL mc ms n index : Nat} {ret : Option FieldType} {ws : List Cond} {rm : Room} {Pc : Array Value → State → Prop} {Qc : Array Value → State → Outcome → State → Prop} {free : Addr → Prop} {Ts : List Cond} {own C : String} {b : Addr} {As rest : List Value} {g : JFrame}
    (S : CallFix p m c cc nL s args Ts own) (hM : Met l y ws rm Pc Qc mc ms free) (hrc : rm.cells = mc) (hrs : rm.slots = ms) (hfr : rm.frames + 1 ≤ R.frames) (hlo : 8 + (maxL + 11) + rm.locals ≤ R.locals) (hws : ∀ w ∈ ws, ∀ (a' : Array Value) (U : State), s.WarmedH U.vm → w.before a' U = true) (hcw : Cond.code y bytes maxL ret ∈ ws)
    (hlink : (Cond.methodLink own index y).before args s = true) (hsame : (Cond.sameMethod y.cls y.cls y.name y.desc).before args s = true) (hpriv : (Cond.privateMethod y).before args s = true) (hinst : (Cond.instanceMethod y).before args s = true) (hini : (Cond.initialized y.cls).before args s = true) (hcode : (Cond.code y bytes maxL ret).before args s = true) (hy : y.cls ≠ "java/lang/invoke/MethodHandle" ∧ y.cls ≠ "java/lang/invoke/VarHandle" ∧ (parseMethodDescriptor y.desc).map (fun d => d.parameters.length) = some n) (hp : PreV s H C b Pc As)
    (hg : g.method = m) (hn : As.length = n) (hsize : g.locals.size = nL) (hstack : g.stack = As.reverse ++ .ref b :: rest) (hW : 2 * g.monitorRoom + (rest.map fun v => v.category).sum ≤ 8) (hdg : decode cc g.pc = .ok (.invokevirtual index, 3)) (hf : cells + mc ≤ R.cells ∧ slots + ms ≤ R.slots) :
    va_Run p l e R s m args below meth c H locs cells slots mc ms g rest (Qc (Value.ref b :: As).toArray) (free) := by
  have hK : Back l R p e below s args y 3 8 (PreOf R mc ms Pc) (PostOf Qc mc ms free) := back_of (bytes := bytes) (maxL := maxL) (ret := ret) hM hp.1 hrc hrs hfr hlo hws hcw (fun a' U hW => word_at hW (Or.inl (by first | rfl | simp [Cond.onTables, Cond.keeps, Cond.steady])) hini)
  obtain ⟨hx, hb, hml, ho, -⟩ := S
  obtain ⟨-, ⟨cellB, hcB, hoB, hclB⟩, hPc⟩ := hp
  have hlen : ∀ sig, parseMethodDescriptor y.desc = some sig → n = sig.parameters.length := fun sig h => by
    have h2 := hy.2.2
    rw [h] at h2
    exact (Option.some.inj h2).symm
  intro T hT X
  obtain ⟨v, vm₁, ⟨U', l2, c2, s2⟩, hW₁, X', ⟨g', mk, t, L, e1, e2, hq, h1, hL, h2, h3⟩, st⟩ := zp_callVP X hx (bytes := bytes) (maxL := maxL) (ret := ret) ho hlink hsame hpriv hinst hcode ⟨hy.1, hy.2.1⟩ hK (by rw [hT]; exact hcB) hoB hg (hsize.trans hml.symm) (argsL := As) (rest := rest) (fun sig h => hn.trans (hlen sig h)) hstack hW (by rw [hb]; exact hdg)
    (fun vm₁ hW₁ => ⟨hf.1, hf.2, hPc (T.setVm vm₁) hT hW₁⟩)
  dsimp only [Pt.U, Pt.locs, Pt.cells, Pt.slots] at X' e1 e2 h1 h2 h3 st
  subst h1; subst h2; subst h3
  exact ⟨v, (T.setVm vm₁).calling g' mk (Value.ref b :: As).toArray, t, U', L, hT, X', hL, e1, e2, hq, st⟩
end ZPV

section ZPC
variable {p : Program} {l : Launch} {e : Env} {R : Room} {s : State} {m : MethodId} {args : Array Value} {below : List Frame} {meth : Method} {c : Code} {Q : State → Prop} {D : va_G} {A : Nat → Prop} {cs : Nat → ClassId} {tt : Nat} {cc : ByteArray} {nL : Nat} {own : String} {N : Nat} {ad : Nat → Nat} {g : Nat → va_E} {k n pc : Nat} {lv lv' : List (Nat × Value)} {rest st : List Value} {Qr : zR} {mc ms : Nat}
theorem z_cVP (C : zC p s m args c cc nL own D A cs tt) {y : MethodName} {cb : ByteArray} {mL index : Nat} {ret : Option FieldType} {rm : Room} {As : List Value} {i a ci : Nat} {fs : List Value} {q : vw_C} (hM : zM l y cb mL ret rm D A cs tt N ad g (.ref a :: As) Qr) (hi : i < N) (ha : ad i = a) (hg : g i = oC ci fs) (hc : vwCl[ci]? = some q) (hlk : Cond.methodLink own index y ∈ AW) (hsm : Cond.sameMethod y.cls y.cls y.name y.desc ∈ AW) (hpv : Cond.privateMethod y ∈ NW) (hin : Cond.instanceMethod y ∈ AW) (hini : Cond.initialized y.cls ∈ AW) (hcd : Cond.code y cb mL ret ∈ AW) (hd : y.cls ≠ "java/lang/invoke/MethodHandle" ∧ y.cls ≠ "java/lang/invoke/VarHandle" ∧ (parseMethodDescriptor y.desc).map (fun d => d.parameters.length) = some As.length) (hR : rm.frames + 1 ≤ R.frames ∧ 8 + (mL + 11) + rm.locals ≤ R.locals) (hrest : (rest.map fun v => v.category).sum ≤ 8) (hf : k + rm.cells ≤ R.cells ∧ n + rm.slots ≤ R.slots) (hdg : decode cc pc = .ok (.invokevirtual index, 3)) (hst : st = As.reverse ++ .ref a :: rest)
    (kk : ∀ (r : Option Value) (N' : Nat) (ad' : Nat → Nat) (g' : Nat → va_E), Qr r N' ad' g' → zV p l e R s m args below meth c Q D A nL N' ad' g' (k + rm.cells) (n + rm.slots) (pc + 3) (lv) (r.toList ++ rest)) : zV p l e R s m args below meth c Q D A nL N ad g k n (pc) (lv) (st) := fun H locs ls hP hD hS hl => by
  have hrc : ∃ cell : Cell, H[a]? = some cell ∧ cell.vm.isStatics = false ∧ s.vm.findClass q.1 = some cell.cls := va_recv C.2.2.2.2.2.1 hP hc ((wl_at hi).trans (by rw [hg, ha]))
  have hT := C.2.2.2.2.1
  exact z_run (zp_runVP (As := As) (rest := rest) (C := q.1) ⟨C.1, C.2.1, C.2.2.1, C.2.2.2.1, C.2.2.2.2.1⟩ hM rfl rfl hR.1 hR.2 (pay_in C.2.2.2.2.1 (AW_cons hcd)) List.mem_cons_self (hT _ hlk) (hT _ hsm) (NW_use hpv (C.2.2.2.2.2.2.1 _ hpv)) (hT _ hin) (hT _ hini) (hT _ hcd) hd ⟨zPre.blind, hrc, (z_preS C hP hD hS).2⟩ rfl rfl hl.1 hst (lv_room hrest) hdg hf) hS hl kk
theorem z_cVU (C : zC p s m args c cc nL own D A cs tt) {y : MethodName} {cb : ByteArray} {mL index : Nat} {ret : Option FieldType} {rm : Room} {As : List Value} {i a ci : Nat} {fs : List Value} {q : vw_C} (hM : zM l y cb mL ret rm D A cs tt N ad g (.ref a :: As) Qr) (hi : i < N) (ha : ad i = a) (hg : g i = oC ci fs) (hc : vwCl[ci]? = some q) (hlk : Cond.methodLink own index y ∈ AW) (hsm : Cond.sameMethod y.cls y.cls y.name y.desc ∈ AW) (hsl : Cond.selects q.1 y y ∈ AW) (hin : Cond.instanceMethod y ∈ AW) (hini : Cond.initialized y.cls ∈ AW) (hcd : Cond.code y cb mL ret ∈ AW) (hd : y.cls ≠ "java/lang/invoke/MethodHandle" ∧ y.cls ≠ "java/lang/invoke/VarHandle" ∧ (parseMethodDescriptor y.desc).map (fun d => d.parameters.length) = some As.length) (hR : rm.frames + 1 ≤ R.frames ∧ 8 + (mL + 11) + rm.locals ≤ R.locals) (hrest : (rest.map fun v => v.category).sum ≤ 8) (hf : k + rm.cells ≤ R.cells ∧ n + rm.slots ≤ R.slots) (hdg : decode cc pc = .ok (.invokevirtual index, 3)) (hst : st = As.reverse ++ .ref a :: rest)
    (kk : ∀ (r : Option Value) (N' : Nat) (ad' : Nat → Nat) (g' : Nat → va_E), Qr r N' ad' g' → zV p l e R s m args below meth c Q D A nL N' ad' g' (k + rm.cells) (n + rm.slots) (pc + 3) (lv) (r.toList ++ rest)) : zV p l e R s m args below meth c Q D A nL N ad g k n (pc) (lv) (st) := fun H locs ls hP hD hS hl => by
  have hrc : ∃ cell : Cell, H[a]? = some cell ∧ cell.vm.isStatics = false ∧ s.vm.findClass q.1 = some cell.cls := va_recv C.2.2.2.2.2.1 hP hc ((wl_at hi).trans (by rw [hg, ha]))
  have hG : GoodIn AW (va_wsU own index q.1 y.cls y y (Cond.code y cb mL ret :: AW)) := AW_in (fun w h => by
    unfold va_wsU at h
    rcases List.mem_append.mp h with h | h
    · rcases List.mem_cons.mp h with rfl | h
      · exact hlk
      · rcases List.mem_cons.mp h with rfl | h
        · exact hsm
        · rcases List.mem_cons.mp h with rfl | h
          · exact hsl
          · rcases List.mem_cons.mp h with rfl | h
            · exact hin
            · rcases List.mem_cons.mp h with rfl | h
              · exact hini
              · exact absurd h List.not_mem_nil
    · rcases List.mem_cons.mp h with rfl | h
      · exact hcd
      · exact h)
  exact z_run (va_runU (As := As) (rest := rest) ⟨C.1, C.2.1, C.2.2.1, C.2.2.2.1, C.2.2.2.2.1⟩ hM (va_cwU As.length C.2.2.2.2.1 hG rfl rfl rfl rfl hd hR) ⟨zPre.blind, hrc, (z_preS C hP hD hS).2⟩ rfl rfl hl.1 hst (lv_room hrest) hdg hf) hS hl kk
theorem z_cSU (C : zC p s m args c cc nL own D A cs tt) {y : MethodName} {cb : ByteArray} {mL index : Nat} {ret : Option FieldType} {rm : Room} {As : List Value} {i a ci : Nat} {fs : List Value} {q : vw_C} (hM : zM l y cb mL ret rm D A cs tt N ad g (.ref a :: As) Qr) (hi : i < N) (ha : ad i = a) (hg : g i = oC ci fs) (hc : vwCl[ci]? = some q) (hlk : Cond.methodLink own index y ∈ AW) (hsm : Cond.sameMethod y.cls y.cls y.name y.desc ∈ AW) (hsp : Cond.superclass own y.cls ∈ AW) (hin : Cond.instanceMethod y ∈ AW) (hini : Cond.initialized y.cls ∈ AW) (hcd : Cond.code y cb mL ret ∈ AW) (hnm : y.name ≠ "<init>") (hd : y.cls ≠ "java/lang/invoke/MethodHandle" ∧ y.cls ≠ "java/lang/invoke/VarHandle" ∧ (parseMethodDescriptor y.desc).map (fun d => d.parameters.length) = some As.length) (hR : rm.frames + 1 ≤ R.frames ∧ 8 + (mL + 11) + rm.locals ≤ R.locals) (hrest : (rest.map fun v => v.category).sum ≤ 8) (hf : k + rm.cells ≤ R.cells ∧ n + rm.slots ≤ R.slots) (hdg : decode cc pc = .ok (.invokespecial index, 3)) (hst : st = As.reverse ++ .ref a :: rest)
    (kk : ∀ (r : Option Value) (N' : Nat) (ad' : Nat → Nat) (g' : Nat → va_E), Qr r N' ad' g' → zV p l e R s m args below meth c Q D A nL N' ad' g' (k + rm.cells) (n + rm.slots) (pc + 3) (lv) (r.toList ++ rest)) : zV p l e R s m args below meth c Q D A nL N ad g k n (pc) (lv) (st) := fun H locs ls hP hD hS hl => by
  have hrc : ∃ cell : Cell, H[a]? = some cell ∧ cell.vm.isStatics = false ∧ s.vm.findClass q.1 = some cell.cls := va_recv C.2.2.2.2.2.1 hP hc ((wl_at hi).trans (by rw [hg, ha]))
  have hG : GoodIn AW (va_wsSU own index y (Cond.code y cb mL ret :: AW)) := AW_in (fun w h => by
    unfold va_wsSU at h
    rcases List.mem_append.mp h with h | h
    · rcases List.mem_cons.mp h with rfl | h
      · exact hlk
      · rcases List.mem_cons.mp h with rfl | h
        · exact hsm
        · rcases List.mem_cons.mp h with rfl | h
          · exact hsp
          · rcases List.mem_cons.mp h with rfl | h
            · exact hin
            · rcases List.mem_cons.mp h with rfl | h
              · exact hini
              · exact absurd h List.not_mem_nil
    · rcases List.mem_cons.mp h with rfl | h
      · exact hcd
      · exact h)
  have hat := (C.2.2.2.2.2.1.1 _ _ hc).2
  exact z_run (va_runSU (As := As) (rest := rest) hat ⟨C.1, C.2.1, C.2.2.1, C.2.2.2.1, C.2.2.2.2.1⟩ hM (va_cwSU As.length C.2.2.2.2.1 hG rfl rfl rfl ⟨hnm, hd.2.2⟩ hR) ⟨zPre.blind, hrc, (z_preS C hP hD hS).2⟩ rfl rfl hl.1 hst (lv_room hrest) hdg hf) hS hl kk

end ZPC

