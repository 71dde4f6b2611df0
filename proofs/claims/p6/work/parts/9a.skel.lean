/-! THE CLAIM OUT OF ONE WALK OF THE LAW'S BODY. Your part is whole_start (and what it stands on); all else here is the same for every law, but numbers. -/
def R_law : String := "SnowRecorderLaw"
def lw_P (b : Addr) (xs : List Int32) (args : Array Value) (s : State) : Prop := args = #[.ref b] ∧ s.IntsAt b xs ∧ xs.length ≤ 3072 ∧ (Jvm.Cond.and given_1 narrow_1).before args s = true
def lw_Q (_ : Array Value) (s : State) (o : Outcome) (t : State) : Prop := o = .returned (some (.int 1)) ∧ Framed s o t [] 601024 7293034
def lw_Z (below : List Frame) (a : Array Value) (s : State) : State → Prop := fun t => ∃ o, t.status = .running ∧ Ended t below o ∧ lw_Q a s o t
/-- the law's own end, with 1 on the stack, nothing written that was there before, its room as the claim has it -/
theorem lw_ret {p : Program} {l : Launch} {e : Env} {s : State} {m : MethodId} {below : List Frame} {meth : Method} {c : Code} {b : Nat} (hx : p.tables.exec = Jvm.exec) (hb : c.code = code) (hr : meth.sig.returnType = ret) (hlocks : meth.locks = false) {pc : Nat} {H : Heap} {ls : Array Slot} (hdg : decode code pc = .ok (.ireturn, 1)) : W p l e room_1 s m #[Value.ref b] below meth c H [] 601024 7293034 (lw_Z below #[Value.ref b] s) (F0 m pc ls [.int 1]) := by
  intro T hT X
  obtain ⟨fs, hret, hrun, hended, hW, hframe⟩ := X.leave (v := some (.int 1)) (hlocks := hlocks) (fun h => by rw [hr] at h; cases h)
  have hmeth' : T.vm.method? m = some meth := X.method'
  refine ⟨T.setFrames fs, ?_, .returned (some (.int 1)), hrun, hended, rfl, ⟨_, rfl⟩, hW, hframe⟩
  jvm_step X.here [X.here.top, hx, hb, hdg, hmeth', hr, ret, narrow_b1]
  (try refine ⟨rfl, ?_⟩); (try refine ⟨rfl, ?_⟩)
  first | (intro acts; rw [hret _ acts rfl rfl rfl]) | rw [hret _ _ rfl rfl rfl]
  exact Steps.refl _
/-- what holds at the law's entry: the machine, the code, the tables' words (any of lw_tbl by 'hts w (by decide +kernel)'), the script of L ints xs at the cell b, what the Statement gives of the start (any of its parts by flat_of_before) -/
def lw_At (p : Program) (s : State) (m : MethodId) (meth : Method) (c : Code) (b L : Nat) (xs : Nat → Int32) : Prop :=
  p.tables.exec = Jvm.exec ∧ c.code = code ∧ meth.sig.returnType = ret ∧ c.maxLocals = 7 ∧ s.vm.findClass R_law = some m.cls ∧ (∀ w ∈ lw_tbl, w.before #[Value.ref b] s = true) ∧ va_X b L xs s s.heap ∧ b < s.heap.size ∧ meth.locks = false ∧ (Jvm.Cond.and given_1 narrow_1).before #[Value.ref b] s = true
section ZLaw
variable {p : Program} {l : Launch} {e : Env} {R : Room} {s : State} {m : MethodId} {args : Array Value} {below : List Frame} {meth : Method} {c : Code} {Q : State → Prop} {D : va_G} {A : Nat → Prop} {cs : Nat → ClassId} {tt : Nat} {cc : ByteArray} {nL : Nat} {own : String} {N : Nat} {ad : Nat → Nat} {g : Nat → va_E} {k n pc : Nat} {lv : List (Nat × Value)} {rest : List Value}
theorem z_sld (C : zC p s m args c cc nL own D A cs tt) {b L : Nat} {xs : Nat → Int32} (hX : va_X b L xs s s.heap) (hbl : b < s.heap.size) (hbA : ¬ A b) (j : Nat) {z x : Int} (hz : z = (j : Int)) (hj : j < L) (hL : L ≤ 2147483647) (hx : xs j = zI x) (hdg : decode cc pc = .ok (.iaload, 1)) (kk : zV p l e R s m args below meth c Q D A nL N ad g k n (pc + 1) (lv) (.int (zI x) :: rest)) : zV p l e R s m args below meth c Q D A nL N ad g k n (pc) (lv) (.int (zI z) :: .ref b :: rest) := by
  subst hz
  exact fun H locs ls hP hD hS hl => va_sld C.1 C.2.1 hX hbl hbA hS (zI_in hj hL) hdg (by rw [zI_clN (by omega), hx]; exact kk H locs ls hP hD hS hl)
theorem z_slen (C : zC p s m args c cc nL own D A cs tt) {b L : Nat} {xs : Nat → Int32} (hX : va_X b L xs s s.heap) (hbl : b < s.heap.size) (hbA : ¬ A b) (hdg : decode cc pc = .ok (.arraylength, 1)) (kk : zV p l e R s m args below meth c Q D A nL N ad g k n (pc + 1) (lv) (.int (zI (L : Int)) :: rest)) : zV p l e R s m args below meth c Q D A nL N ad g k n (pc) (lv) (.ref b :: rest) :=
  fun H locs ls hP hD hS hl => va_slen C.1 C.2.1 hX hbl hbA hS hdg (by rw [zI_nat]; exact kk H locs ls hP hD hS hl)
theorem z_lend {b : Nat} (C : zC p s m #[Value.ref b] c code 7 own D A cs tt) (hr : meth.sig.returnType = ret) (hlk : meth.locks = false) (hA : ∀ q, A q → s.heap.size ≤ q) (hdg : decode code pc = .ok (.ireturn, 1)) (hk : k ≤ 601024) (hn : n ≤ 7293034) : zV p l e room_1 s m #[Value.ref b] below meth c (lw_Z below #[Value.ref b] s) D A 7 N ad g k n (pc) (lv) [.int (zI 1)] :=
  fun H locs ls hP hD hS hl => va_forget (fun q hq => hA _ (hS.2.2 q hq)) (W.widen hk hn (lw_ret C.1 C.2.1 hr hlk hdg))
theorem okMr.grow {ad' : Nat → Nat} {g' : Nat → va_E} {i : Nat} {x : Int} {F r st op ai fa mu tb tp : Nat → Int} (h : okMr cs ad g i x F r st op ai fa mu tb tp) (hA : ∀ j, i ≤ j → j < i + 30 → ad' j = ad j) (hG : ∀ j, i ≤ j → j < i + 30 → g' j = g j) : okMr cs ad' g' i x F r st op ai fa mu tb tp := by
  obtain ⟨h1, h2, h3, h4, h5, ns, nh, nd, rf, pi, te, ki, li, ok1, ok2, fo, dd, dps, ⟨b1, b2, b3, b4, b5, b6, b7, b8, b9, b10, b11, b12, b13, b14, b15, b24, b25, b26, b27, b28, b29⟩, h6, h7, h8, h9⟩ := h
  refine ⟨?_, h2, h3, h4.mv (fun j a b => hG j (by omega) (by omega)) ⟨rfl, rfl, rfl, Int.le_refl _⟩, h5, ns, nh, nd, rf, pi, te, ki, li, ok1, ok2, fo, dd, dps, ⟨(hG _ (by omega) (by omega)).trans b1, (hG _ (by omega) (by omega)).trans b2, (hG _ (by omega) (by omega)).trans b3, (hG _ (by omega) (by omega)).trans b4, (hG _ (by omega) (by omega)).trans b5, (hG _ (by omega) (by omega)).trans b6, (hG _ (by omega) (by omega)).trans b7, (hG _ (by omega) (by omega)).trans b8, (hG _ (by omega) (by omega)).trans b9, (hG _ (by omega) (by omega)).trans b10, (hG _ (by omega) (by omega)).trans b11, (hG _ (by omega) (by omega)).trans b12, (hG _ (by omega) (by omega)).trans b13, (hG _ (by omega) (by omega)).trans b14, (hG _ (by omega) (by omega)).trans b15, (hG _ (by omega) (by omega)).trans b24, (hG _ (by omega) (by omega)).trans b25, (hG _ (by omega) (by omega)).trans b26, (hG _ (by omega) (by omega)).trans b27, (hG _ (by omega) (by omega)).trans b28, (hG _ (by omega) (by omega)).trans b29⟩, h6, h7, h8, h9⟩
  rw [hG _ (by omega) (by omega), h1]
  show oC 12 (mF ad i F) = oC 12 (mF ad' i F)
  have e : ∀ k, 1 ≤ k → k ≤ 29 → ad (i + k) = ad' (i + k) := fun k a b => (hA _ (by omega) (by omega)).symm
  simp only [mF, e 1 (by decide) (by decide), e 2 (by decide) (by decide), e 3 (by decide) (by decide), e 4 (by decide) (by decide), e 5 (by decide) (by decide), e 6 (by decide) (by decide), e 7 (by decide) (by decide), e 8 (by decide) (by decide), e 9 (by decide) (by decide), e 10 (by decide) (by decide), e 11 (by decide) (by decide), e 12 (by decide) (by decide), e 13 (by decide) (by decide), e 14 (by decide) (by decide), e 15 (by decide) (by decide), e 16 (by decide) (by decide), e 17 (by decide) (by decide), e 18 (by decide) (by decide), e 19 (by decide) (by decide), e 20 (by decide) (by decide), e 21 (by decide) (by decide), e 22 (by decide) (by decide), e 23 (by decide) (by decide), e 24 (by decide) (by decide), e 25 (by decide) (by decide), e 26 (by decide) (by decide), e 27 (by decide) (by decide), e 28 (by decide) (by decide), e 29 (by decide) (by decide)]
end ZLaw
/-- what both sides know alike: the recorder's parameters, the reference's fields and rows -/
def JD (t fp im nz kz sl ho : Int) (st op ai fa mu tb tp F sR oR aR fR mR bR pR : Nat → Int) : Prop := (F 23 = t ∧ F 24 = fp ∧ F 21 = im ∧ F 17 = nz ∧ (im = 1 → F 20 = kz) ∧ F 13 = sl ∧ F 14 = ho) ∧ (∀ k, k < 900 → -128 ≤ tp k ∧ tp k ≤ 127) ∧ (∀ k : Nat, (k : Int) < t → tp k = pR k ∨ tp k = pR k - 256) ∧ (∀ k : Nat, (k : Int) < ho → ai k = aR k ∧ fa k = fR k ∧ mu k = mR k) ∧ (∀ k : Nat, (k : Int) < sl → st k = sR k ∧ op k = oR k) ∧ ∀ k : Nat, k < 15 → tb k = bR k
theorem JD.keep {t fp im nz kz sl ho : Int} {st op ai fa mu tb tp F sR oR aR fR mR bR pR : Nat → Int} {F' : Nat → Int} (h : JD t fp im nz kz sl ho st op ai fa mu tb tp F sR oR aR fR mR bR pR) (hF : (F' 13 = F 13 ∧ F' 14 = F 14 ∧ F' 17 = F 17 ∧ F' 20 = F 20 ∧ F' 21 = F 21 ∧ F' 23 = F 23 ∧ F' 24 = F 24)) : JD t fp im nz kz sl ho st op ai fa mu tb tp (F') sR oR aR fR mR bR pR := by
  obtain ⟨⟨a1, a2, a3, a4, a5, a6, a7⟩, b⟩ := h
  obtain ⟨c1, c2, c3, c4, c5, c6, c7⟩ := hF
  exact ⟨⟨by omega, by omega, by omega, by omega, fun e => by have := a5 e; omega, by omega, by omega⟩, b⟩
theorem JD.notes {t fp im nz kz sl ho : Int} {st op ai fa mu tb tp F sR oR aR fR mR bR pR : Nat → Int} {F' : Nat → Int} {nz' : Int} (h : JD t fp im nz kz sl ho st op ai fa mu tb tp F sR oR aR fR mR bR pR) (hF : (F' 13 = F 13 ∧ F' 14 = F 14 ∧ F' 17 = F' 17 ∧ F' 20 = F 20 ∧ F' 21 = F 21 ∧ F' 23 = F 23 ∧ F' 24 = F 24)) (hn : F' 17 = nz') : JD t fp im (nz') kz sl ho st op ai fa mu tb tp (F') sR oR aR fR mR bR pR := by
  obtain ⟨⟨a1, a2, a3, a4, a5, a6, a7⟩, b⟩ := h
  obtain ⟨c1, c2, c3, c4, c5, c6, c7⟩ := hF
  exact ⟨⟨by omega, by omega, by omega, by omega, fun e => by have := a5 e; omega, by omega, by omega⟩, b⟩
theorem JD.image {t fp im nz kz sl ho : Int} {st op ai fa mu tb tp F sR oR aR fR mR bR pR : Nat → Int} {F' : Nat → Int} {im' kz' : Int} (h : JD t fp im nz kz sl ho st op ai fa mu tb tp F sR oR aR fR mR bR pR) (hF : (F' 13 = F 13 ∧ F' 14 = F 14 ∧ F' 17 = F 17 ∧ F' 20 = F 17 ∧ F' 21 = 1 ∧ F' 23 = F 23 ∧ F' 24 = F 24)) (hi : im' = 1 ∧ kz' = nz) : JD t fp (im') nz (kz') sl ho st op ai fa mu tb tp (F') sR oR aR fR mR bR pR := by
  obtain ⟨⟨a1, a2, a3, a4, a5, a6, a7⟩, b⟩ := h
  obtain ⟨c1, c2, c3, c4, c5, c6, c7⟩ := hF
  exact ⟨⟨by omega, by omega, by omega, by omega, fun e => by omega, by omega, by omega⟩, b⟩
theorem JD.feed {t fp im nz kz sl ho : Int} {st op ai fa mu tb tp F sR oR aR fR mR bR pR : Nat → Int} {F' tp' pR' : Nat → Int} {z z1 z2 z3 z4 : Int} (h : JD t fp im nz kz sl ho st op ai fa mu tb tp F sR oR aR fR mR bR pR) (ht : 0 ≤ t ∧ t ≤ 880) (hF : (F' 13 = F 13 ∧ F' 14 = F 14 ∧ F' 17 = F 17 ∧ F' 20 = F 20 ∧ F' 21 = F 21 ∧ F' 23 = F' 23 ∧ F' 24 = F 24)) (h23 : F' 23 = t + 20) (hp : ∀ k, k < 900 → 0 ≤ pR' k ∧ pR' k ≤ 255) (hA : (∀ j : Nat, (j : Int) < t ∨ t + 20 ≤ (j : Int) → tp' j = tp j) ∧ ∀ s : Nat, s < 4 → sB z s (tp' ((t).toNat + s)) ∧ sB z1 s (tp' ((t).toNat + 4 + s)) ∧ sB z2 s (tp' ((t).toNat + 8 + s)) ∧ sB z3 s (tp' ((t).toNat + 12 + s)) ∧ sB z4 s (tp' ((t).toNat + 16 + s))) (hB : (∀ j : Nat, (j : Int) < t ∨ t + 20 ≤ (j : Int) → pR' j = pR j) ∧ ∀ j : Nat, j < 20 → pR' ((t).toNat + j) = by8 (fdw z z1 z2 z3 z4 j) (j % 4)) : JD (t + 20) fp im nz kz sl ho st op ai fa mu tb (tp') (F') sR oR aR fR mR bR (pR') := by
  obtain ⟨⟨a1, a2, a3, a4, a5, a6, a7⟩, b1, b2, b⟩ := h
  obtain ⟨c1, c2, c3, c4, c5, c6, c7⟩ := hF
  have hk : ∀ k : Nat, t ≤ (k : Int) → (k : Int) < t + 20 → (-128 ≤ tp' k ∧ tp' k ≤ 127) ∧ (tp' k = pR' k ∨ tp' k = pR' k - 256) := by
    intro k h1 h2
    have hB2 : ∀ m s : Nat, m < 5 → s < 4 → pR' ((t).toNat + 4 * m + s) = by8 (fdw z z1 z2 z3 z4 (4 * m + s)) s := fun m s hm hs => by
      have h9 := hB.2 (4 * m + s) (by omega)
      rw [show (4 * m + s) % 4 = s by omega, ← Nat.add_assoc] at h9
      exact h9
    obtain ⟨m, s, hm, hs, e⟩ : ∃ m s : Nat, m < 5 ∧ s < 4 ∧ k = (t).toNat + 4 * m + s := ⟨(k - (t).toNat) / 4, (k - (t).toNat) % 4, by omega, by omega, by omega⟩
    have h8 := hB2 m s hm hs
    have h7 := hA.2 s hs
    unfold sB at h7
    subst e
    rw [h8]
    rcases (show m = 0 ∨ m = 1 ∨ m = 2 ∨ m = 3 ∨ m = 4 by omega) with rfl | rfl | rfl | rfl | rfl
    · rw [show fdw z z1 z2 z3 z4 (4 * 0 + s) = z by unfold fdw; rw [if_pos (by omega)]]
      exact h7.1
    · rw [show fdw z z1 z2 z3 z4 (4 * 1 + s) = z1 by unfold fdw; rw [if_neg (by omega), if_pos (by omega)]]
      exact h7.2.1
    · rw [show fdw z z1 z2 z3 z4 (4 * 2 + s) = z2 by unfold fdw; rw [if_neg (by omega), if_neg (by omega), if_pos (by omega)]]
      exact h7.2.2.1
    · rw [show fdw z z1 z2 z3 z4 (4 * 3 + s) = z3 by unfold fdw; rw [if_neg (by omega), if_neg (by omega), if_neg (by omega), if_pos (by omega)]]
      exact h7.2.2.2.1
    · rw [show fdw z z1 z2 z3 z4 (4 * 4 + s) = z4 by unfold fdw; rw [if_neg (by omega), if_neg (by omega), if_neg (by omega), if_neg (by omega)]]
      exact h7.2.2.2.2
  refine ⟨⟨by omega, by omega, by omega, by omega, fun e => by have := a5 e; omega, by omega, by omega⟩, fun k hk9 => ?_, fun k hk9 => ?_, b⟩
  · by_cases e : t ≤ (k : Int) ∧ (k : Int) < t + 20
    · exact (hk k e.1 e.2).1
    · rw [hA.1 k (by omega)]; exact b1 k hk9
  · by_cases e : t ≤ (k : Int)
    · exact (hk k e hk9).2
    · rw [hA.1 k (by omega), hB.1 k (by omega)]; exact b2 k (by omega)
theorem JD.snowE {t fp im nz kz sl ho : Int} {st op ai fa mu tb tp F sR oR aR fR mR bR pR : Nat → Int} {F' : Nat → Int} {pl : Int} (h : JD t fp im nz kz sl ho st op ai fa mu tb tp F sR oR aR fR mR bR pR) (hF : (F' 13 = F 13 ∧ F' 14 = F 14 ∧ F' 17 = F 17 ∧ F' 20 = F 20 ∧ F' 21 = F 21 ∧ F' 23 = 0 ∧ F' 24 = pl)) : JD (0) (pl) im nz kz sl ho st op ai fa mu tb tp (F') sR oR aR fR mR bR pR := by
  obtain ⟨⟨a1, a2, a3, a4, a5, a6, a7⟩, b1, b2, b⟩ := h
  obtain ⟨c1, c2, c3, c4, c5, c6, c7⟩ := hF
  exact ⟨⟨by omega, by omega, by omega, by omega, fun e => by have := a5 e; omega, by omega, by omega⟩, b1, fun k hk => absurd hk (by omega), b⟩
theorem JD.snowO {t fp im nz kz sl ho : Int} {st op ai fa mu tb tp F sR oR aR fR mR bR pR : Nat → Int} {F' sR' oR' aR' fR' mR' bR' : Nat → Int} {pl : Int} {s : Int × Int × Int × (Nat → Int) × (Nat → Int) × (Nat → Int) × (Nat → Int) × (Nat → Int) × (Nat → Int) × (Nat → Int) × (Nat → Int) × (Nat → Nat → Int)} (h : JD t fp im nz kz sl ho st op ai fa mu tb tp F sR oR aR fR mR bR pR) (hF : (F' 13 = s.1 ∧ F' 14 = s.2.1 ∧ F' 17 = 0 ∧ F' 20 = F 20 ∧ F' 21 = 0 ∧ F' 23 = 0 ∧ F' 24 = pl)) (hD : dT s sR' oR' aR' fR' mR' bR') : JD (0) (pl) (0) (0) kz (s.1) (s.2.1) (s.2.2.2.2.1) (s.2.2.2.2.2.1) (s.2.2.2.2.2.2.1) (s.2.2.2.2.2.2.2.1) (s.2.2.2.2.2.2.2.2.1) (s.2.2.2.2.2.2.2.2.2.1) tp (F') (sR') (oR') (aR') (fR') (mR') (bR') pR := by
  obtain ⟨⟨a1, a2, a3, a4, a5, a6, a7⟩, b1, b2, b⟩ := h
  obtain ⟨c1, c2, c3, c4, c5, c6, c7⟩ := hF
  refine ⟨⟨by omega, by omega, by omega, by omega, fun e => absurd e (by decide), by omega, by omega⟩, b1, fun k hk => absurd hk (by omega), fun k hk => ?_, fun k hk => ?_, fun k hk => (hD.2.2 k hk).symm⟩
  · have h9 := hD.2.1 k hk
    exact ⟨h9.1.symm, h9.2.1.symm, h9.2.2.symm⟩
  · have h9 := hD.1 k hk
    exact ⟨h9.1.symm, h9.2.symm⟩
theorem JD.un {t fp im nz kz sl ho : Int} {st op ai fa mu tb tp F sR oR aR fR mR bR pR : Nat → Int} (h : JD t fp im nz kz sl ho st op ai fa mu tb tp F sR oR aR fR mR bR pR) {n : Nat} (hn : (n : Int) ≤ t) (hp : ∀ k, k < 900 → 0 ≤ pR k ∧ pR k ≤ 255) (ht : t ≤ 900) : (∀ k, k < n → 0 ≤ unS tp k ∧ unS tp k ≤ 255) ∧ ∀ k, k < n → pR k = unS tp k := by
  have h1 := h.2.1
  have h2 := h.2.2.1
  refine ⟨fun k hk => ?_, fun k hk => ?_⟩
  · have h3 := h1 k (by omega)
    unfold unS
    by_cases e : tp k < 0
    · rw [if_pos e]; omega
    · rw [if_neg e]; omega
  · have h3 := h1 k (by omega)
    have h4 := h2 k (by omega)
    have h5 := hp k (by omega)
    unfold unS
    by_cases e : tp k < 0
    · rw [if_pos e]; omega
    · rw [if_neg e]; omega
/-- both sides between two calls -/
def JI (cs : Nat → ClassId) (ad : Nat → Nat) (g : Nat → va_E) (N : Nat) (x : Int) : Prop := ∃ (t fp im nz kz sl ho ua : Int) (st op ai fa mu tb tp F r sR oR aR fR mR bR pR : Nat → Int), okRec cs ad g N t fp im nz kz sl ho ua st op ai fa mu tb tp ∧ okMr cs ad g 921 x F r sR oR aR fR mR bR pR ∧ JD t fp im nz kz sl ho st op ai fa mu tb tp F sR oR aR fR mR bR pR
theorem okMr.tape {cs : Nat → ClassId} {ad : Nat → Nat} {g : Nat → va_E} {i : Nat} {x : Int} {F r st op ai fa mu tb tp : Nat → Int} (h : okMr cs ad g i x F r st op ai fa mu tb tp) : ∀ k, k < 900 → 0 ≤ tp k ∧ tp k ≤ 255 := by
  obtain ⟨_, _, _, _, _, _, _, _, _, _, _, _, _, _, _, _, _, _, _, _, _, _, h⟩ := h
  exact h
theorem okMr.monoJ {cs : Nat → ClassId} {ad : Nat → Nat} {g : Nat → va_E} {N : Nat} {x y : Int} (h : JI cs ad g N x) (hxy : x ≤ y) : JI cs ad g N y := by
  obtain ⟨t, fp, im, nz, kz, sl, ho, ua, st, op, ai, fa, mu, tb, tp, F, r, sR, oR, aR, fR, mR, bR, pR, h1, h2, h3⟩ := h
  exact ⟨t, fp, im, nz, kz, sl, ho, ua, st, op, ai, fa, mu, tb, tp, F, r, sR, oR, aR, fR, mR, bR, pR, h1, h2.mono hxy, h3⟩
