/-- the builder: cn letters, room for cp at least -/
def bldC (cs : Nat → ClassId) (ad : Nat → Nat) (g : Nat → va_E) (N : Nat) (cn cp : Int) : Prop := ∃ (v cap : Nat) (ml : Int) (b : Nat → Int), (v = 920 ∨ 952 ≤ v) ∧ v < N ∧ cap ≤ 1000 ∧ cp ≤ (cap : Int) ∧ (0 ≤ cn ∧ cn ≤ (cap : Int)) ∧ (0 ≤ ml ∧ ml ≤ 1) ∧ (∀ j, -128 ≤ b j ∧ b j ≤ 127) ∧ g 919 = oC 1 [.ref (ad v), .int (zI 0), .int (zI ml), .int (zI cn)] ∧ g v = bA cs cap b
/-- what stays when the builder writes -/
def GR (N : Nat) (ad : Nat → Nat) (g : Nat → va_E) (N' : Nat) (ad' : Nat → Nat) (g' : Nat → va_E) : Prop := N ≤ N' ∧ (∀ j, j < N → ad' j = ad j) ∧ ∀ j, j < 952 → j ≠ 919 → j ≠ 920 → g' j = g j
theorem GR.refl {N : Nat} {ad : Nat → Nat} {g : Nat → va_E} : GR N ad g N ad g := ⟨Nat.le_refl _, fun _ _ => rfl, fun _ _ _ _ => rfl⟩
theorem GR.trans {N N1 N2 : Nat} {ad ad1 ad2 : Nat → Nat} {g g1 g2 : Nat → va_E} (h : GR N ad g N1 ad1 g1) (k : GR N1 ad1 g1 N2 ad2 g2) : GR N ad g N2 ad2 g2 := ⟨Nat.le_trans h.1 k.1, fun j hj => (k.2.1 j (Nat.lt_of_lt_of_le hj h.1)).trans (h.2.1 j hj), fun j a b c => (k.2.2 j a b c).trans (h.2.2 j a b c)⟩
theorem fits_b {x : Int} (h : -128 ≤ x ∧ x ≤ 127) : fits .byte (.int (zI x)) = true := by
  unfold fits
  simp only [zI_to (show -2147483648 ≤ x ∧ x ≤ 2147483647 by omega)]
  simp
  omega

section ZBC
variable {p : Program} {l : Launch} {e : Env} {R : Room} {s : State} {m : MethodId} {args : Array Value} {below : List Frame} {meth : Method} {c : Code} {Q : State → Prop} {D : va_G} {A : Nat → Prop} {cs : Nat → ClassId} {tt : Nat} {cc : ByteArray} {nL : Nat} {own : String} {N : Nat} {ad : Nat → Nat} {g : Nat → va_E} {k n pc : Nat} {lv lv' : List (Nat × Value)} {rest st : List Value} {Qr : zR} {mc ms : Nat}
theorem z_copyB (C : zC p s m args c cc nL own D A cs tt) {index i j a b : Nat} (hlk : Cond.methodLink own index arraycopyName ∈ AW) (hnat : Cond.native arraycopyName ∈ AW) (hstat : Cond.static arraycopyName ∈ AW) (hini : Cond.initialized "java/lang/System" ∈ AW) (hi : i < N) (hj : j < N) (ha : ad i = a) (hb2 : ad j = b) {n0 n1 : Nat} {r r2 : Nat → Int} (hgi : g i = bA cs n0 r) (hgj : g j = bA cs n1 r2) (sp dp nn : Nat) {zs zd zn : Int} (hzs : zs = (sp : Int)) (hzd : zd = (dp : Int)) (hzn : zn = (nn : Int)) (h4 : sp + nn ≤ n0) (h5 : dp + nn ≤ n1) (hs : n0 ≤ 2147483647) (hd : n1 ≤ 2147483647) (hfit : ∀ q, -128 ≤ r q ∧ r q ≤ 127) (hframes : 1 ≤ R.frames) (hlocals : (rest.map fun v => v.category).sum + (nativeFrameWords "java/lang/System" "arraycopy" 5 + 11) ≤ R.locals) (hdg : decode cc pc = .ok (.invokestatic index, 3))
    (kk : ∀ g' : Nat → va_E, g' = va_up g j (bA cs n1 (cZ r r2 sp dp nn)) → zV p l e R s m args below meth c Q D A nL N ad g' k n (pc + 3) (lv) (rest)) : zV p l e R s m args below meth c Q D A nL N ad g k n (pc) (lv) (.int (zI zn) :: .int (zI zd) :: .ref b :: .int (zI zs) :: .ref a :: rest) := fun H locs ls hP hD hS hl => by
  subst hzs; subst hzd; subst hzn; subst ha; subst hb2
  have e1 : (zI (sp : Int)).toNatClampNeg = sp := zI_clN (by omega)
  have e2 : (zI (dp : Int)).toNatClampNeg = dp := zI_clN (by omega)
  have e3 : (zI (nn : Int)).toNatClampNeg = nn := zI_clN (by omega)
  have hneg : ∀ q : Nat, q ≤ 2147483647 → ¬ zI (q : Int) < 0 := fun q hq => by rw [← zI_0, zI_lt (by omega) (by omega)]; omega
  exact va_copyi C.1 C.2.1 (by rw [C.2.2.1]; exact hl.1.symm) C.2.2.2.1 (C.2.2.2.2.1 _ hlk) (C.2.2.2.2.1 _ hnat) (C.2.2.2.2.1 _ hstat) (C.2.2.2.2.1 _ hini) C.2.2.2.2.2.1 hP hD hS i j 0 0 (f := fun q => zI (r q)) (g := fun q => zI (r2 q)) (ty := .byte) ((wl_at hi).trans (by rw [hgi])) ((wl_at hj).trans (by rw [hgj])) rfl rfl rfl (hneg sp (by omega)) (hneg dp (by omega)) (hneg nn (by omega)) (by rw [e1, e3]; exact h4) (by rw [e2, e3]; exact h5) (fun q hq => fits_b (hfit _)) hframes hlocals hdg (fun H1 locs1 hP1 hD1 hS1 => by
    rw [e1, e2, e3] at hP1 hD1
    have e4 : va_cpy (fun q => zI (r q)) (fun q => zI (r2 q)) sp dp nn = fun q => zI (cZ r r2 sp dp nn q) := by
      funext q
      unfold va_cpy cZ
      split <;> rfl
    rw [e4, wl_set] at hP1 hD1
    exact kk _ rfl H1 locs1 ls hP1 hD1 hS1 hl)
theorem cZ_b {r r2 : Nat → Int} {sp dp nn : Nat} (h : ∀ q, -128 ≤ r q ∧ r q ≤ 127) (h2 : ∀ q, -128 ≤ r2 q ∧ r2 q ≤ 127) : ∀ q, -128 ≤ cZ r r2 sp dp nn q ∧ cZ r r2 sp dp nn q ≤ 127 := fun q => by
  unfold cZ
  split
  · exact h _
  · exact h2 _
end ZBC

theorem shl0 (x : Int) : zI x <<< (zI 0 &&& 31) = zI x := by simp [show zI 0 = (0 : Int32) from rfl]
set_option maxRecDepth 100000 in
set_option maxHeartbeats 4000000 in
theorem c_newLength (l : Launch) (D : va_G) (A : Nat → Prop) (cs : Nat → ClassId) (tt : Nat) (N : Nat) (ad : Nat → Nat) (g : Nat → va_E) (z : Int) (hz : 0 ≤ z ∧ z ≤ 1000) (z1 : Int) (hz1 : 0 ≤ z1 ∧ z1 ≤ 1000) (z2 : Int) (hz2 : 1 ≤ z2 ∧ z2 ≤ 1002) : zM l yJ8_newLength_cabcc cJ8_newLength_cabcc 4 (some .int) ({ frames := 2, cells := 0, slots := 0, locals := 120 } : Room) D A cs tt N ad g [.int (zI (z)), .int (zI (z1)), .int (zI (z2))] (rI0 N ad fun r g' => ((r = z + z1 ∧ z2 ≤ z1) ∨ (r = z + z2 ∧ z1 ≤ z2)) ∧ g = g') := by
  refine z_of (by decide) (Nat.le_of_ble_eq_true rfl) ?_
  intro p e s m below meth c C hr hlk hnm
  refine z_lv (lv' := [(0, .int (zI (z))), (1, .int (zI (z1))), (2, .int (zI (z2)))]) [0, 1, 2] rfl ?_
  refine z_iload_n C 0 dJ8_newLength_cabcc_0 rfl ?_
  refine z_iload_n C 1 dJ8_newLength_cabcc_1 rfl ?_
  refine z_iload_n C 2 dJ8_newLength_cabcc_2 rfl ?_
  refine z_mmax C q_996 q_470 q_20 q_471 (by omega) (by omega) (by decide) (Nat.le_of_ble_eq_true rfl) (by decide) (by decide) dJ8_newLength_cabcc_3 ?_
  obtain ⟨xy1, exy2, hxy3⟩ := mm_max (z1) (z2)
  rw [exy2]
  refine z_iadd C dJ8_newLength_cabcc_6 ?_
  refine z_istore_n (lv' := [(3, .int (zI (z + xy1))), (0, .int (zI (z))), (1, .int (zI (z1))), (2, .int (zI (z2)))]) C dJ8_newLength_cabcc_7 rfl (by decide) rfl ?_
  refine z_iconst (z := 0) C dJ8_newLength_cabcc_8 rfl ?_
  refine z_iload_n C 0 dJ8_newLength_cabcc_9 rfl ?_
  refine z_icmp_ge (tgt := 21) C dJ8_newLength_cabcc_10 (by decide) (by omega) (by omega) (fun h => absurd h (by omega)) (fun _ => ?_)
  refine z_iload_n C 0 dJ8_newLength_cabcc_13 rfl ?_
  refine z_ldc (z := 2147483639) C dJ8_newLength_cabcc_14 q_997 (by decide) ?_
  refine z_icmp_gt (tgt := 21) C dJ8_newLength_cabcc_16 (by decide) (by omega) (by omega) (fun h => absurd h (by omega)) (fun _ => ?_)
  refine z_iload_n C 0 dJ8_newLength_cabcc_19 rfl ?_
  exact z_iret C hr hlk dJ8_newLength_cabcc_20 (by decide) (by decide) ⟨z + xy1, rfl, rfl, rfl, by omega, rfl⟩

