def posY (n : Nat) : Int := ([0, 6, 12, 17, 22, 27, 32, 39, 45, 51, 58, 65, 72, 78] : List Int).getD n 0
def endY (n : Nat) : Int := ([5, 11, 16, 21, 26, 31, 38, 44, 50, 57, 64, 71, 77, 78] : List Int).getD n 0
theorem ynP0 : ∀ i : Fin 13, 0 ≤ posY i.val ∧ posY i.val ≤ endY i.val ∧ endY i.val ≤ 77 ∧ posY (i.val + 1) = endY i.val + 1 ∧ endY i.val = posY i.val + ((tk_kw i.val).length : Int) := by decide +kernel
theorem ynP {i : Nat} (h : i < 13) : 0 ≤ posY i ∧ posY i ≤ endY i ∧ endY i ≤ 77 ∧ posY (i + 1) = endY i + 1 ∧ endY i = posY i + ((tk_kw i).length : Int) := ynP0 ⟨i, h⟩
theorem ynQ0 : ∀ (i : Fin 13) (j : Fin 78), posY i.val ≤ (j.val : Int) → (j.val : Int) ≤ endY i.val → ((sq0.2.2.2.getD j.val 0 = 32) ∧ (j.val : Int) = endY i.val) ∨ (sq0.2.2.2.getD j.val 0 = zI ((tk_kw i.val).getD ((j.val : Int) - posY i.val).toNat 0) ∧ (33 ≤ (tk_kw i.val).getD ((j.val : Int) - posY i.val).toNat 0 ∧ (tk_kw i.val).getD ((j.val : Int) - posY i.val).toNat 0 ≤ 127) ∧ (j.val : Int) < endY i.val) := by decide +kernel
theorem ynQ {i d : Nat} {a y : Int} (hi : i < 13) (hd : a = posY i + (d : Int)) (h1 : a ≤ endY i) (e : sq0.2.2.2.getD a.toNat 0 = zI y) (hy : -2147483648 ≤ y ∧ y ≤ 2147483647) : (y = 32 ∧ a = endY i ∧ d = (tk_kw i).length) ∨ (y ≠ 32 ∧ y = (tk_kw i).getD d 0 ∧ a < endY i ∧ d < (tk_kw i).length) := by
  have hp := ynP hi
  have h := ynQ0 ⟨i, hi⟩ ⟨a.toNat, by omega⟩ (by show posY i ≤ ((a.toNat : Nat) : Int); omega) (by show ((a.toNat : Nat) : Int) ≤ endY i; omega)
  have ha : ((a.toNat : Nat) : Int) = a := by omega
  have hd2 : (a - posY i).toNat = d := by omega
  simp only [ha, hd2] at h
  rcases h with ⟨h2, h3⟩ | ⟨h2, h3, h4⟩
  · have e7 : zI y = zI 32 := e.symm.trans h2
    exact Or.inl ⟨(zI_eq hy (by omega)).mp e7, h3, by omega⟩
  · have e7 : zI y = zI ((tk_kw i).getD d 0) := e.symm.trans h2
    have e8 := (zI_eq hy (by omega)).mp e7
    exact Or.inr ⟨by omega, e8, h4, by omega⟩
theorem tk_w_none {T : Nat → Int} {n f : Nat} (h : ∀ i, i < 13 → tk_is T n f (tk_kw i) = false) : tk_w T n f = -1 := by
  unfold tk_w
  rw [if_neg (by rw [h 0 (by decide)]; decide), if_neg (by rw [h 1 (by decide)]; decide), if_neg (by rw [h 2 (by decide)]; decide), if_neg (by rw [h 3 (by decide)]; decide), if_neg (by rw [h 4 (by decide)]; decide), if_neg (by rw [h 5 (by decide)]; decide), if_neg (by rw [h 6 (by decide)]; decide), if_neg (by rw [h 7 (by decide)]; decide), if_neg (by rw [h 8 (by decide)]; decide), if_neg (by rw [h 9 (by decide)]; decide), if_neg (by rw [h 10 (by decide)]; decide), if_neg (by rw [h 11 (by decide)]; decide), if_neg (by rw [h 12 (by decide)]; decide)]
theorem tk_w_let {T : Nat → Int} {n f : Nat} (h : tk_so T n f ≠ 1) : tk_w T n f = -1 := tk_w_none (fun i _ => tk_is_n (fun e => h e.1))
/-- the reference's sorts and values -/
def srt (s : Int) : Int := if s ≤ 2 then s else if s ≤ 4 then 3 else 4
theorem srt_c (s : Int) : (s ≤ 2 ∧ srt s = s) ∨ ((3 ≤ s ∧ s ≤ 4) ∧ srt s = 3) ∨ (5 ≤ s ∧ srt s = 4) := by
  unfold srt
  by_cases h1 : s ≤ 2
  · rw [if_pos h1]; exact Or.inl ⟨h1, rfl⟩
  · rw [if_neg h1]
    by_cases h2 : s ≤ 4
    · rw [if_pos h2]; exact Or.inr (Or.inl ⟨by omega, rfl⟩)
    · rw [if_neg h2]; exact Or.inr (Or.inr ⟨by omega, rfl⟩)
theorem srt_b (T : Nat → Int) (n f : Nat) : 0 ≤ srt (tk_so T n f) ∧ srt (tk_so T n f) ≤ 4 := by
  have h1 := tk_so_b T n f
  have h2 := srt_c (tk_so T n f)
  omega
theorem srt0 {T : Nat → Int} {n f : Nat} : srt (tk_so T n f) = 0 ↔ tk_so T n f = 0 := by
  have h1 := tk_so_b T n f
  have h2 := srt_c (tk_so T n f)
  omega
theorem srt1 {T : Nat → Int} {n f : Nat} : srt (tk_so T n f) = 1 ↔ tk_so T n f = 1 := by
  have h1 := tk_so_b T n f
  have h2 := srt_c (tk_so T n f)
  omega
theorem srt2 {T : Nat → Int} {n f : Nat} : srt (tk_so T n f) = 2 ↔ tk_so T n f = 2 := by
  have h1 := tk_so_b T n f
  have h2 := srt_c (tk_so T n f)
  omega
def vlu (T : Nat → Int) (n f : Nat) : Int := if tk_so T n f = 2 then tk_va T n f else if 3 ≤ tk_so T n f then T f else 0
theorem vlu2 {T : Nat → Int} {n f : Nat} (h : tk_so T n f = 2) : vlu T n f = tk_va T n f := by unfold vlu; rw [if_pos h]
theorem so_ty {T : Nat → Int} {n f : Nat} (h : tk_so T n f ≠ 0) : f < n ∧ tk_so T n f = tk_ty (T f) := by
  have h1 : ¬ n ≤ f := fun e => h (tk_so_0.mpr e)
  refine ⟨by omega, ?_⟩
  unfold tk_so
  rw [if_neg h1]
/-- a sign: ; and - -/
theorem vlu3 {T : Nat → Int} {n f : Nat} (h : srt (tk_so T n f) = 3) (c s : Int) (hc : (c = 59 ∧ s = 3) ∨ (c = 45 ∧ s = 4)) : vlu T n f = c ↔ tk_so T n f = s := by
  have h2 := srt_c (tk_so T n f)
  have h3 : 3 ≤ tk_so T n f ∧ tk_so T n f ≤ 4 := by omega
  have h4 := so_ty (T := T) (n := n) (f := f) (by omega)
  have h5 := tk_ty_c (T f)
  have e : vlu T n f = T f := by unfold vlu; rw [if_neg (by omega), if_pos h3.1]
  rw [e]
  omega
theorem vlu3n {T : Nat → Int} {n f : Nat} (h : srt (tk_so T n f) ≠ 3) : tk_so T n f ≠ 3 ∧ tk_so T n f ≠ 4 := by
  have h2 := srt_c (tk_so T n f)
  omega
theorem tk_dv_u {T : Nat → Int} {f : Nat} : ∀ k, (∀ j, f ≤ j → j < f + k → 48 ≤ T j ∧ T j ≤ 57) → tk_dv T f k + 1 ≤ ((10 ^ k : Nat) : Int) := by
  intro k
  induction k with
  | zero => intro _; show (0 : Int) + 1 ≤ ((10 ^ 0 : Nat) : Int); decide
  | succ k ih =>
    intro h
    have h1 := ih (fun j a b => h j a (by omega))
    have h2 := h (f + k) (by omega) (by omega)
    show 10 * tk_dv T f k + T (f + k) - 48 + 1 ≤ ((10 ^ (k + 1) : Nat) : Int)
    rw [Nat.pow_succ]
    omega
theorem tk_va_b {T : Nat → Int} {n f : Nat} (h : tk_so T n f = 2) : 0 ≤ tk_va T n f ∧ tk_va T n f ≤ 99999 := by
  unfold tk_va
  by_cases e : tk_to T n f - f ≤ 4
  · rw [if_pos e]
    have hd : ∀ j, f ≤ j → j < f + (tk_to T n f - f) → 48 ≤ T j ∧ T j ≤ 57 := fun j a b => tk_dig h a (by omega)
    have h1 := (tk_dv_m (T := T) (f := f) (m := tk_to T n f - f) hd (tk_to T n f - f) (Nat.le_refl _)).1
    have h2 := tk_dv_u (T := T) (f := f) (tk_to T n f - f) hd
    have h3 : 10 ^ (tk_to T n f - f) ≤ 10 ^ 4 := Nat.pow_le_pow_right (by decide) e
    have h4 : (10 : Nat) ^ 4 = 10000 := by decide
    omega
  · rw [if_neg e]; omega
theorem vlu_b {T : Nat → Int} {n : Nat} (hTb : ∀ k, k < n → 0 ≤ T k ∧ T k ≤ 255) (f : Nat) : 0 ≤ vlu T n f ∧ vlu T n f ≤ 99999 := by
  unfold vlu
  by_cases h1 : tk_so T n f = 2
  · rw [if_pos h1]; exact tk_va_b h1
  · rw [if_neg h1]
    by_cases h2 : 3 ≤ tk_so T n f
    · rw [if_pos h2]
      have h4 := so_ty (T := T) (n := n) (f := f) (by omega)
      have h5 := hTb f h4.1
      omega
    · rw [if_neg h2]; omega
theorem tk_nx_w {T : Nat → Int} {n f : Nat} (h : f ≤ n) : f ≤ tk_nx T n f ∧ tk_nx T n f ≤ n := ⟨(tk_nx_b h).1, (tk_nx_b h).2.1⟩
theorem tk_nx_s {T : Nat → Int} {n f : Nat} (h : f < n) : f < tk_nx T n f ∧ tk_nx T n f ≤ n := ⟨(tk_nx_b (Nat.le_of_lt h)).2.2 h, (tk_nx_b (Nat.le_of_lt h)).2.1⟩
theorem tk_to_w {T : Nat → Int} {n f : Nat} (h : f ≤ n) : f ≤ tk_to T n f ∧ tk_to T n f ≤ n := ⟨(tk_to_b h).1, (tk_to_b h).2.1⟩
theorem tk_to_nx {T : Nat → Int} {n f : Nat} (h : f ≤ n) : tk_to T n f ≤ tk_nx T n f := (tk_at_b (tk_to_b h).2.1).1
/-- the reference looks at the token f -/
def tkR (T : Nat → Int) (n : Nat) (F : Nat → Int) (f : Nat) : Prop := (f ≤ n ∧ n ≤ 900) ∧ F 32 = ((tk_to T n f : Nat) : Int) ∧ F 33 = (f : Int) ∧ F 34 = (n : Int) ∧ F 35 = srt (tk_so T n f) ∧ F 36 = vlu T n f ∧ F 37 = tk_w T n f ∧ (0 ≤ F 38 ∧ F 38 ≤ 5)
theorem tkR.w {T : Nat → Int} {n f : Nat} {F F' : Nat → Int} (h : tkR T n F f) (hF : ∀ k, k ≠ 24 → k ≠ 38 → F' k = F k) (h38 : 0 ≤ F' 38 ∧ F' 38 ≤ 5) : tkR T n F' f := by
  obtain ⟨a, b, c, d, e, k, m, o⟩ := h
  exact ⟨a, (hF 32 (by decide) (by decide)).trans b, (hF 33 (by decide) (by decide)).trans c, (hF 34 (by decide) (by decide)).trans d, (hF 35 (by decide) (by decide)).trans e, (hF 36 (by decide) (by decide)).trans k, (hF 37 (by decide) (by decide)).trans m, h38⟩
theorem tkR.put {T : Nat → Int} {n f : Nat} {F : Nat → Int} {k : Nat} {v : Int} (h : tkR T n F f) (hk : k < 32 ∨ 38 < k) : tkR T n (uZ F k v) f := by
  obtain ⟨a, b, c, d, e, q, m, o⟩ := h
  exact ⟨a, (uZ_n _ _ (by omega)).trans b, (uZ_n _ _ (by omega)).trans c, (uZ_n _ _ (by omega)).trans d, (uZ_n _ _ (by omega)).trans e, (uZ_n _ _ (by omega)).trans q, (uZ_n _ _ (by omega)).trans m, by rw [uZ_n _ _ (by omega)]; exact o⟩
theorem tkR.rd {T : Nat → Int} {n f : Nat} {F : Nat → Int} (h : tkR T n F f) (hTb : ∀ k, k < n → 0 ≤ T k ∧ T k ≤ 255) : RD F := by
  obtain ⟨a, b, c, d, e, q, m, o⟩ := h
  have h1 := tk_to_b (T := T) (n := n) (f := f) a.1
  have h2 := srt_b T n f
  have h3 := vlu_b hTb f
  have h4 := tk_w_b T n f
  unfold RD
  rw [b, c, d, e, q, m]
  omega

set_option maxRecDepth 100000 in
set_option maxHeartbeats 4000000 in
theorem c_yWord (l : Launch) (D : va_G) (A : Nat → Prop) (cs : Nat → ClassId) (tt : Nat) (N : Nat) (ad : Nat → Nat) (g : Nat → va_E) (i : Nat) (hN : i + 30 ≤ N) (F : Nat → Int) (hg : g i = mC ad i F) (tp : Nat → Int) (ha13 : g (i + 13) = iA cs 900 tp) (T : Nat → Int) (n : Nat) (hn : n ≤ 900) (hTb : ∀ k, k < n → 0 ≤ T k ∧ T k ≤ 255) (hTt : ∀ k, k < n → tp k = T k) (htp : ∀ k, k < 900 → 0 ≤ tp k ∧ tp k ≤ 255) (h34 : F 34 = (n : Int)) (f : Nat) (hf : f < n) (hso : tk_so T n f = 1) : zM l yX10_wordFrom cX10_wordFrom 7 (some .int) ({ frames := 2, cells := 0, slots := 0, locals := 120 } : Room) D A cs tt N ad g [.ref (ad i), .int (zI ((f : Int))), .int (zI (((tk_to T n f : Nat) : Int)))] (rI0 N ad fun r g' => r = tk_w T n f ∧ g = g') := by
  have hay1 : zAt ad (i) (ad i) := rfl
  have hay2 : zAt ad (i + 13) (ad (i + 13)) := rfl
  have htb := tk_to_b (T := T) (n := n) (f := f) (by omega)
  refine z_of (by decide) (Nat.le_of_ble_eq_true rfl) ?_
  intro pZ eZ sZ mZ below meth cZ C hr hlk hnm
  refine z_lv (lv' := [(0, .ref (ad i)), (1, .int (zI ((f : Int)))), (2, .int (zI (((tk_to T n f : Nat) : Int))))]) [0, 1, 2] rfl ?_
  have lp : ∀ (n9 : Nat) (wh9 : Int) (k9 : Int) (so : Int) (ii : Int) (ni : Nat) (d : Nat) (g1 : Nat → va_E), (78 - ii).toNat = n9 → (g1 = g) → ((0 ≤ wh9 ∧ wh9 = (ni : Int)) ∧ k9 = (f : Int) + (d : Int) ∧ ni ≤ 13 ∧ (0 ≤ ii ∧ ii ≤ 78 ∧ ii = posY ni + (d : Int)) ∧ ii ≤ endY ni) → ((so = 1 ∧ f + d ≤ tk_to T n f ∧ ∀ j, j < d → T (f + j) = (tk_kw ni).getD j 0) ∨ (so = 0 ∧ tk_is T n f (tk_kw ni) = false)) → (∀ i, i < ni → tk_is T n f (tk_kw i) = false) → zV pZ l eZ ({ frames := 2, cells := 0, slots := 0, locals := 120 } : Room) sZ mZ ([.ref (ad i), .int (zI ((f : Int))), .int (zI (((tk_to T n f : Nat) : Int)))] : List Value).toArray below meth cZ (MQ below (zPost D A (rI0 N ad fun r g' => r = tk_w T n f ∧ g = g')) ([.ref (ad i), .int (zI ((f : Int))), .int (zI (((tk_to T n f : Nat) : Int)))] : List Value).toArray sZ ({ frames := 2, cells := 0, slots := 0, locals := 120 } : Room).cells ({ frames := 2, cells := 0, slots := 0, locals := 120 } : Room).slots A) D A 7 (N) ad g1 (0) (0) 11 [(0, .ref (ad i)), (1, .int (zI ((f : Int)))), (2, .int (zI (((tk_to T n f : Nat) : Int)))), (3, .int (zI (wh9))), (4, .int (zI (k9))), (5, .int (zI (so))), (6, .int (zI (ii)))] [] := by
    intro n9
    induction n9 using Nat.strongRecOn with
    | ind n9 ih =>
      intro wh9 k9 so ii ni d g1 hm9 hg1 hv1 hv2 hv3
      subst hg1
      have hP13 : ni < 13 → endY ni ≤ 77 := fun e9 => (ynP e9).2.2.1
      have hp13 : posY 13 = 78 := rfl
      have hp14 : ni < 13 → endY ni = posY ni + ((tk_kw ni).length : Int) ∧ posY (ni + 1) = endY ni + 1 := fun e9 => ⟨(ynP e9).2.2.2.2, (ynP e9).2.2.2.1⟩
      have hd9 : d ≤ 20 ∨ True := Or.inr trivial
      refine z_iload C 6 dX10_wordFrom_11 rfl ?_
      refine z_getSt C stm0 q_1671 dX10_wordFrom_13 ?_
      refine z_stlen (L := 78) C stm0 stl0 dX10_wordFrom_16 ?_
      refine z_icmp_ge (tgt := 98) C dX10_wordFrom_17 (by decide) (by omega) (by omega) (fun hby3 => ?_) (fun hby3 => ?_)
      · have hn13 : ni = 13 := by
          by_cases e9 : ni < 13
          · have := hP13 e9; omega
          · omega
        clear hP13 hp14
        refine z_iconst (z := -1) C dX10_wordFrom_98 rfl ?_
        have hall : tk_w T n f = -1 := tk_w_none (fun i hi => hv3 i (by have := hn13; omega))
        exact z_iret C hr hlk dX10_wordFrom_99 (by decide) (by decide) ⟨-1, rfl, rfl, rfl, hall.symm, rfl⟩
      · have hn12 : ni < 13 := by
          by_cases e9 : ni = 13
          · exfalso; subst e9; omega
          · omega
        have hq14 := hp14 hn12
        have hq77 := hP13 hn12
        clear hP13 hp14
        refine z_getSt C stm0 q_1671 dX10_wordFrom_20 ?_
        refine z_iload C 6 dX10_wordFrom_23 rfl ?_
        obtain ⟨yy4, eyy4, hyy4⟩ := zI_of (sq0.2.2.2.getD ((ii).toNat) 0)
        have hkyy4 := ynQ (i := ni) (d := d) (by omega) (a := ii) (by omega) (by omega) eyy4 hyy4
        refine z_stbald (y := yy4) C stm0 ((ii).toNat) (by omega) (by rw [stl0]; omega) (by rw [stl0]; decide) eyy4 dX10_wordFrom_25 ?_
        refine z_bipush (z := 32) C dX10_wordFrom_26 (by decide) ?_
        refine z_icmp_ne (tgt := 56) C dX10_wordFrom_28 (by decide) (by omega) (by omega) (fun hby5 => ?_) (fun hby5 => ?_)
        · refine z_iload C 5 dX10_wordFrom_56 rfl ?_
          refine z_if_eq (tgt := 86) C dX10_wordFrom_58 (by decide) (by omega) (fun hby6 => ?_) (fun hby6 => ?_)
          · refine z_iconst (z := 0) C dX10_wordFrom_86 rfl ?_
            refine z_istore (lv' := [(5, .int (zI (0))), (0, .ref (ad i)), (1, .int (zI ((f : Int)))), (2, .int (zI (((tk_to T n f : Nat) : Int)))), (3, .int (zI (wh9))), (4, .int (zI (k9))), (6, .int (zI (ii)))]) C dX10_wordFrom_87 (by decide) rfl ?_
            refine z_iinc (z := k9 + 1) (lv' := [(4, .int (zI (k9 + 1))), (5, .int (zI (0))), (0, .ref (ad i)), (1, .int (zI ((f : Int)))), (2, .int (zI (((tk_to T n f : Nat) : Int)))), (3, .int (zI (wh9))), (6, .int (zI (ii)))]) (j := 5) C dX10_wordFrom_89 rfl rfl (by decide) rfl ?_
            refine z_iinc (z := ii + 1) (lv' := [(6, .int (zI (ii + 1))), (4, .int (zI (k9 + 1))), (5, .int (zI (0))), (0, .ref (ad i)), (1, .int (zI ((f : Int)))), (2, .int (zI (((tk_to T n f : Nat) : Int)))), (3, .int (zI (wh9)))]) (j := 6) C dX10_wordFrom_92 rfl rfl (by decide) rfl ?_
            refine z_goto (tgt := 11) C dX10_wordFrom_95 (by decide) ?_
            refine z_lv (lv' := [(0, .ref (ad i)), (1, .int (zI ((f : Int)))), (2, .int (zI (((tk_to T n f : Nat) : Int)))), (3, .int (zI (wh9))), (4, .int (zI (k9 + 1))), (5, .int (zI (0))), (6, .int (zI (ii + 1)))]) [3, 4, 5, 6, 1, 2, 0] rfl ?_
            exact ih _ (by omega) (wh9) (k9 + 1) (0) (ii + 1) ni (d + 1) _ rfl rfl ⟨by omega, by omega, by omega, by omega, by omega⟩ (by
                refine Or.inr ⟨by omega, ?_⟩
                rcases hv2 with ⟨e1, e2, e3⟩ | ⟨e1, e2⟩
                · refine tk_is_n (fun e9 => ?_)
                  have e8 := e9.2.1
                  have e7 := e9.2.2 d (by omega)
                  omega
                · exact e2) hv3
          · refine z_iload C 4 dX10_wordFrom_61 rfl ?_
            refine z_iload_n C 2 dX10_wordFrom_63 rfl ?_
            refine z_icmp_ge (tgt := 86) C dX10_wordFrom_64 (by decide) (by omega) (by omega) (fun hby7 => ?_) (fun hby7 => ?_)
            · refine z_iconst (z := 0) C dX10_wordFrom_86 rfl ?_
              refine z_istore (lv' := [(5, .int (zI (0))), (0, .ref (ad i)), (1, .int (zI ((f : Int)))), (2, .int (zI (((tk_to T n f : Nat) : Int)))), (3, .int (zI (wh9))), (4, .int (zI (k9))), (6, .int (zI (ii)))]) C dX10_wordFrom_87 (by decide) rfl ?_
              refine z_iinc (z := k9 + 1) (lv' := [(4, .int (zI (k9 + 1))), (5, .int (zI (0))), (0, .ref (ad i)), (1, .int (zI ((f : Int)))), (2, .int (zI (((tk_to T n f : Nat) : Int)))), (3, .int (zI (wh9))), (6, .int (zI (ii)))]) (j := 5) C dX10_wordFrom_89 rfl rfl (by decide) rfl ?_
              refine z_iinc (z := ii + 1) (lv' := [(6, .int (zI (ii + 1))), (4, .int (zI (k9 + 1))), (5, .int (zI (0))), (0, .ref (ad i)), (1, .int (zI ((f : Int)))), (2, .int (zI (((tk_to T n f : Nat) : Int)))), (3, .int (zI (wh9)))]) (j := 6) C dX10_wordFrom_92 rfl rfl (by decide) rfl ?_
              refine z_goto (tgt := 11) C dX10_wordFrom_95 (by decide) ?_
              refine z_lv (lv' := [(0, .ref (ad i)), (1, .int (zI ((f : Int)))), (2, .int (zI (((tk_to T n f : Nat) : Int)))), (3, .int (zI (wh9))), (4, .int (zI (k9 + 1))), (5, .int (zI (0))), (6, .int (zI (ii + 1)))]) [3, 4, 5, 6, 1, 2, 0] rfl ?_
              exact ih _ (by omega) (wh9) (k9 + 1) (0) (ii + 1) ni (d + 1) _ rfl rfl ⟨by omega, by omega, by omega, by omega, by omega⟩ (by
                  refine Or.inr ⟨by omega, ?_⟩
                  rcases hv2 with ⟨e1, e2, e3⟩ | ⟨e1, e2⟩
                  · refine tk_is_n (fun e9 => ?_)
                    have e8 := e9.2.1
                    have e7 := e9.2.2 d (by omega)
                    omega
                  · exact e2) hv3
            · refine z_aload_n C 0 dX10_wordFrom_67 rfl ?_
              refine z_iload C 4 dX10_wordFrom_68 rfl ?_
              have h34y9 : F 34 = (n : Int) := h34
              refine z_cV (As := [.int (zI (k9))]) (rest := []) (ci := 12) C (c_X10_byteAt l D A cs tt N ad _ i hN _ hg _ ha13 htp (by omega) (k9) (by omega)) (lt_A0 hN rfl) hay1 hg rfl rfl mv_yX10_byteAt q_1660 hd_yX10_byteAt (by decide) (Nat.le_of_ble_eq_true rfl) (by decide) dX10_wordFrom_70 rfl (kI0 fun vy8 gvy8 hvy8 => ?_)
              rw [h34y9] at hvy8
              clear h34y9
              obtain ⟨hrvy8, hpvy8, rfl⟩ := hvy8
              have hqvy8 : (k9 < (n : Int) ∧ vy8 = T (k9).toNat) ∨ ((n : Int) ≤ k9 ∧ vy8 = 0) := by
                rcases hpvy8 with ⟨a9, b9⟩ | ⟨a9, b9⟩
                · exact Or.inl ⟨a9, b9.trans (hTt _ (by omega))⟩
                · exact Or.inr ⟨a9, b9⟩
              clear hpvy8
              refine z_getSt C stm0 q_1671 dX10_wordFrom_73 ?_
              refine z_iload C 6 dX10_wordFrom_76 rfl ?_
              obtain ⟨yy10, eyy10, hyy10⟩ := zI_of (sq0.2.2.2.getD ((ii).toNat) 0)
              have hkyy10 := ynQ (i := ni) (d := d) (by omega) (a := ii) (by omega) (by omega) eyy10 hyy10
              refine z_stbald (y := yy10) C stm0 ((ii).toNat) (by omega) (by rw [stl0]; omega) (by rw [stl0]; decide) eyy10 dX10_wordFrom_78 ?_
              refine z_icmp_ne (tgt := 86) C dX10_wordFrom_79 (by decide) (by omega) (by omega) (fun hby11 => ?_) (fun hby11 => ?_)
              · refine z_iconst (z := 0) C dX10_wordFrom_86 rfl ?_
                refine z_istore (lv' := [(5, .int (zI (0))), (0, .ref (ad i)), (1, .int (zI ((f : Int)))), (2, .int (zI (((tk_to T n f : Nat) : Int)))), (3, .int (zI (wh9))), (4, .int (zI (k9))), (6, .int (zI (ii)))]) C dX10_wordFrom_87 (by decide) rfl ?_
                refine z_iinc (z := k9 + 1) (lv' := [(4, .int (zI (k9 + 1))), (5, .int (zI (0))), (0, .ref (ad i)), (1, .int (zI ((f : Int)))), (2, .int (zI (((tk_to T n f : Nat) : Int)))), (3, .int (zI (wh9))), (6, .int (zI (ii)))]) (j := 5) C dX10_wordFrom_89 rfl rfl (by decide) rfl ?_
                refine z_iinc (z := ii + 1) (lv' := [(6, .int (zI (ii + 1))), (4, .int (zI (k9 + 1))), (5, .int (zI (0))), (0, .ref (ad i)), (1, .int (zI ((f : Int)))), (2, .int (zI (((tk_to T n f : Nat) : Int)))), (3, .int (zI (wh9)))]) (j := 6) C dX10_wordFrom_92 rfl rfl (by decide) rfl ?_
                refine z_goto (tgt := 11) C dX10_wordFrom_95 (by decide) ?_
                refine z_lv (lv' := [(0, .ref (ad i)), (1, .int (zI ((f : Int)))), (2, .int (zI (((tk_to T n f : Nat) : Int)))), (3, .int (zI (wh9))), (4, .int (zI (k9 + 1))), (5, .int (zI (0))), (6, .int (zI (ii + 1)))]) [3, 4, 5, 6, 1, 2, 0] rfl ?_
                exact ih _ (by omega) (wh9) (k9 + 1) (0) (ii + 1) ni (d + 1) _ rfl rfl ⟨by omega, by omega, by omega, by omega, by omega⟩ (by
                    refine Or.inr ⟨by omega, ?_⟩
                    rcases hv2 with ⟨e1, e2, e3⟩ | ⟨e1, e2⟩
                    · refine tk_is_n (fun e9 => ?_)
                      have e8 := e9.2.1
                      have e7 := e9.2.2 d (by omega)
                      rw [show f + d = (k9).toNat by omega] at e7
                      omega
                    · exact e2) hv3
              · refine z_iconst (z := 1) C dX10_wordFrom_82 rfl ?_
                refine z_goto (tgt := 87) C dX10_wordFrom_83 (by decide) ?_
                refine z_istore (lv' := [(5, .int (zI (1))), (0, .ref (ad i)), (1, .int (zI ((f : Int)))), (2, .int (zI (((tk_to T n f : Nat) : Int)))), (3, .int (zI (wh9))), (4, .int (zI (k9))), (6, .int (zI (ii)))]) C dX10_wordFrom_87 (by decide) rfl ?_
                refine z_iinc (z := k9 + 1) (lv' := [(4, .int (zI (k9 + 1))), (5, .int (zI (1))), (0, .ref (ad i)), (1, .int (zI ((f : Int)))), (2, .int (zI (((tk_to T n f : Nat) : Int)))), (3, .int (zI (wh9))), (6, .int (zI (ii)))]) (j := 5) C dX10_wordFrom_89 rfl rfl (by decide) rfl ?_
                refine z_iinc (z := ii + 1) (lv' := [(6, .int (zI (ii + 1))), (4, .int (zI (k9 + 1))), (5, .int (zI (1))), (0, .ref (ad i)), (1, .int (zI ((f : Int)))), (2, .int (zI (((tk_to T n f : Nat) : Int)))), (3, .int (zI (wh9)))]) (j := 6) C dX10_wordFrom_92 rfl rfl (by decide) rfl ?_
                refine z_goto (tgt := 11) C dX10_wordFrom_95 (by decide) ?_
                refine z_lv (lv' := [(0, .ref (ad i)), (1, .int (zI ((f : Int)))), (2, .int (zI (((tk_to T n f : Nat) : Int)))), (3, .int (zI (wh9))), (4, .int (zI (k9 + 1))), (5, .int (zI (1))), (6, .int (zI (ii + 1)))]) [3, 4, 5, 6, 1, 2, 0] rfl ?_
                exact ih _ (by omega) (wh9) (k9 + 1) (1) (ii + 1) ni (d + 1) _ rfl rfl ⟨by omega, by omega, by omega, by omega, by omega⟩ (by
                    rcases hv2 with ⟨e1, e2, e3⟩ | ⟨e1, e2⟩
                    · refine Or.inl ⟨rfl, by omega, fun j hj => ?_⟩
                      by_cases e9 : j = d
                      · have e8 : T (f + j) = (tk_kw ni).getD d 0 := by rw [show f + j = (k9).toNat by omega]; omega
                        rw [e8, e9]
                      · exact e3 j (by omega)
                    · exfalso; omega) hv3
        · refine z_iload C 5 dX10_wordFrom_31 rfl ?_
          refine z_if_eq (tgt := 44) C dX10_wordFrom_33 (by decide) (by omega) (fun hby12 => ?_) (fun hby12 => ?_)
          · refine z_iinc (z := wh9 + 1) (lv' := [(3, .int (zI (wh9 + 1))), (0, .ref (ad i)), (1, .int (zI ((f : Int)))), (2, .int (zI (((tk_to T n f : Nat) : Int)))), (4, .int (zI (k9))), (5, .int (zI (so))), (6, .int (zI (ii)))]) (j := 3) C dX10_wordFrom_44 rfl rfl (by decide) rfl ?_
            refine z_iload_n C 2 dX10_wordFrom_47 rfl ?_
            refine z_istore (lv' := [(4, .int (zI ((f : Int)))), (3, .int (zI (wh9 + 1))), (0, .ref (ad i)), (1, .int (zI ((f : Int)))), (2, .int (zI (((tk_to T n f : Nat) : Int)))), (5, .int (zI (so))), (6, .int (zI (ii)))]) C dX10_wordFrom_48 (by decide) rfl ?_
            refine z_iconst (z := 1) C dX10_wordFrom_50 rfl ?_
            refine z_istore (lv' := [(5, .int (zI (1))), (4, .int (zI ((f : Int)))), (3, .int (zI (wh9 + 1))), (0, .ref (ad i)), (1, .int (zI ((f : Int)))), (2, .int (zI (((tk_to T n f : Nat) : Int)))), (6, .int (zI (ii)))]) C dX10_wordFrom_51 (by decide) rfl ?_
            refine z_goto (tgt := 92) C dX10_wordFrom_53 (by decide) ?_
            refine z_iinc (z := ii + 1) (lv' := [(6, .int (zI (ii + 1))), (5, .int (zI (1))), (4, .int (zI ((f : Int)))), (3, .int (zI (wh9 + 1))), (0, .ref (ad i)), (1, .int (zI ((f : Int)))), (2, .int (zI (((tk_to T n f : Nat) : Int))))]) (j := 6) C dX10_wordFrom_92 rfl rfl (by decide) rfl ?_
            refine z_goto (tgt := 11) C dX10_wordFrom_95 (by decide) ?_
            refine z_lv (lv' := [(0, .ref (ad i)), (1, .int (zI ((f : Int)))), (2, .int (zI (((tk_to T n f : Nat) : Int)))), (3, .int (zI (wh9 + 1))), (4, .int (zI ((f : Int)))), (5, .int (zI (1))), (6, .int (zI (ii + 1)))]) [4, 5, 6, 3, 2, 1, 0] rfl ?_
            have hno : tk_is T n f (tk_kw ni) = false := by
              rcases hv2 with ⟨e1, e2, e3⟩ | ⟨e1, e2⟩
              · exact tk_is_n (fun e9 => by have e8 := e9.2.1; omega)
              · exact e2
            exact ih _ (by omega) (wh9 + 1) ((f : Int)) (1) (ii + 1) (ni + 1) 0 _ rfl rfl ⟨by omega, by omega, by omega, by omega, by by_cases e9 : ni + 1 < 13; (have hp9 := ynP e9; omega); (have e8 : ni = 12 := by omega); (subst e8; have e7 : posY (12 + 1) = 78 := rfl; have e6 : endY (12 + 1) = 78 := rfl; omega)⟩ (Or.inl ⟨by omega, by omega, fun j hj => absurd hj (by omega)⟩) (fun i hi => by by_cases e9 : i = ni; (rw [e9]; exact hno); exact hv3 i (by omega))
          · refine z_iload C 4 dX10_wordFrom_36 rfl ?_
            refine z_iload_n C 2 dX10_wordFrom_38 rfl ?_
            refine z_icmp_ne (tgt := 44) C dX10_wordFrom_39 (by decide) (by omega) (by omega) (fun hby13 => ?_) (fun hby13 => ?_)
            · refine z_iinc (z := wh9 + 1) (lv' := [(3, .int (zI (wh9 + 1))), (0, .ref (ad i)), (1, .int (zI ((f : Int)))), (2, .int (zI (((tk_to T n f : Nat) : Int)))), (4, .int (zI (k9))), (5, .int (zI (so))), (6, .int (zI (ii)))]) (j := 3) C dX10_wordFrom_44 rfl rfl (by decide) rfl ?_
              refine z_iload_n C 2 dX10_wordFrom_47 rfl ?_
              refine z_istore (lv' := [(4, .int (zI ((f : Int)))), (3, .int (zI (wh9 + 1))), (0, .ref (ad i)), (1, .int (zI ((f : Int)))), (2, .int (zI (((tk_to T n f : Nat) : Int)))), (5, .int (zI (so))), (6, .int (zI (ii)))]) C dX10_wordFrom_48 (by decide) rfl ?_
              refine z_iconst (z := 1) C dX10_wordFrom_50 rfl ?_
              refine z_istore (lv' := [(5, .int (zI (1))), (4, .int (zI ((f : Int)))), (3, .int (zI (wh9 + 1))), (0, .ref (ad i)), (1, .int (zI ((f : Int)))), (2, .int (zI (((tk_to T n f : Nat) : Int)))), (6, .int (zI (ii)))]) C dX10_wordFrom_51 (by decide) rfl ?_
              refine z_goto (tgt := 92) C dX10_wordFrom_53 (by decide) ?_
              refine z_iinc (z := ii + 1) (lv' := [(6, .int (zI (ii + 1))), (5, .int (zI (1))), (4, .int (zI ((f : Int)))), (3, .int (zI (wh9 + 1))), (0, .ref (ad i)), (1, .int (zI ((f : Int)))), (2, .int (zI (((tk_to T n f : Nat) : Int))))]) (j := 6) C dX10_wordFrom_92 rfl rfl (by decide) rfl ?_
              refine z_goto (tgt := 11) C dX10_wordFrom_95 (by decide) ?_
              refine z_lv (lv' := [(0, .ref (ad i)), (1, .int (zI ((f : Int)))), (2, .int (zI (((tk_to T n f : Nat) : Int)))), (3, .int (zI (wh9 + 1))), (4, .int (zI ((f : Int)))), (5, .int (zI (1))), (6, .int (zI (ii + 1)))]) [4, 5, 6, 3, 2, 1, 0] rfl ?_
              have hno : tk_is T n f (tk_kw ni) = false := by
                rcases hv2 with ⟨e1, e2, e3⟩ | ⟨e1, e2⟩
                · exact tk_is_n (fun e9 => by have e8 := e9.2.1; omega)
                · exact e2
              exact ih _ (by omega) (wh9 + 1) ((f : Int)) (1) (ii + 1) (ni + 1) 0 _ rfl rfl ⟨by omega, by omega, by omega, by omega, by by_cases e9 : ni + 1 < 13; (have hp9 := ynP e9; omega); (have e8 : ni = 12 := by omega); (subst e8; have e7 : posY (12 + 1) = 78 := rfl; have e6 : endY (12 + 1) = 78 := rfl; omega)⟩ (Or.inl ⟨by omega, by omega, fun j hj => absurd hj (by omega)⟩) (fun i hi => by by_cases e9 : i = ni; (rw [e9]; exact hno); exact hv3 i (by omega))
            · refine z_iload_n C 3 dX10_wordFrom_42 rfl ?_
              have hyes : tk_w T n f = (ni : Int) := by
                rcases hv2 with ⟨e1, e2, e3⟩ | ⟨e1, e2⟩
                · exact (tk_w_is ni (by omega)).mp (tk_is_c.mpr ⟨hso, by omega, fun j hj => e3 j (by omega)⟩)
                · exfalso; omega
              exact z_iret C hr hlk dX10_wordFrom_43 (by decide) (by decide) ⟨wh9, rfl, rfl, rfl, by omega, rfl⟩
  refine z_iconst (z := 0) C dX10_wordFrom_0 rfl ?_
  refine z_istore_n (lv' := [(3, .int (zI (0))), (0, .ref (ad i)), (1, .int (zI ((f : Int)))), (2, .int (zI (((tk_to T n f : Nat) : Int))))]) C dX10_wordFrom_1 rfl (by decide) rfl ?_
  refine z_iload_n C 2 dX10_wordFrom_2 rfl ?_
  refine z_istore (lv' := [(4, .int (zI ((f : Int)))), (3, .int (zI (0))), (0, .ref (ad i)), (1, .int (zI ((f : Int)))), (2, .int (zI (((tk_to T n f : Nat) : Int))))]) C dX10_wordFrom_3 (by decide) rfl ?_
  refine z_iconst (z := 1) C dX10_wordFrom_5 rfl ?_
  refine z_istore (lv' := [(5, .int (zI (1))), (4, .int (zI ((f : Int)))), (3, .int (zI (0))), (0, .ref (ad i)), (1, .int (zI ((f : Int)))), (2, .int (zI (((tk_to T n f : Nat) : Int))))]) C dX10_wordFrom_6 (by decide) rfl ?_
  refine z_iconst (z := 0) C dX10_wordFrom_8 rfl ?_
  refine z_istore (lv' := [(6, .int (zI (0))), (5, .int (zI (1))), (4, .int (zI ((f : Int)))), (3, .int (zI (0))), (0, .ref (ad i)), (1, .int (zI ((f : Int)))), (2, .int (zI (((tk_to T n f : Nat) : Int))))]) C dX10_wordFrom_9 (by decide) rfl ?_
  refine z_lv (lv' := [(0, .ref (ad i)), (1, .int (zI ((f : Int)))), (2, .int (zI (((tk_to T n f : Nat) : Int)))), (3, .int (zI (0))), (4, .int (zI ((f : Int)))), (5, .int (zI (1))), (6, .int (zI (0)))]) [4, 5, 6, 3, 2, 1, 0] rfl ?_
  exact lp _ (0) ((f : Int)) (1) (0) 0 0 _ rfl rfl ⟨by omega, by omega, by omega, ⟨by omega, by omega, by show (0 : Int) = 0 + 0; rfl⟩, by decide⟩ (Or.inl ⟨rfl, by omega, fun j hj => absurd hj (by omega)⟩) (fun i hi => absurd hi (by omega))

set_option maxRecDepth 100000 in
set_option maxHeartbeats 4000000 in
theorem c_yGo (l : Launch) (D : va_G) (A : Nat → Prop) (cs : Nat → ClassId) (tt : Nat) (N : Nat) (ad : Nat → Nat) (g : Nat → va_E) (i : Nat) (hN : i + 30 ≤ N) (F : Nat → Int) (hg : g i = mC ad i F) (tp : Nat → Int) (ha13 : g (i + 13) = iA cs 900 tp) (T : Nat → Int) (n : Nat) (hn : n ≤ 900) (hTb : ∀ k, k < n → 0 ≤ T k ∧ T k ≤ 255) (hTt : ∀ k, k < n → tp k = T k) (htp : ∀ k, k < 900 → 0 ≤ tp k ∧ tp k ≤ 255) (q : Nat) (hq : q ≤ n) (h32 : F 32 = (q : Int)) (h34 : F 34 = (n : Int)) (h38 : 0 ≤ F 38 ∧ F 38 ≤ 5) : zM l yX10_go cX10_go 2 none ({ frames := 3, cells := 0, slots := 0, locals := 180 } : Room) D A cs tt N ad g [.ref (ad i)] (rV0 N ad fun g' => (∃ F' : Nat → Int, g' i = mC ad i F' ∧ tkR T n F' (tk_at T n q) ∧ (∀ f, f ≠ 32 → f ≠ 33 → f ≠ 35 → f ≠ 36 → f ≠ 37 → F' f = F f)) ∧ ∀ j, j ≠ i → g' j = g j) := by
  have hay1 : zAt ad (i) (ad i) := rfl
  have hay2 : zAt ad (i + 13) (ad (i + 13)) := rfl
  refine z_of (by decide) (Nat.le_of_ble_eq_true rfl) ?_
  intro pZ eZ sZ mZ below meth cZ C hr hlk hnm
  refine z_lv (lv' := [(0, .ref (ad i))]) [0] rfl ?_
  have lp0 : ∀ (n9 : Nat) (nx : Int) (na : Nat) (F9 : Nat → Int) (g1 : Nat → va_E), (900 - nx).toNat = n9 → (g1 i = mC ad i F9) → (∀ j, j ≠ i → g1 j = g j) → (F9 32 = nx) → (∀ f, f ≠ 32 → F9 f = F f) → (nx = (na : Int) ∧ q ≤ na ∧ na ≤ n) → (tk_at T n na = tk_at T n q) → zV pZ l eZ ({ frames := 3, cells := 0, slots := 0, locals := 180 } : Room) sZ mZ ([.ref (ad i)] : List Value).toArray below meth cZ (MQ below (zPost D A (rV0 N ad fun g' => (∃ F' : Nat → Int, g' i = mC ad i F' ∧ tkR T n F' (tk_at T n q) ∧ (∀ f, f ≠ 32 → f ≠ 33 → f ≠ 35 → f ≠ 36 → f ≠ 37 → F' f = F f)) ∧ ∀ j, j ≠ i → g' j = g j)) ([.ref (ad i)] : List Value).toArray sZ ({ frames := 3, cells := 0, slots := 0, locals := 180 } : Room).cells ({ frames := 3, cells := 0, slots := 0, locals := 180 } : Room).slots A) D A 2 (N) ad g1 (0) (0) 0 [(0, .ref (ad i))] [] := by
    intro n9
    induction n9 using Nat.strongRecOn with
    | ind n9 ih_lp0 =>
      intro nx na F9 g1 hm9 f2 f3 fx0 f4 hv hi
      have hay3 : zAt ad (i) (ad i) := rfl
      have hay4 : zAt ad (i + 13) (ad (i + 13)) := rfl
      refine z_aload_n C 0 dX10_go_0 rfl ?_
      refine z_get (v := .int (zI (nx))) C (lt_A0 hN rfl) hay3 f2 rfl inA_X10 32 (by decide) q_1491 rfl (fv (F := F9) (f := 32) fx0) dX10_go_1 ?_
      refine z_aload_n C 0 dX10_go_4 rfl ?_
      refine z_get (v := .int (zI ((n : Int)))) C (lt_A0 hN rfl) hay3 f2 rfl inA_X10 34 (by decide) q_1493 rfl (fv (F := F9) (f := 34) ((f4 34 (by decide)).trans h34)) dX10_go_5 ?_
      refine z_icmp_ge (tgt := 50) C dX10_go_8 (by decide) (by omega) (by omega) (fun hby5 => ?_) (fun hby5 => ?_)
      · refine z_aload_n C 0 dX10_go_50 rfl ?_
        refine z_aload_n C 0 dX10_go_51 rfl ?_
        refine z_get (v := .int (zI (nx))) C (lt_A0 hN rfl) hay3 f2 rfl inA_X10 32 (by decide) q_1491 rfl (fv (F := F9) (f := 32) fx0) dX10_go_52 ?_
        refine z_put (fs' := mF ad (i) (uZ F9 33 (nx))) C (lt_A0 hN rfl) hay3 f2 tyX10 tyX10_ok nmX10 rfl inA_X10 33 (by decide) q_1492 rfl rfl rfl rfl (Nat.le_of_ble_eq_true rfl) rfl dX10_go_55 (fun gy6 egy7 => ?_)
        have hgy8 := up_s egy7
        refine z_aload_n C 0 dX10_go_58 rfl ?_
        refine z_aload_n C 0 dX10_go_59 rfl ?_
        refine z_get (v := .int (zI (nx))) C (lt_A0 hN rfl) hay3 hgy8 rfl inA_X10 32 (by decide) q_1491 rfl (fv (F := (uZ F9 33 (nx))) (f := 32) (fn fx0 (by decide))) dX10_go_60 ?_
        have hgy10 := up_n egy7 ((f3 _ (by omega)).trans ha13) (ne_o (i := i) (c := 13) (d := 0) rfl)
        have h34y11 : (uZ F9 33 (nx)) 34 = (n : Int) := (fn ((f4 34 (by decide)).trans h34) (by decide))
        refine z_cV (As := [.int (zI (nx))]) (rest := []) (ci := 12) C (c_X10_byteAt l D A cs tt N ad _ i hN _ hgy8 _ hgy10 htp (by omega) (nx) (by omega)) (lt_A0 hN rfl) hay3 hgy8 rfl rfl mv_yX10_byteAt q_1660 hd_yX10_byteAt (by decide) (Nat.le_of_ble_eq_true rfl) (by decide) dX10_go_63 rfl (kI0 fun vy9 gvy9 hvy9 => ?_)
        rw [h34y11] at hvy9
        clear h34y11
        obtain ⟨hrvy9, hpvy9, rfl⟩ := hvy9
        rw [show (nx).toNat = na by omega] at hpvy9
        have hqvy9 : (nx < (n : Int) ∧ vy9 = T na) ∨ ((n : Int) ≤ nx ∧ vy9 = 0) := by
          rcases hpvy9 with ⟨a9, b9⟩ | ⟨a9, b9⟩
          · exact Or.inl ⟨a9, b9.trans (hTt _ (by omega))⟩
          · exact Or.inr ⟨a9, b9⟩
        clear hpvy9
        refine z_istore_n (lv' := [(1, .int (zI (vy9))), (0, .ref (ad i))]) C dX10_go_66 rfl (by decide) rfl ?_
        refine z_aload_n C 1 dX10_go_67 rfl ?_
        refine z_iconst (z := -1) C dX10_go_68 rfl ?_
        refine z_put (fs' := mF ad (i) (uZ (uZ F9 33 (nx)) 37 (-1))) C (lt_A0 hN rfl) hay3 hgy8 tyX10 tyX10_ok nmX10 rfl inA_X10 37 (by decide) q_1496 rfl rfl rfl rfl (Nat.le_of_ble_eq_true rfl) rfl dX10_go_69 (fun gy12 egy13 => ?_)
        have hgy14 := up_s egy13
        refine z_aload_n C 1 dX10_go_72 rfl ?_
        refine z_iconst (z := 0) C dX10_go_73 rfl ?_
        refine z_put (fs' := mF ad (i) (uZ (uZ (uZ F9 33 (nx)) 37 (-1)) 36 (0))) C (lt_A0 hN rfl) hay3 hgy14 tyX10 tyX10_ok nmX10 rfl inA_X10 36 (by decide) q_1495 rfl rfl rfl rfl (Nat.le_of_ble_eq_true rfl) rfl dX10_go_74 (fun gy15 egy16 => ?_)
        have hgy17 := up_s egy16
        refine z_aload_n C 1 dX10_go_77 rfl ?_
        refine z_get (v := .int (zI (nx))) C (lt_A0 hN rfl) hay3 hgy17 rfl inA_X10 32 (by decide) q_1491 rfl (fv (F := (uZ (uZ (uZ F9 33 (nx)) 37 (-1)) 36 (0))) (f := 32) (fn (fn (fn fx0 (by decide)) (by decide)) (by decide))) dX10_go_78 ?_
        refine z_aload_n C 1 dX10_go_81 rfl ?_
        refine z_get (v := .int (zI ((n : Int)))) C (lt_A0 hN rfl) hay3 hgy17 rfl inA_X10 34 (by decide) q_1493 rfl (fv (F := (uZ (uZ (uZ F9 33 (nx)) 37 (-1)) 36 (0))) (f := 34) (fn (fn (fn ((f4 34 (by decide)).trans h34) (by decide)) (by decide)) (by decide))) dX10_go_82 ?_
        refine z_icmp_lt (tgt := 96) C dX10_go_85 (by decide) (by omega) (by omega) (fun hby18 => ?_) (fun hby18 => ?_)
        · refine z_iload_n C 0 dX10_go_96 rfl ?_
          refine z_cS (As := [.int (zI (vy9))]) (rest := []) C (c_X10_isLetter l D A cs tt N ad _ (vy9) (by omega)) ms_yX10_isLetter q_1664 hd_yX10_isLetter (by decide) (Nat.le_of_ble_eq_true rfl) (by decide) dX10_go_97 rfl (kI0 fun vy19 gvy19 hvy19 => ?_)
          obtain ⟨hvy19, rfl⟩ := hvy19
          refine z_if_eq (tgt := 154) C dX10_go_100 (by decide) (by omega) (fun hby20 => ?_) (fun hby20 => ?_)
          · refine z_iload_n C 0 dX10_go_154 rfl ?_
            refine z_bipush (z := 48) C dX10_go_155 (by decide) ?_
            refine z_icmp_lt (tgt := 255) C dX10_go_157 (by decide) (by omega) (by omega) (fun hby21 => ?_) (fun hby21 => ?_)
            · refine z_aload_n C 1 dX10_go_255 rfl ?_
              refine z_dup C dX10_go_256 rfl ?_
              refine z_get (v := .int (zI (nx))) C (lt_A0 hN rfl) hay3 hgy17 rfl inA_X10 32 (by decide) q_1491 rfl (fv (F := (uZ (uZ (uZ F9 33 (nx)) 37 (-1)) 36 (0))) (f := 32) (fn (fn (fn fx0 (by decide)) (by decide)) (by decide))) dX10_go_257 ?_
              refine z_iconst (z := 1) C dX10_go_260 rfl ?_
              refine z_iadd C dX10_go_261 ?_
              refine z_put (fs' := mF ad (i) (uZ (uZ (uZ (uZ F9 33 (nx)) 37 (-1)) 36 (0)) 32 (nx + 1))) C (lt_A0 hN rfl) hay3 hgy17 tyX10 tyX10_ok nmX10 rfl inA_X10 32 (by decide) q_1491 rfl rfl rfl rfl (Nat.le_of_ble_eq_true rfl) rfl dX10_go_262 (fun gy22 egy23 => ?_)
              have hgy24 := up_s egy23
              refine z_aload_n C 1 dX10_go_265 rfl ?_
              refine z_iload_n C 0 dX10_go_266 rfl ?_
              refine z_bipush (z := 59) C dX10_go_267 (by decide) ?_
              refine z_icmp_eq (tgt := 278) C dX10_go_269 (by decide) (by omega) (by omega) (fun hby25 => ?_) (fun hby25 => ?_)
              · refine z_iconst (z := 3) C dX10_go_278 rfl ?_
                refine z_goto (tgt := 283) C dX10_go_279 (by decide) ?_
                refine z_put (fs' := mF ad (i) (uZ (uZ (uZ (uZ (uZ F9 33 (nx)) 37 (-1)) 36 (0)) 32 (nx + 1)) 35 (3))) C (lt_A0 hN rfl) hay3 hgy24 tyX10 tyX10_ok nmX10 rfl inA_X10 35 (by decide) q_1494 rfl rfl rfl rfl (Nat.le_of_ble_eq_true rfl) rfl dX10_go_283 (fun gy26 egy27 => ?_)
                have hgy28 := up_s egy27
                refine z_aload_n C 1 dX10_go_286 rfl ?_
                refine z_iload_n C 0 dX10_go_287 rfl ?_
                refine z_put (fs' := mF ad (i) (uZ (uZ (uZ (uZ (uZ (uZ F9 33 (nx)) 37 (-1)) 36 (0)) 32 (nx + 1)) 35 (3)) 36 (vy9))) C (lt_A0 hN rfl) hay3 hgy28 tyX10 tyX10_ok nmX10 rfl inA_X10 36 (by decide) q_1495 rfl rfl rfl rfl (Nat.le_of_ble_eq_true rfl) rfl dX10_go_288 (fun gy29 egy30 => ?_)
                have hgy31 := up_s egy30
                have hFy32 : ∀ f, f ≠ 32 → f ≠ 33 → f ≠ 35 → f ≠ 36 → f ≠ 37 → (uZ (uZ (uZ (uZ (uZ (uZ F9 33 (nx)) 37 (-1)) 36 (0)) 32 (nx + 1)) 35 (3)) 36 (vy9)) f = F f := fun f n32 n33 n35 n36 n37 => ((uZ_n _ _ n36).trans ((uZ_n _ _ n35).trans ((uZ_n _ _ n32).trans ((uZ_n _ _ n36).trans ((uZ_n _ _ n37).trans ((uZ_n _ _ n33).trans (f4 f n32)))))))
                have hey33 : (uZ (uZ (uZ (uZ (uZ (uZ F9 33 (nx)) 37 (-1)) 36 (0)) 32 (nx + 1)) 35 (3)) 36 (vy9)) 32 = nx + 1 := (fn (fn (uZ_s _ _ _) (by decide)) (by decide))
                have hey34 : (uZ (uZ (uZ (uZ (uZ (uZ F9 33 (nx)) 37 (-1)) 36 (0)) 32 (nx + 1)) 35 (3)) 36 (vy9)) 33 = nx := (fn (fn (fn (fn (fn (uZ_s _ _ _) (by decide)) (by decide)) (by decide)) (by decide)) (by decide))
                have hey35 : (uZ (uZ (uZ (uZ (uZ (uZ F9 33 (nx)) 37 (-1)) 36 (0)) 32 (nx + 1)) 35 (3)) 36 (vy9)) 34 = (n : Int) := (fn (fn (fn (fn (fn (fn ((f4 34 (by decide)).trans h34) (by decide)) (by decide)) (by decide)) (by decide)) (by decide)) (by decide))
                have hey36 : (uZ (uZ (uZ (uZ (uZ (uZ F9 33 (nx)) 37 (-1)) 36 (0)) 32 (nx + 1)) 35 (3)) 36 (vy9)) 35 = 3 := (fn (uZ_s _ _ _) (by decide))
                have hey37 : (uZ (uZ (uZ (uZ (uZ (uZ F9 33 (nx)) 37 (-1)) 36 (0)) 32 (nx + 1)) 35 (3)) 36 (vy9)) 36 = vy9 := (uZ_s _ _ _)
                have hey38 : (uZ (uZ (uZ (uZ (uZ (uZ F9 33 (nx)) 37 (-1)) 36 (0)) 32 (nx + 1)) 35 (3)) 36 (vy9)) 37 = -1 := (fn (fn (fn (fn (uZ_s _ _ _) (by decide)) (by decide)) (by decide)) (by decide))
                have hey39 : (uZ (uZ (uZ (uZ (uZ (uZ F9 33 (nx)) 37 (-1)) 36 (0)) 32 (nx + 1)) 35 (3)) 36 (vy9)) 38 = F 38 := (fn (fn (fn (fn (fn (fn (f4 38 (by decide)) (by decide)) (by decide)) (by decide)) (by decide)) (by decide)) (by decide))
                have hat : tk_at T n q = na := hi.symm.trans (tk_rn_end (by first | exact Or.inl (by omega) | exact Or.inr (decide_eq_false (by omega))))
                have hty := tk_ty_c (T na)
                have hsoy : tk_so T n na = tk_ty (T na) := by unfold tk_so; rw [if_neg (by omega)]
                have hsc := srt_c (tk_so T n na)
                have hto : tk_to T n na = na + 1 := by unfold tk_to; rw [if_neg (by omega), if_neg (by omega)]
                have hvl : vlu T n na = T na := by unfold vlu; rw [if_neg (by omega), if_pos (by omega)]
                have hwd : tk_w T n na = -1 := tk_w_let (by omega)
                have htk : tkR T n (uZ (uZ (uZ (uZ (uZ (uZ F9 33 (nx)) 37 (-1)) 36 (0)) 32 (nx + 1)) 35 (3)) 36 (vy9)) na := ⟨by omega, by omega, by omega, by omega, by omega, by omega, by omega, by omega⟩
                exact z_vret C hr hlk dX10_go_291 (by decide) (by decide) ⟨rfl, rfl, rfl, ⟨_, hgy31, by rw [hat]; exact htk, hFy32⟩, fun j j1 => by rw [egy30, va_up_ne _ _ (by omega)]; rw [egy27, va_up_ne _ _ (by omega)]; rw [egy23, va_up_ne _ _ (by omega)]; rw [egy16, va_up_ne _ _ (by omega)]; rw [egy13, va_up_ne _ _ (by omega)]; rw [egy7, va_up_ne _ _ (by omega)]; exact f3 j j1⟩
              · refine z_iload_n C 0 dX10_go_272 rfl ?_
                refine z_bipush (z := 45) C dX10_go_273 (by decide) ?_
                refine z_icmp_ne (tgt := 282) C dX10_go_275 (by decide) (by omega) (by omega) (fun hby40 => ?_) (fun hby40 => ?_)
                · refine z_iconst (z := 4) C dX10_go_282 rfl ?_
                  refine z_put (fs' := mF ad (i) (uZ (uZ (uZ (uZ (uZ F9 33 (nx)) 37 (-1)) 36 (0)) 32 (nx + 1)) 35 (4))) C (lt_A0 hN rfl) hay3 hgy24 tyX10 tyX10_ok nmX10 rfl inA_X10 35 (by decide) q_1494 rfl rfl rfl rfl (Nat.le_of_ble_eq_true rfl) rfl dX10_go_283 (fun gy41 egy42 => ?_)
                  have hgy43 := up_s egy42
                  refine z_aload_n C 1 dX10_go_286 rfl ?_
                  refine z_iload_n C 0 dX10_go_287 rfl ?_
                  refine z_put (fs' := mF ad (i) (uZ (uZ (uZ (uZ (uZ (uZ F9 33 (nx)) 37 (-1)) 36 (0)) 32 (nx + 1)) 35 (4)) 36 (vy9))) C (lt_A0 hN rfl) hay3 hgy43 tyX10 tyX10_ok nmX10 rfl inA_X10 36 (by decide) q_1495 rfl rfl rfl rfl (Nat.le_of_ble_eq_true rfl) rfl dX10_go_288 (fun gy44 egy45 => ?_)
                  have hgy46 := up_s egy45
                  have hFy47 : ∀ f, f ≠ 32 → f ≠ 33 → f ≠ 35 → f ≠ 36 → f ≠ 37 → (uZ (uZ (uZ (uZ (uZ (uZ F9 33 (nx)) 37 (-1)) 36 (0)) 32 (nx + 1)) 35 (4)) 36 (vy9)) f = F f := fun f n32 n33 n35 n36 n37 => ((uZ_n _ _ n36).trans ((uZ_n _ _ n35).trans ((uZ_n _ _ n32).trans ((uZ_n _ _ n36).trans ((uZ_n _ _ n37).trans ((uZ_n _ _ n33).trans (f4 f n32)))))))
                  have hey48 : (uZ (uZ (uZ (uZ (uZ (uZ F9 33 (nx)) 37 (-1)) 36 (0)) 32 (nx + 1)) 35 (4)) 36 (vy9)) 32 = nx + 1 := (fn (fn (uZ_s _ _ _) (by decide)) (by decide))
                  have hey49 : (uZ (uZ (uZ (uZ (uZ (uZ F9 33 (nx)) 37 (-1)) 36 (0)) 32 (nx + 1)) 35 (4)) 36 (vy9)) 33 = nx := (fn (fn (fn (fn (fn (uZ_s _ _ _) (by decide)) (by decide)) (by decide)) (by decide)) (by decide))
                  have hey50 : (uZ (uZ (uZ (uZ (uZ (uZ F9 33 (nx)) 37 (-1)) 36 (0)) 32 (nx + 1)) 35 (4)) 36 (vy9)) 34 = (n : Int) := (fn (fn (fn (fn (fn (fn ((f4 34 (by decide)).trans h34) (by decide)) (by decide)) (by decide)) (by decide)) (by decide)) (by decide))
                  have hey51 : (uZ (uZ (uZ (uZ (uZ (uZ F9 33 (nx)) 37 (-1)) 36 (0)) 32 (nx + 1)) 35 (4)) 36 (vy9)) 35 = 4 := (fn (uZ_s _ _ _) (by decide))
                  have hey52 : (uZ (uZ (uZ (uZ (uZ (uZ F9 33 (nx)) 37 (-1)) 36 (0)) 32 (nx + 1)) 35 (4)) 36 (vy9)) 36 = vy9 := (uZ_s _ _ _)
                  have hey53 : (uZ (uZ (uZ (uZ (uZ (uZ F9 33 (nx)) 37 (-1)) 36 (0)) 32 (nx + 1)) 35 (4)) 36 (vy9)) 37 = -1 := (fn (fn (fn (fn (uZ_s _ _ _) (by decide)) (by decide)) (by decide)) (by decide))
                  have hey54 : (uZ (uZ (uZ (uZ (uZ (uZ F9 33 (nx)) 37 (-1)) 36 (0)) 32 (nx + 1)) 35 (4)) 36 (vy9)) 38 = F 38 := (fn (fn (fn (fn (fn (fn (f4 38 (by decide)) (by decide)) (by decide)) (by decide)) (by decide)) (by decide)) (by decide))
                  have hat : tk_at T n q = na := hi.symm.trans (tk_rn_end (by first | exact Or.inl (by omega) | exact Or.inr (decide_eq_false (by omega))))
                  have hty := tk_ty_c (T na)
                  have hsoy : tk_so T n na = tk_ty (T na) := by unfold tk_so; rw [if_neg (by omega)]
                  have hsc := srt_c (tk_so T n na)
                  have hto : tk_to T n na = na + 1 := by unfold tk_to; rw [if_neg (by omega), if_neg (by omega)]
                  have hvl : vlu T n na = T na := by unfold vlu; rw [if_neg (by omega), if_pos (by omega)]
                  have hwd : tk_w T n na = -1 := tk_w_let (by omega)
                  have htk : tkR T n (uZ (uZ (uZ (uZ (uZ (uZ F9 33 (nx)) 37 (-1)) 36 (0)) 32 (nx + 1)) 35 (4)) 36 (vy9)) na := ⟨by omega, by omega, by omega, by omega, by omega, by omega, by omega, by omega⟩
                  exact z_vret C hr hlk dX10_go_291 (by decide) (by decide) ⟨rfl, rfl, rfl, ⟨_, hgy46, by rw [hat]; exact htk, hFy47⟩, fun j j1 => by rw [egy45, va_up_ne _ _ (by omega)]; rw [egy42, va_up_ne _ _ (by omega)]; rw [egy23, va_up_ne _ _ (by omega)]; rw [egy16, va_up_ne _ _ (by omega)]; rw [egy13, va_up_ne _ _ (by omega)]; rw [egy7, va_up_ne _ _ (by omega)]; exact f3 j j1⟩
                · refine z_iconst (z := 3) C dX10_go_278 rfl ?_
                  refine z_goto (tgt := 283) C dX10_go_279 (by decide) ?_
                  refine z_put (fs' := mF ad (i) (uZ (uZ (uZ (uZ (uZ F9 33 (nx)) 37 (-1)) 36 (0)) 32 (nx + 1)) 35 (3))) C (lt_A0 hN rfl) hay3 hgy24 tyX10 tyX10_ok nmX10 rfl inA_X10 35 (by decide) q_1494 rfl rfl rfl rfl (Nat.le_of_ble_eq_true rfl) rfl dX10_go_283 (fun gy55 egy56 => ?_)
                  have hgy57 := up_s egy56
                  refine z_aload_n C 1 dX10_go_286 rfl ?_
                  refine z_iload_n C 0 dX10_go_287 rfl ?_
                  refine z_put (fs' := mF ad (i) (uZ (uZ (uZ (uZ (uZ (uZ F9 33 (nx)) 37 (-1)) 36 (0)) 32 (nx + 1)) 35 (3)) 36 (vy9))) C (lt_A0 hN rfl) hay3 hgy57 tyX10 tyX10_ok nmX10 rfl inA_X10 36 (by decide) q_1495 rfl rfl rfl rfl (Nat.le_of_ble_eq_true rfl) rfl dX10_go_288 (fun gy58 egy59 => ?_)
                  have hgy60 := up_s egy59
                  have hFy61 : ∀ f, f ≠ 32 → f ≠ 33 → f ≠ 35 → f ≠ 36 → f ≠ 37 → (uZ (uZ (uZ (uZ (uZ (uZ F9 33 (nx)) 37 (-1)) 36 (0)) 32 (nx + 1)) 35 (3)) 36 (vy9)) f = F f := fun f n32 n33 n35 n36 n37 => ((uZ_n _ _ n36).trans ((uZ_n _ _ n35).trans ((uZ_n _ _ n32).trans ((uZ_n _ _ n36).trans ((uZ_n _ _ n37).trans ((uZ_n _ _ n33).trans (f4 f n32)))))))
                  have hey62 : (uZ (uZ (uZ (uZ (uZ (uZ F9 33 (nx)) 37 (-1)) 36 (0)) 32 (nx + 1)) 35 (3)) 36 (vy9)) 32 = nx + 1 := (fn (fn (uZ_s _ _ _) (by decide)) (by decide))
                  have hey63 : (uZ (uZ (uZ (uZ (uZ (uZ F9 33 (nx)) 37 (-1)) 36 (0)) 32 (nx + 1)) 35 (3)) 36 (vy9)) 33 = nx := (fn (fn (fn (fn (fn (uZ_s _ _ _) (by decide)) (by decide)) (by decide)) (by decide)) (by decide))
                  have hey64 : (uZ (uZ (uZ (uZ (uZ (uZ F9 33 (nx)) 37 (-1)) 36 (0)) 32 (nx + 1)) 35 (3)) 36 (vy9)) 34 = (n : Int) := (fn (fn (fn (fn (fn (fn ((f4 34 (by decide)).trans h34) (by decide)) (by decide)) (by decide)) (by decide)) (by decide)) (by decide))
                  have hey65 : (uZ (uZ (uZ (uZ (uZ (uZ F9 33 (nx)) 37 (-1)) 36 (0)) 32 (nx + 1)) 35 (3)) 36 (vy9)) 35 = 3 := (fn (uZ_s _ _ _) (by decide))
                  have hey66 : (uZ (uZ (uZ (uZ (uZ (uZ F9 33 (nx)) 37 (-1)) 36 (0)) 32 (nx + 1)) 35 (3)) 36 (vy9)) 36 = vy9 := (uZ_s _ _ _)
                  have hey67 : (uZ (uZ (uZ (uZ (uZ (uZ F9 33 (nx)) 37 (-1)) 36 (0)) 32 (nx + 1)) 35 (3)) 36 (vy9)) 37 = -1 := (fn (fn (fn (fn (uZ_s _ _ _) (by decide)) (by decide)) (by decide)) (by decide))
                  have hey68 : (uZ (uZ (uZ (uZ (uZ (uZ F9 33 (nx)) 37 (-1)) 36 (0)) 32 (nx + 1)) 35 (3)) 36 (vy9)) 38 = F 38 := (fn (fn (fn (fn (fn (fn (f4 38 (by decide)) (by decide)) (by decide)) (by decide)) (by decide)) (by decide)) (by decide))
                  have hat : tk_at T n q = na := hi.symm.trans (tk_rn_end (by first | exact Or.inl (by omega) | exact Or.inr (decide_eq_false (by omega))))
                  have hty := tk_ty_c (T na)
                  have hsoy : tk_so T n na = tk_ty (T na) := by unfold tk_so; rw [if_neg (by omega)]
                  have hsc := srt_c (tk_so T n na)
                  have hto : tk_to T n na = na + 1 := by unfold tk_to; rw [if_neg (by omega), if_neg (by omega)]
                  have hvl : vlu T n na = T na := by unfold vlu; rw [if_neg (by omega), if_pos (by omega)]
                  have hwd : tk_w T n na = -1 := tk_w_let (by omega)
                  have htk : tkR T n (uZ (uZ (uZ (uZ (uZ (uZ F9 33 (nx)) 37 (-1)) 36 (0)) 32 (nx + 1)) 35 (3)) 36 (vy9)) na := ⟨by omega, by omega, by omega, by omega, by omega, by omega, by omega, by omega⟩
                  exact z_vret C hr hlk dX10_go_291 (by decide) (by decide) ⟨rfl, rfl, rfl, ⟨_, hgy60, by rw [hat]; exact htk, hFy61⟩, fun j j1 => by rw [egy59, va_up_ne _ _ (by omega)]; rw [egy56, va_up_ne _ _ (by omega)]; rw [egy23, va_up_ne _ _ (by omega)]; rw [egy16, va_up_ne _ _ (by omega)]; rw [egy13, va_up_ne _ _ (by omega)]; rw [egy7, va_up_ne _ _ (by omega)]; exact f3 j j1⟩
            · refine z_iload_n C 0 dX10_go_160 rfl ?_
              refine z_bipush (z := 57) C dX10_go_161 (by decide) ?_
              refine z_icmp_gt (tgt := 255) C dX10_go_163 (by decide) (by omega) (by omega) (fun hby69 => ?_) (fun hby69 => ?_)
              · refine z_aload_n C 1 dX10_go_255 rfl ?_
                refine z_dup C dX10_go_256 rfl ?_
                refine z_get (v := .int (zI (nx))) C (lt_A0 hN rfl) hay3 hgy17 rfl inA_X10 32 (by decide) q_1491 rfl (fv (F := (uZ (uZ (uZ F9 33 (nx)) 37 (-1)) 36 (0))) (f := 32) (fn (fn (fn fx0 (by decide)) (by decide)) (by decide))) dX10_go_257 ?_
                refine z_iconst (z := 1) C dX10_go_260 rfl ?_
                refine z_iadd C dX10_go_261 ?_
                refine z_put (fs' := mF ad (i) (uZ (uZ (uZ (uZ F9 33 (nx)) 37 (-1)) 36 (0)) 32 (nx + 1))) C (lt_A0 hN rfl) hay3 hgy17 tyX10 tyX10_ok nmX10 rfl inA_X10 32 (by decide) q_1491 rfl rfl rfl rfl (Nat.le_of_ble_eq_true rfl) rfl dX10_go_262 (fun gy70 egy71 => ?_)
                have hgy72 := up_s egy71
                refine z_aload_n C 1 dX10_go_265 rfl ?_
                refine z_iload_n C 0 dX10_go_266 rfl ?_
                refine z_bipush (z := 59) C dX10_go_267 (by decide) ?_
                refine z_icmp_eq (tgt := 278) C dX10_go_269 (by decide) (by omega) (by omega) (fun hby73 => ?_) (fun hby73 => ?_)
                · refine z_iconst (z := 3) C dX10_go_278 rfl ?_
                  refine z_goto (tgt := 283) C dX10_go_279 (by decide) ?_
                  refine z_put (fs' := mF ad (i) (uZ (uZ (uZ (uZ (uZ F9 33 (nx)) 37 (-1)) 36 (0)) 32 (nx + 1)) 35 (3))) C (lt_A0 hN rfl) hay3 hgy72 tyX10 tyX10_ok nmX10 rfl inA_X10 35 (by decide) q_1494 rfl rfl rfl rfl (Nat.le_of_ble_eq_true rfl) rfl dX10_go_283 (fun gy74 egy75 => ?_)
                  have hgy76 := up_s egy75
                  refine z_aload_n C 1 dX10_go_286 rfl ?_
                  refine z_iload_n C 0 dX10_go_287 rfl ?_
                  refine z_put (fs' := mF ad (i) (uZ (uZ (uZ (uZ (uZ (uZ F9 33 (nx)) 37 (-1)) 36 (0)) 32 (nx + 1)) 35 (3)) 36 (vy9))) C (lt_A0 hN rfl) hay3 hgy76 tyX10 tyX10_ok nmX10 rfl inA_X10 36 (by decide) q_1495 rfl rfl rfl rfl (Nat.le_of_ble_eq_true rfl) rfl dX10_go_288 (fun gy77 egy78 => ?_)
                  have hgy79 := up_s egy78
                  have hFy80 : ∀ f, f ≠ 32 → f ≠ 33 → f ≠ 35 → f ≠ 36 → f ≠ 37 → (uZ (uZ (uZ (uZ (uZ (uZ F9 33 (nx)) 37 (-1)) 36 (0)) 32 (nx + 1)) 35 (3)) 36 (vy9)) f = F f := fun f n32 n33 n35 n36 n37 => ((uZ_n _ _ n36).trans ((uZ_n _ _ n35).trans ((uZ_n _ _ n32).trans ((uZ_n _ _ n36).trans ((uZ_n _ _ n37).trans ((uZ_n _ _ n33).trans (f4 f n32)))))))
                  have hey81 : (uZ (uZ (uZ (uZ (uZ (uZ F9 33 (nx)) 37 (-1)) 36 (0)) 32 (nx + 1)) 35 (3)) 36 (vy9)) 32 = nx + 1 := (fn (fn (uZ_s _ _ _) (by decide)) (by decide))
                  have hey82 : (uZ (uZ (uZ (uZ (uZ (uZ F9 33 (nx)) 37 (-1)) 36 (0)) 32 (nx + 1)) 35 (3)) 36 (vy9)) 33 = nx := (fn (fn (fn (fn (fn (uZ_s _ _ _) (by decide)) (by decide)) (by decide)) (by decide)) (by decide))
                  have hey83 : (uZ (uZ (uZ (uZ (uZ (uZ F9 33 (nx)) 37 (-1)) 36 (0)) 32 (nx + 1)) 35 (3)) 36 (vy9)) 34 = (n : Int) := (fn (fn (fn (fn (fn (fn ((f4 34 (by decide)).trans h34) (by decide)) (by decide)) (by decide)) (by decide)) (by decide)) (by decide))
                  have hey84 : (uZ (uZ (uZ (uZ (uZ (uZ F9 33 (nx)) 37 (-1)) 36 (0)) 32 (nx + 1)) 35 (3)) 36 (vy9)) 35 = 3 := (fn (uZ_s _ _ _) (by decide))
                  have hey85 : (uZ (uZ (uZ (uZ (uZ (uZ F9 33 (nx)) 37 (-1)) 36 (0)) 32 (nx + 1)) 35 (3)) 36 (vy9)) 36 = vy9 := (uZ_s _ _ _)
                  have hey86 : (uZ (uZ (uZ (uZ (uZ (uZ F9 33 (nx)) 37 (-1)) 36 (0)) 32 (nx + 1)) 35 (3)) 36 (vy9)) 37 = -1 := (fn (fn (fn (fn (uZ_s _ _ _) (by decide)) (by decide)) (by decide)) (by decide))
                  have hey87 : (uZ (uZ (uZ (uZ (uZ (uZ F9 33 (nx)) 37 (-1)) 36 (0)) 32 (nx + 1)) 35 (3)) 36 (vy9)) 38 = F 38 := (fn (fn (fn (fn (fn (fn (f4 38 (by decide)) (by decide)) (by decide)) (by decide)) (by decide)) (by decide)) (by decide))
                  have hat : tk_at T n q = na := hi.symm.trans (tk_rn_end (by first | exact Or.inl (by omega) | exact Or.inr (decide_eq_false (by omega))))
                  have hty := tk_ty_c (T na)
                  have hsoy : tk_so T n na = tk_ty (T na) := by unfold tk_so; rw [if_neg (by omega)]
                  have hsc := srt_c (tk_so T n na)
                  have hto : tk_to T n na = na + 1 := by unfold tk_to; rw [if_neg (by omega), if_neg (by omega)]
                  have hvl : vlu T n na = T na := by unfold vlu; rw [if_neg (by omega), if_pos (by omega)]
                  have hwd : tk_w T n na = -1 := tk_w_let (by omega)
                  have htk : tkR T n (uZ (uZ (uZ (uZ (uZ (uZ F9 33 (nx)) 37 (-1)) 36 (0)) 32 (nx + 1)) 35 (3)) 36 (vy9)) na := ⟨by omega, by omega, by omega, by omega, by omega, by omega, by omega, by omega⟩
                  exact z_vret C hr hlk dX10_go_291 (by decide) (by decide) ⟨rfl, rfl, rfl, ⟨_, hgy79, by rw [hat]; exact htk, hFy80⟩, fun j j1 => by rw [egy78, va_up_ne _ _ (by omega)]; rw [egy75, va_up_ne _ _ (by omega)]; rw [egy71, va_up_ne _ _ (by omega)]; rw [egy16, va_up_ne _ _ (by omega)]; rw [egy13, va_up_ne _ _ (by omega)]; rw [egy7, va_up_ne _ _ (by omega)]; exact f3 j j1⟩
                · refine z_iload_n C 0 dX10_go_272 rfl ?_
                  refine z_bipush (z := 45) C dX10_go_273 (by decide) ?_
                  refine z_icmp_ne (tgt := 282) C dX10_go_275 (by decide) (by omega) (by omega) (fun hby88 => ?_) (fun hby88 => ?_)
                  · refine z_iconst (z := 4) C dX10_go_282 rfl ?_
                    refine z_put (fs' := mF ad (i) (uZ (uZ (uZ (uZ (uZ F9 33 (nx)) 37 (-1)) 36 (0)) 32 (nx + 1)) 35 (4))) C (lt_A0 hN rfl) hay3 hgy72 tyX10 tyX10_ok nmX10 rfl inA_X10 35 (by decide) q_1494 rfl rfl rfl rfl (Nat.le_of_ble_eq_true rfl) rfl dX10_go_283 (fun gy89 egy90 => ?_)
                    have hgy91 := up_s egy90
                    refine z_aload_n C 1 dX10_go_286 rfl ?_
                    refine z_iload_n C 0 dX10_go_287 rfl ?_
                    refine z_put (fs' := mF ad (i) (uZ (uZ (uZ (uZ (uZ (uZ F9 33 (nx)) 37 (-1)) 36 (0)) 32 (nx + 1)) 35 (4)) 36 (vy9))) C (lt_A0 hN rfl) hay3 hgy91 tyX10 tyX10_ok nmX10 rfl inA_X10 36 (by decide) q_1495 rfl rfl rfl rfl (Nat.le_of_ble_eq_true rfl) rfl dX10_go_288 (fun gy92 egy93 => ?_)
                    have hgy94 := up_s egy93
                    have hFy95 : ∀ f, f ≠ 32 → f ≠ 33 → f ≠ 35 → f ≠ 36 → f ≠ 37 → (uZ (uZ (uZ (uZ (uZ (uZ F9 33 (nx)) 37 (-1)) 36 (0)) 32 (nx + 1)) 35 (4)) 36 (vy9)) f = F f := fun f n32 n33 n35 n36 n37 => ((uZ_n _ _ n36).trans ((uZ_n _ _ n35).trans ((uZ_n _ _ n32).trans ((uZ_n _ _ n36).trans ((uZ_n _ _ n37).trans ((uZ_n _ _ n33).trans (f4 f n32)))))))
                    have hey96 : (uZ (uZ (uZ (uZ (uZ (uZ F9 33 (nx)) 37 (-1)) 36 (0)) 32 (nx + 1)) 35 (4)) 36 (vy9)) 32 = nx + 1 := (fn (fn (uZ_s _ _ _) (by decide)) (by decide))
                    have hey97 : (uZ (uZ (uZ (uZ (uZ (uZ F9 33 (nx)) 37 (-1)) 36 (0)) 32 (nx + 1)) 35 (4)) 36 (vy9)) 33 = nx := (fn (fn (fn (fn (fn (uZ_s _ _ _) (by decide)) (by decide)) (by decide)) (by decide)) (by decide))
                    have hey98 : (uZ (uZ (uZ (uZ (uZ (uZ F9 33 (nx)) 37 (-1)) 36 (0)) 32 (nx + 1)) 35 (4)) 36 (vy9)) 34 = (n : Int) := (fn (fn (fn (fn (fn (fn ((f4 34 (by decide)).trans h34) (by decide)) (by decide)) (by decide)) (by decide)) (by decide)) (by decide))
                    have hey99 : (uZ (uZ (uZ (uZ (uZ (uZ F9 33 (nx)) 37 (-1)) 36 (0)) 32 (nx + 1)) 35 (4)) 36 (vy9)) 35 = 4 := (fn (uZ_s _ _ _) (by decide))
                    have hey100 : (uZ (uZ (uZ (uZ (uZ (uZ F9 33 (nx)) 37 (-1)) 36 (0)) 32 (nx + 1)) 35 (4)) 36 (vy9)) 36 = vy9 := (uZ_s _ _ _)
                    have hey101 : (uZ (uZ (uZ (uZ (uZ (uZ F9 33 (nx)) 37 (-1)) 36 (0)) 32 (nx + 1)) 35 (4)) 36 (vy9)) 37 = -1 := (fn (fn (fn (fn (uZ_s _ _ _) (by decide)) (by decide)) (by decide)) (by decide))
                    have hey102 : (uZ (uZ (uZ (uZ (uZ (uZ F9 33 (nx)) 37 (-1)) 36 (0)) 32 (nx + 1)) 35 (4)) 36 (vy9)) 38 = F 38 := (fn (fn (fn (fn (fn (fn (f4 38 (by decide)) (by decide)) (by decide)) (by decide)) (by decide)) (by decide)) (by decide))
                    have hat : tk_at T n q = na := hi.symm.trans (tk_rn_end (by first | exact Or.inl (by omega) | exact Or.inr (decide_eq_false (by omega))))
                    have hty := tk_ty_c (T na)
                    have hsoy : tk_so T n na = tk_ty (T na) := by unfold tk_so; rw [if_neg (by omega)]
                    have hsc := srt_c (tk_so T n na)
                    have hto : tk_to T n na = na + 1 := by unfold tk_to; rw [if_neg (by omega), if_neg (by omega)]
                    have hvl : vlu T n na = T na := by unfold vlu; rw [if_neg (by omega), if_pos (by omega)]
                    have hwd : tk_w T n na = -1 := tk_w_let (by omega)
                    have htk : tkR T n (uZ (uZ (uZ (uZ (uZ (uZ F9 33 (nx)) 37 (-1)) 36 (0)) 32 (nx + 1)) 35 (4)) 36 (vy9)) na := ⟨by omega, by omega, by omega, by omega, by omega, by omega, by omega, by omega⟩
                    exact z_vret C hr hlk dX10_go_291 (by decide) (by decide) ⟨rfl, rfl, rfl, ⟨_, hgy94, by rw [hat]; exact htk, hFy95⟩, fun j j1 => by rw [egy93, va_up_ne _ _ (by omega)]; rw [egy90, va_up_ne _ _ (by omega)]; rw [egy71, va_up_ne _ _ (by omega)]; rw [egy16, va_up_ne _ _ (by omega)]; rw [egy13, va_up_ne _ _ (by omega)]; rw [egy7, va_up_ne _ _ (by omega)]; exact f3 j j1⟩
                  · refine z_iconst (z := 3) C dX10_go_278 rfl ?_
                    refine z_goto (tgt := 283) C dX10_go_279 (by decide) ?_
                    refine z_put (fs' := mF ad (i) (uZ (uZ (uZ (uZ (uZ F9 33 (nx)) 37 (-1)) 36 (0)) 32 (nx + 1)) 35 (3))) C (lt_A0 hN rfl) hay3 hgy72 tyX10 tyX10_ok nmX10 rfl inA_X10 35 (by decide) q_1494 rfl rfl rfl rfl (Nat.le_of_ble_eq_true rfl) rfl dX10_go_283 (fun gy103 egy104 => ?_)
                    have hgy105 := up_s egy104
                    refine z_aload_n C 1 dX10_go_286 rfl ?_
                    refine z_iload_n C 0 dX10_go_287 rfl ?_
                    refine z_put (fs' := mF ad (i) (uZ (uZ (uZ (uZ (uZ (uZ F9 33 (nx)) 37 (-1)) 36 (0)) 32 (nx + 1)) 35 (3)) 36 (vy9))) C (lt_A0 hN rfl) hay3 hgy105 tyX10 tyX10_ok nmX10 rfl inA_X10 36 (by decide) q_1495 rfl rfl rfl rfl (Nat.le_of_ble_eq_true rfl) rfl dX10_go_288 (fun gy106 egy107 => ?_)
                    have hgy108 := up_s egy107
                    have hFy109 : ∀ f, f ≠ 32 → f ≠ 33 → f ≠ 35 → f ≠ 36 → f ≠ 37 → (uZ (uZ (uZ (uZ (uZ (uZ F9 33 (nx)) 37 (-1)) 36 (0)) 32 (nx + 1)) 35 (3)) 36 (vy9)) f = F f := fun f n32 n33 n35 n36 n37 => ((uZ_n _ _ n36).trans ((uZ_n _ _ n35).trans ((uZ_n _ _ n32).trans ((uZ_n _ _ n36).trans ((uZ_n _ _ n37).trans ((uZ_n _ _ n33).trans (f4 f n32)))))))
                    have hey110 : (uZ (uZ (uZ (uZ (uZ (uZ F9 33 (nx)) 37 (-1)) 36 (0)) 32 (nx + 1)) 35 (3)) 36 (vy9)) 32 = nx + 1 := (fn (fn (uZ_s _ _ _) (by decide)) (by decide))
                    have hey111 : (uZ (uZ (uZ (uZ (uZ (uZ F9 33 (nx)) 37 (-1)) 36 (0)) 32 (nx + 1)) 35 (3)) 36 (vy9)) 33 = nx := (fn (fn (fn (fn (fn (uZ_s _ _ _) (by decide)) (by decide)) (by decide)) (by decide)) (by decide))
                    have hey112 : (uZ (uZ (uZ (uZ (uZ (uZ F9 33 (nx)) 37 (-1)) 36 (0)) 32 (nx + 1)) 35 (3)) 36 (vy9)) 34 = (n : Int) := (fn (fn (fn (fn (fn (fn ((f4 34 (by decide)).trans h34) (by decide)) (by decide)) (by decide)) (by decide)) (by decide)) (by decide))
                    have hey113 : (uZ (uZ (uZ (uZ (uZ (uZ F9 33 (nx)) 37 (-1)) 36 (0)) 32 (nx + 1)) 35 (3)) 36 (vy9)) 35 = 3 := (fn (uZ_s _ _ _) (by decide))
                    have hey114 : (uZ (uZ (uZ (uZ (uZ (uZ F9 33 (nx)) 37 (-1)) 36 (0)) 32 (nx + 1)) 35 (3)) 36 (vy9)) 36 = vy9 := (uZ_s _ _ _)
                    have hey115 : (uZ (uZ (uZ (uZ (uZ (uZ F9 33 (nx)) 37 (-1)) 36 (0)) 32 (nx + 1)) 35 (3)) 36 (vy9)) 37 = -1 := (fn (fn (fn (fn (uZ_s _ _ _) (by decide)) (by decide)) (by decide)) (by decide))
                    have hey116 : (uZ (uZ (uZ (uZ (uZ (uZ F9 33 (nx)) 37 (-1)) 36 (0)) 32 (nx + 1)) 35 (3)) 36 (vy9)) 38 = F 38 := (fn (fn (fn (fn (fn (fn (f4 38 (by decide)) (by decide)) (by decide)) (by decide)) (by decide)) (by decide)) (by decide))
                    have hat : tk_at T n q = na := hi.symm.trans (tk_rn_end (by first | exact Or.inl (by omega) | exact Or.inr (decide_eq_false (by omega))))
                    have hty := tk_ty_c (T na)
                    have hsoy : tk_so T n na = tk_ty (T na) := by unfold tk_so; rw [if_neg (by omega)]
                    have hsc := srt_c (tk_so T n na)
                    have hto : tk_to T n na = na + 1 := by unfold tk_to; rw [if_neg (by omega), if_neg (by omega)]
                    have hvl : vlu T n na = T na := by unfold vlu; rw [if_neg (by omega), if_pos (by omega)]
                    have hwd : tk_w T n na = -1 := tk_w_let (by omega)
                    have htk : tkR T n (uZ (uZ (uZ (uZ (uZ (uZ F9 33 (nx)) 37 (-1)) 36 (0)) 32 (nx + 1)) 35 (3)) 36 (vy9)) na := ⟨by omega, by omega, by omega, by omega, by omega, by omega, by omega, by omega⟩
                    exact z_vret C hr hlk dX10_go_291 (by decide) (by decide) ⟨rfl, rfl, rfl, ⟨_, hgy108, by rw [hat]; exact htk, hFy109⟩, fun j j1 => by rw [egy107, va_up_ne _ _ (by omega)]; rw [egy104, va_up_ne _ _ (by omega)]; rw [egy71, va_up_ne _ _ (by omega)]; rw [egy16, va_up_ne _ _ (by omega)]; rw [egy13, va_up_ne _ _ (by omega)]; rw [egy7, va_up_ne _ _ (by omega)]; exact f3 j j1⟩
              · have lp166 : ∀ (n9 : Nat) (nz : Int) (nc : Nat) (va : Int) (F8 : Nat → Int) (g1 : Nat → va_E), (900 - nz).toNat = n9 → (g1 i = mC ad i F8) → (∀ j, j ≠ i → g1 j = g j) → (F8 32 = nz) → (F8 33 = nx) → (F8 36 = va) → (F8 37 = -1) → (∀ f, f ≠ 32 → f ≠ 33 → f ≠ 36 → f ≠ 37 → F8 f = F f) → ((nz = (nc : Int) ∧ nx = (na : Int)) ∧ na ≤ nc ∧ nc ≤ n ∧ na < n) → (tk_rn (fun c => decide (tk_ty c = tk_ty (T na))) T n nc = tk_rn (fun c => decide (tk_ty c = tk_ty (T na))) T n na) → (tk_at T n q = na) → (tk_ty (T na) = 2) → (tk_so T n na = 2) → (va = (if nc - na ≤ 4 then tk_dv T na (nc - na) else 99999)) → (0 ≤ va ∧ va ≤ 99999 ∧ (nc - na = 0 → va = 0) ∧ (nc - na = 1 → va ≤ 9) ∧ (nc - na = 2 → va ≤ 99) ∧ (nc - na = 3 → va ≤ 999)) → zV pZ l eZ ({ frames := 3, cells := 0, slots := 0, locals := 180 } : Room) sZ mZ ([.ref (ad i)] : List Value).toArray below meth cZ (MQ below (zPost D A (rV0 N ad fun g' => (∃ F' : Nat → Int, g' i = mC ad i F' ∧ tkR T n F' (tk_at T n q) ∧ (∀ f, f ≠ 32 → f ≠ 33 → f ≠ 35 → f ≠ 36 → f ≠ 37 → F' f = F f)) ∧ ∀ j, j ≠ i → g' j = g j)) ([.ref (ad i)] : List Value).toArray sZ ({ frames := 3, cells := 0, slots := 0, locals := 180 } : Room).cells ({ frames := 3, cells := 0, slots := 0, locals := 180 } : Room).slots A) D A 2 (N) ad g1 (0) (0) 166 [(0, .ref (ad i))] [] := by
                  intro n9
                  induction n9 using Nat.strongRecOn with
                  | ind n9 ih_lp166 =>
                    intro nz nc va F8 g1 hm9 f2b f3b fn2 fp2 fv2 fw2 f4b hv2 hi2 hat hty2 hso2 hva hvb
                    have hay117 : zAt ad (i) (ad i) := rfl
                    have hay118 : zAt ad (i + 13) (ad (i + 13)) := rfl
                    refine z_aload_n C 0 dX10_go_166 rfl ?_
                    refine z_aload_n C 0 dX10_go_167 rfl ?_
                    refine z_get (v := .int (zI (nz))) C (lt_A0 hN rfl) hay117 f2b rfl inA_X10 32 (by decide) q_1491 rfl (fv (F := F8) (f := 32) fn2) dX10_go_168 ?_
                    have h34y120 : F8 34 = (n : Int) := ((f4b 34 (by decide) (by decide) (by decide) (by decide)).trans h34)
                    refine z_cV (As := [.int (zI (nz))]) (rest := []) (ci := 12) C (c_X10_byteAt l D A cs tt N ad _ i hN _ f2b _ ((f3b _ (by omega)).trans ha13) htp (by omega) (nz) (by omega)) (lt_A0 hN rfl) hay117 f2b rfl rfl mv_yX10_byteAt q_1660 hd_yX10_byteAt (by decide) (Nat.le_of_ble_eq_true rfl) (by decide) dX10_go_171 rfl (kI0 fun vy119 gvy119 hvy119 => ?_)
                    rw [h34y120] at hvy119
                    clear h34y120
                    obtain ⟨hrvy119, hpvy119, rfl⟩ := hvy119
                    rw [show (nz).toNat = nc by omega] at hpvy119
                    have hqvy119 : (nz < (n : Int) ∧ vy119 = T nc) ∨ ((n : Int) ≤ nz ∧ vy119 = 0) := by
                      rcases hpvy119 with ⟨a9, b9⟩ | ⟨a9, b9⟩
                      · exact Or.inl ⟨a9, b9.trans (hTt _ (by omega))⟩
                      · exact Or.inr ⟨a9, b9⟩
                    clear hpvy119
                    refine z_bipush (z := 48) C dX10_go_174 (by decide) ?_
                    refine z_icmp_lt (tgt := 247) C dX10_go_176 (by decide) (by omega) (by omega) (fun hby121 => ?_) (fun hby121 => ?_)
                    · have hto : tk_to T n na = nc := by
                        unfold tk_to
                        rw [if_neg (by omega), if_pos (Or.inr hty2)]
                        have e5 : tk_rn (fun c => decide (tk_ty c = tk_ty (T na))) T n na = tk_rn (fun c => decide (tk_ty c = tk_ty (T na))) T n (na + 1) := tk_rn_go (by omega) (decide_eq_true rfl)
                        rw [← e5, ← hi2]
                        exact tk_rn_end (by by_cases e9 : n ≤ nc; exact Or.inl e9; exact Or.inr (decide_eq_false (by have hty9 := tk_ty_c (T nc); omega)))
                      refine z_aload_n C 0 dX10_go_247 rfl ?_
                      refine z_iconst (z := 2) C dX10_go_248 rfl ?_
                      refine z_put (fs' := mF ad (i) (uZ F8 35 (2))) C (lt_A0 hN rfl) hay117 f2b tyX10 tyX10_ok nmX10 rfl inA_X10 35 (by decide) q_1494 rfl rfl rfl rfl (Nat.le_of_ble_eq_true rfl) rfl dX10_go_249 (fun gy122 egy123 => ?_)
                      have hgy124 := up_s egy123
                      refine z_goto (tgt := 291) C dX10_go_252 (by decide) ?_
                      have hFy125 : ∀ f, f ≠ 32 → f ≠ 33 → f ≠ 35 → f ≠ 36 → f ≠ 37 → (uZ F8 35 (2)) f = F f := fun f n32 n33 n35 n36 n37 => ((uZ_n _ _ n35).trans (f4b f n32 n33 n36 n37))
                      have hey126 : (uZ F8 35 (2)) 32 = nz := (fn fn2 (by decide))
                      have hey127 : (uZ F8 35 (2)) 33 = nx := (fn fp2 (by decide))
                      have hey128 : (uZ F8 35 (2)) 34 = (n : Int) := (fn ((f4b 34 (by decide) (by decide) (by decide) (by decide)).trans h34) (by decide))
                      have hey129 : (uZ F8 35 (2)) 35 = 2 := (uZ_s _ _ _)
                      have hey130 : (uZ F8 35 (2)) 36 = va := (fn fv2 (by decide))
                      have hey131 : (uZ F8 35 (2)) 37 = -1 := (fn fw2 (by decide))
                      have hey132 : (uZ F8 35 (2)) 38 = F 38 := (fn (f4b 38 (by decide) (by decide) (by decide) (by decide)) (by decide))
                      have hvl : vlu T n na = va := by rw [vlu2 hso2]; unfold tk_va; rw [hto]; omega
                      have hwd : tk_w T n na = -1 := tk_w_let (by omega)
                      have hsr : srt (tk_so T n na) = 2 := srt2.mpr hso2
                      have htk : tkR T n (uZ F8 35 (2)) na := ⟨by omega, by omega, by omega, by omega, by omega, by omega, by omega, by omega⟩
                      exact z_vret C hr hlk dX10_go_291 (by decide) (by decide) ⟨rfl, rfl, rfl, ⟨_, hgy124, by rw [hat]; exact htk, hFy125⟩, fun j j1 => by rw [egy123, va_up_ne _ _ (by omega)]; exact f3b j j1⟩
                    · refine z_aload_n C 0 dX10_go_179 rfl ?_
                      refine z_aload_n C 0 dX10_go_180 rfl ?_
                      refine z_get (v := .int (zI (nz))) C (lt_A0 hN rfl) hay117 f2b rfl inA_X10 32 (by decide) q_1491 rfl (fv (F := F8) (f := 32) fn2) dX10_go_181 ?_
                      have h34y134 : F8 34 = (n : Int) := ((f4b 34 (by decide) (by decide) (by decide) (by decide)).trans h34)
                      refine z_cV (As := [.int (zI (nz))]) (rest := []) (ci := 12) C (c_X10_byteAt l D A cs tt N ad _ i hN _ f2b _ ((f3b _ (by omega)).trans ha13) htp (by omega) (nz) (by omega)) (lt_A0 hN rfl) hay117 f2b rfl rfl mv_yX10_byteAt q_1660 hd_yX10_byteAt (by decide) (Nat.le_of_ble_eq_true rfl) (by decide) dX10_go_184 rfl (kI0 fun vy133 gvy133 hvy133 => ?_)
                      rw [h34y134] at hvy133
                      clear h34y134
                      obtain ⟨hrvy133, hpvy133, rfl⟩ := hvy133
                      rw [show (nz).toNat = nc by omega] at hpvy133
                      have hqvy133 : (nz < (n : Int) ∧ vy133 = T nc) ∨ ((n : Int) ≤ nz ∧ vy133 = 0) := by
                        rcases hpvy133 with ⟨a9, b9⟩ | ⟨a9, b9⟩
                        · exact Or.inl ⟨a9, b9.trans (hTt _ (by omega))⟩
                        · exact Or.inr ⟨a9, b9⟩
                      clear hpvy133
                      refine z_bipush (z := 57) C dX10_go_187 (by decide) ?_
                      refine z_icmp_gt (tgt := 247) C dX10_go_189 (by decide) (by omega) (by omega) (fun hby135 => ?_) (fun hby135 => ?_)
                      · have hto : tk_to T n na = nc := by
                          unfold tk_to
                          rw [if_neg (by omega), if_pos (Or.inr hty2)]
                          have e5 : tk_rn (fun c => decide (tk_ty c = tk_ty (T na))) T n na = tk_rn (fun c => decide (tk_ty c = tk_ty (T na))) T n (na + 1) := tk_rn_go (by omega) (decide_eq_true rfl)
                          rw [← e5, ← hi2]
                          exact tk_rn_end (by by_cases e9 : n ≤ nc; exact Or.inl e9; exact Or.inr (decide_eq_false (by have hty9 := tk_ty_c (T nc); omega)))
                        refine z_aload_n C 0 dX10_go_247 rfl ?_
                        refine z_iconst (z := 2) C dX10_go_248 rfl ?_
                        refine z_put (fs' := mF ad (i) (uZ F8 35 (2))) C (lt_A0 hN rfl) hay117 f2b tyX10 tyX10_ok nmX10 rfl inA_X10 35 (by decide) q_1494 rfl rfl rfl rfl (Nat.le_of_ble_eq_true rfl) rfl dX10_go_249 (fun gy136 egy137 => ?_)
                        have hgy138 := up_s egy137
                        refine z_goto (tgt := 291) C dX10_go_252 (by decide) ?_
                        have hFy139 : ∀ f, f ≠ 32 → f ≠ 33 → f ≠ 35 → f ≠ 36 → f ≠ 37 → (uZ F8 35 (2)) f = F f := fun f n32 n33 n35 n36 n37 => ((uZ_n _ _ n35).trans (f4b f n32 n33 n36 n37))
                        have hey140 : (uZ F8 35 (2)) 32 = nz := (fn fn2 (by decide))
                        have hey141 : (uZ F8 35 (2)) 33 = nx := (fn fp2 (by decide))
                        have hey142 : (uZ F8 35 (2)) 34 = (n : Int) := (fn ((f4b 34 (by decide) (by decide) (by decide) (by decide)).trans h34) (by decide))
                        have hey143 : (uZ F8 35 (2)) 35 = 2 := (uZ_s _ _ _)
                        have hey144 : (uZ F8 35 (2)) 36 = va := (fn fv2 (by decide))
                        have hey145 : (uZ F8 35 (2)) 37 = -1 := (fn fw2 (by decide))
                        have hey146 : (uZ F8 35 (2)) 38 = F 38 := (fn (f4b 38 (by decide) (by decide) (by decide) (by decide)) (by decide))
                        have hvl : vlu T n na = va := by rw [vlu2 hso2]; unfold tk_va; rw [hto]; omega
                        have hwd : tk_w T n na = -1 := tk_w_let (by omega)
                        have hsr : srt (tk_so T n na) = 2 := srt2.mpr hso2
                        have htk : tkR T n (uZ F8 35 (2)) na := ⟨by omega, by omega, by omega, by omega, by omega, by omega, by omega, by omega⟩
                        exact z_vret C hr hlk dX10_go_291 (by decide) (by decide) ⟨rfl, rfl, rfl, ⟨_, hgy138, by rw [hat]; exact htk, hFy139⟩, fun j j1 => by rw [egy137, va_up_ne _ _ (by omega)]; exact f3b j j1⟩
                      · refine z_aload_n C 0 dX10_go_192 rfl ?_
                        refine z_aload_n C 0 dX10_go_193 rfl ?_
                        refine z_get (v := .int (zI (nz))) C (lt_A0 hN rfl) hay117 f2b rfl inA_X10 32 (by decide) q_1491 rfl (fv (F := F8) (f := 32) fn2) dX10_go_194 ?_
                        refine z_aload_n C 0 dX10_go_197 rfl ?_
                        refine z_get (v := .int (zI (nx))) C (lt_A0 hN rfl) hay117 f2b rfl inA_X10 33 (by decide) q_1492 rfl (fv (F := F8) (f := 33) fp2) dX10_go_198 ?_
                        refine z_isub C dX10_go_201 ?_
                        refine z_iconst (z := 4) C dX10_go_202 rfl ?_
                        refine z_icmp_ge (tgt := 228) C dX10_go_203 (by decide) (by omega) (by omega) (fun hby147 => ?_) (fun hby147 => ?_)
                        · refine z_ldcw (z := 99999) C dX10_go_228 q_1673 (by decide) ?_
                          refine z_put (fs' := mF ad (i) (uZ F8 36 (99999))) C (lt_A0 hN rfl) hay117 f2b tyX10 tyX10_ok nmX10 rfl inA_X10 36 (by decide) q_1495 rfl rfl rfl rfl (Nat.le_of_ble_eq_true rfl) rfl dX10_go_231 (fun gy148 egy149 => ?_)
                          have hgy150 := up_s egy149
                          refine z_aload_n C 0 dX10_go_234 rfl ?_
                          refine z_dup C dX10_go_235 rfl ?_
                          refine z_get (v := .int (zI (nz))) C (lt_A0 hN rfl) hay117 hgy150 rfl inA_X10 32 (by decide) q_1491 rfl (fv (F := (uZ F8 36 (99999))) (f := 32) (fn fn2 (by decide))) dX10_go_236 ?_
                          refine z_iconst (z := 1) C dX10_go_239 rfl ?_
                          refine z_iadd C dX10_go_240 ?_
                          refine z_put (fs' := mF ad (i) (uZ (uZ F8 36 (99999)) 32 (nz + 1))) C (lt_A0 hN rfl) hay117 hgy150 tyX10 tyX10_ok nmX10 rfl inA_X10 32 (by decide) q_1491 rfl rfl rfl rfl (Nat.le_of_ble_eq_true rfl) rfl dX10_go_241 (fun gy151 egy152 => ?_)
                          have hgy153 := up_s egy152
                          refine z_goto (tgt := 166) C dX10_go_244 (by decide) ?_
                          have hFy154 : ∀ f, f ≠ 32 → f ≠ 33 → f ≠ 36 → f ≠ 37 → (uZ (uZ F8 36 (99999)) 32 (nz + 1)) f = F f := fun f n32 n33 n36 n37 => ((uZ_n _ _ n32).trans ((uZ_n _ _ n36).trans (f4b f n32 n33 n36 n37)))
                          refine z_lv (lv' := [(0, .ref (ad i))]) [0] rfl ?_
                          have hty9 := tk_ty_c (T nc)
                          have htyc : tk_ty (T nc) = 2 := by omega
                          have hdc : 48 ≤ T nc ∧ T nc ≤ 57 := by omega
                          clear hty9
                          have hvn : 99999 = (if nc + 1 - na ≤ 4 then tk_dv T na (nc + 1 - na) else 99999) := by
                            by_cases e9 : nc - na < 4
                            · rw [if_pos (by omega)] at hva ⊢; rw [show nc + 1 - na = (nc - na) + 1 by omega]; show _ = 10 * tk_dv T na (nc - na) + T (na + (nc - na)) - 48; rw [← hva, show na + (nc - na) = nc by omega]; omega
                            · rw [if_neg (by omega)]; try omega
                          exact ih_lp166 _ (by omega) (nz + 1) (nc + 1) (99999) _ gy151 rfl hgy153 (fun j j1 => by rw [egy152, va_up_ne _ _ (by omega)]; rw [egy149, va_up_ne _ _ (by omega)]; exact f3b j j1) (uZ_s _ _ _) (fn (fn fp2 (by decide)) (by decide)) (fn (uZ_s _ _ _) (by decide)) (fn (fn fw2 (by decide)) (by decide)) hFy154 (by omega) ((tk_rn_go (by omega) (decide_eq_true (htyc.trans hty2.symm))).symm.trans hi2) hat hty2 hso2 hvn (by omega)
                        · refine z_bipush (z := 10) C dX10_go_206 (by decide) ?_
                          refine z_aload_n C 0 dX10_go_208 rfl ?_
                          refine z_get (v := .int (zI (va))) C (lt_A0 hN rfl) hay117 f2b rfl inA_X10 36 (by decide) q_1495 rfl (fv (F := F8) (f := 36) fv2) dX10_go_209 ?_
                          refine z_imul C dX10_go_212 ?_
                          refine z_aload_n C 0 dX10_go_213 rfl ?_
                          refine z_aload_n C 0 dX10_go_214 rfl ?_
                          refine z_get (v := .int (zI (nz))) C (lt_A0 hN rfl) hay117 f2b rfl inA_X10 32 (by decide) q_1491 rfl (fv (F := F8) (f := 32) fn2) dX10_go_215 ?_
                          have h34y156 : F8 34 = (n : Int) := ((f4b 34 (by decide) (by decide) (by decide) (by decide)).trans h34)
                          refine z_cV (As := [.int (zI (nz))]) (rest := [.int (zI (10 * va)), .ref (ad i)]) (ci := 12) C (c_X10_byteAt l D A cs tt N ad _ i hN _ f2b _ ((f3b _ (by omega)).trans ha13) htp (by omega) (nz) (by omega)) (lt_A0 hN rfl) hay117 f2b rfl rfl mv_yX10_byteAt q_1660 hd_yX10_byteAt (by decide) (Nat.le_of_ble_eq_true rfl) (by decide) dX10_go_218 rfl (kI0 fun vy155 gvy155 hvy155 => ?_)
                          rw [h34y156] at hvy155
                          clear h34y156
                          obtain ⟨hrvy155, hpvy155, rfl⟩ := hvy155
                          rw [show (nz).toNat = nc by omega] at hpvy155
                          have hqvy155 : (nz < (n : Int) ∧ vy155 = T nc) ∨ ((n : Int) ≤ nz ∧ vy155 = 0) := by
                            rcases hpvy155 with ⟨a9, b9⟩ | ⟨a9, b9⟩
                            · exact Or.inl ⟨a9, b9.trans (hTt _ (by omega))⟩
                            · exact Or.inr ⟨a9, b9⟩
                          clear hpvy155
                          refine z_iadd C dX10_go_221 ?_
                          refine z_bipush (z := 48) C dX10_go_222 (by decide) ?_
                          refine z_isub C dX10_go_224 ?_
                          refine z_goto (tgt := 231) C dX10_go_225 (by decide) ?_
                          refine z_put (fs' := mF ad (i) (uZ F8 36 (((10 * va) + vy155) - 48))) C (lt_A0 hN rfl) hay117 f2b tyX10 tyX10_ok nmX10 rfl inA_X10 36 (by decide) q_1495 rfl rfl rfl rfl (Nat.le_of_ble_eq_true rfl) rfl dX10_go_231 (fun gy157 egy158 => ?_)
                          have hgy159 := up_s egy158
                          refine z_aload_n C 0 dX10_go_234 rfl ?_
                          refine z_dup C dX10_go_235 rfl ?_
                          refine z_get (v := .int (zI (nz))) C (lt_A0 hN rfl) hay117 hgy159 rfl inA_X10 32 (by decide) q_1491 rfl (fv (F := (uZ F8 36 (((10 * va) + vy155) - 48))) (f := 32) (fn fn2 (by decide))) dX10_go_236 ?_
                          refine z_iconst (z := 1) C dX10_go_239 rfl ?_
                          refine z_iadd C dX10_go_240 ?_
                          refine z_put (fs' := mF ad (i) (uZ (uZ F8 36 (((10 * va) + vy155) - 48)) 32 (nz + 1))) C (lt_A0 hN rfl) hay117 hgy159 tyX10 tyX10_ok nmX10 rfl inA_X10 32 (by decide) q_1491 rfl rfl rfl rfl (Nat.le_of_ble_eq_true rfl) rfl dX10_go_241 (fun gy160 egy161 => ?_)
                          have hgy162 := up_s egy161
                          refine z_goto (tgt := 166) C dX10_go_244 (by decide) ?_
                          have hFy163 : ∀ f, f ≠ 32 → f ≠ 33 → f ≠ 36 → f ≠ 37 → (uZ (uZ F8 36 (((10 * va) + vy155) - 48)) 32 (nz + 1)) f = F f := fun f n32 n33 n36 n37 => ((uZ_n _ _ n32).trans ((uZ_n _ _ n36).trans (f4b f n32 n33 n36 n37)))
                          refine z_lv (lv' := [(0, .ref (ad i))]) [0] rfl ?_
                          have hty9 := tk_ty_c (T nc)
                          have htyc : tk_ty (T nc) = 2 := by omega
                          have hdc : 48 ≤ T nc ∧ T nc ≤ 57 := by omega
                          clear hty9
                          have hvn : ((10 * va) + vy155) - 48 = (if nc + 1 - na ≤ 4 then tk_dv T na (nc + 1 - na) else 99999) := by
                            by_cases e9 : nc - na < 4
                            · rw [if_pos (by omega)] at hva ⊢; rw [show nc + 1 - na = (nc - na) + 1 by omega]; show _ = 10 * tk_dv T na (nc - na) + T (na + (nc - na)) - 48; rw [← hva, show na + (nc - na) = nc by omega]; omega
                            · rw [if_neg (by omega)]; try omega
                          exact ih_lp166 _ (by omega) (nz + 1) (nc + 1) (((10 * va) + vy155) - 48) _ gy160 rfl hgy162 (fun j j1 => by rw [egy161, va_up_ne _ _ (by omega)]; rw [egy158, va_up_ne _ _ (by omega)]; exact f3b j j1) (uZ_s _ _ _) (fn (fn fp2 (by decide)) (by decide)) (fn (uZ_s _ _ _) (by decide)) (fn (fn fw2 (by decide)) (by decide)) hFy163 (by omega) ((tk_rn_go (by omega) (decide_eq_true (htyc.trans hty2.symm))).symm.trans hi2) hat hty2 hso2 hvn (by omega)
                have hFy164 : ∀ f, f ≠ 32 → f ≠ 33 → f ≠ 36 → f ≠ 37 → (uZ (uZ (uZ F9 33 (nx)) 37 (-1)) 36 (0)) f = F f := fun f n32 n33 n36 n37 => ((uZ_n _ _ n36).trans ((uZ_n _ _ n37).trans ((uZ_n _ _ n33).trans (f4 f n32))))
                have hat : tk_at T n q = na := hi.symm.trans (tk_rn_end (Or.inr (decide_eq_false (by omega))))
                have hty := tk_ty_c (T na)
                have hty2 : tk_ty (T na) = 2 := by omega
                have hso2 : tk_so T n na = 2 := by unfold tk_so; rw [if_neg (by omega)]; exact hty2
                refine z_lv (lv' := [(0, .ref (ad i))]) [1] rfl ?_
                exact lp166 _ (nx) na (0) _ gy15 rfl hgy17 (fun j j1 => by rw [egy16, va_up_ne _ _ (by omega)]; rw [egy13, va_up_ne _ _ (by omega)]; rw [egy7, va_up_ne _ _ (by omega)]; exact f3 j j1) (fn (fn (fn fx0 (by decide)) (by decide)) (by decide)) (fn (fn (uZ_s _ _ _) (by decide)) (by decide)) (uZ_s _ _ _) (fn (uZ_s _ _ _) (by decide)) hFy164 (by omega) rfl hat hty2 hso2 (by rw [if_pos (by omega), show na - na = 0 by omega]; rfl) (by omega)
          · have lp103 : ∀ (n9 : Nat) (ny : Int) (nb : Nat) (F8 : Nat → Int) (g1 : Nat → va_E), (900 - ny).toNat = n9 → (g1 i = mC ad i F8) → (∀ j, j ≠ i → g1 j = g j) → (F8 32 = ny) → (F8 33 = nx) → (F8 36 = 0) → (F8 37 = -1) → (∀ f, f ≠ 32 → f ≠ 33 → f ≠ 36 → f ≠ 37 → F8 f = F f) → ((ny = (nb : Int) ∧ nx = (na : Int)) ∧ na ≤ nb ∧ nb ≤ n ∧ na < n) → (tk_rn (fun c => decide (tk_ty c = tk_ty (T na))) T n nb = tk_rn (fun c => decide (tk_ty c = tk_ty (T na))) T n na) → (tk_at T n q = na) → (tk_ty (T na) = 1) → (tk_so T n na = 1) → zV pZ l eZ ({ frames := 3, cells := 0, slots := 0, locals := 180 } : Room) sZ mZ ([.ref (ad i)] : List Value).toArray below meth cZ (MQ below (zPost D A (rV0 N ad fun g' => (∃ F' : Nat → Int, g' i = mC ad i F' ∧ tkR T n F' (tk_at T n q) ∧ (∀ f, f ≠ 32 → f ≠ 33 → f ≠ 35 → f ≠ 36 → f ≠ 37 → F' f = F f)) ∧ ∀ j, j ≠ i → g' j = g j)) ([.ref (ad i)] : List Value).toArray sZ ({ frames := 3, cells := 0, slots := 0, locals := 180 } : Room).cells ({ frames := 3, cells := 0, slots := 0, locals := 180 } : Room).slots A) D A 2 (N) ad g1 (0) (0) 103 [(0, .ref (ad i))] [] := by
              intro n9
              induction n9 using Nat.strongRecOn with
              | ind n9 ih_lp103 =>
                intro ny nb F8 g1 hm9 f2b f3b fn2 fp2 fv2 fw2 f4b hv2 hi2 hat hty1 hso1
                have hay165 : zAt ad (i) (ad i) := rfl
                have hay166 : zAt ad (i + 13) (ad (i + 13)) := rfl
                refine z_aload_n C 0 dX10_go_103 rfl ?_
                refine z_aload_n C 0 dX10_go_104 rfl ?_
                refine z_get (v := .int (zI (ny))) C (lt_A0 hN rfl) hay165 f2b rfl inA_X10 32 (by decide) q_1491 rfl (fv (F := F8) (f := 32) fn2) dX10_go_105 ?_
                have h34y168 : F8 34 = (n : Int) := ((f4b 34 (by decide) (by decide) (by decide) (by decide)).trans h34)
                refine z_cV (As := [.int (zI (ny))]) (rest := []) (ci := 12) C (c_X10_byteAt l D A cs tt N ad _ i hN _ f2b _ ((f3b _ (by omega)).trans ha13) htp (by omega) (ny) (by omega)) (lt_A0 hN rfl) hay165 f2b rfl rfl mv_yX10_byteAt q_1660 hd_yX10_byteAt (by decide) (Nat.le_of_ble_eq_true rfl) (by decide) dX10_go_108 rfl (kI0 fun vy167 gvy167 hvy167 => ?_)
                rw [h34y168] at hvy167
                clear h34y168
                obtain ⟨hrvy167, hpvy167, rfl⟩ := hvy167
                rw [show (ny).toNat = nb by omega] at hpvy167
                have hqvy167 : (ny < (n : Int) ∧ vy167 = T nb) ∨ ((n : Int) ≤ ny ∧ vy167 = 0) := by
                  rcases hpvy167 with ⟨a9, b9⟩ | ⟨a9, b9⟩
                  · exact Or.inl ⟨a9, b9.trans (hTt _ (by omega))⟩
                  · exact Or.inr ⟨a9, b9⟩
                clear hpvy167
                refine z_cS (As := [.int (zI (vy167))]) (rest := []) C (c_X10_isLetter l D A cs tt N ad _ (vy167) (by omega)) ms_yX10_isLetter q_1664 hd_yX10_isLetter (by decide) (Nat.le_of_ble_eq_true rfl) (by decide) dX10_go_111 rfl (kI0 fun vy169 gvy169 hvy169 => ?_)
                obtain ⟨hvy169, rfl⟩ := hvy169
                refine z_if_eq (tgt := 130) C dX10_go_114 (by decide) (by omega) (fun hby170 => ?_) (fun hby170 => ?_)
                · refine z_aload_n C 0 dX10_go_130 rfl ?_
                  refine z_iconst (z := 1) C dX10_go_131 rfl ?_
                  refine z_put (fs' := mF ad (i) (uZ F8 35 (1))) C (lt_A0 hN rfl) hay165 f2b tyX10 tyX10_ok nmX10 rfl inA_X10 35 (by decide) q_1494 rfl rfl rfl rfl (Nat.le_of_ble_eq_true rfl) rfl dX10_go_132 (fun gy171 egy172 => ?_)
                  have hgy173 := up_s egy172
                  refine z_aload_n C 0 dX10_go_135 rfl ?_
                  refine z_aload_n C 0 dX10_go_136 rfl ?_
                  refine z_aload_n C 0 dX10_go_137 rfl ?_
                  refine z_get (v := .int (zI (nx))) C (lt_A0 hN rfl) hay165 hgy173 rfl inA_X10 33 (by decide) q_1492 rfl (fv (F := (uZ F8 35 (1))) (f := 33) (fn fp2 (by decide))) dX10_go_138 ?_
                  refine z_aload_n C 0 dX10_go_141 rfl ?_
                  refine z_get (v := .int (zI (ny))) C (lt_A0 hN rfl) hay165 hgy173 rfl inA_X10 32 (by decide) q_1491 rfl (fv (F := (uZ F8 35 (1))) (f := 32) (fn fn2 (by decide))) dX10_go_142 ?_
                  have hto : tk_to T n na = nb := by
                    unfold tk_to
                    rw [if_neg (by omega), if_pos (Or.inl hty1)]
                    have e5 : tk_rn (fun c => decide (tk_ty c = tk_ty (T na))) T n na = tk_rn (fun c => decide (tk_ty c = tk_ty (T na))) T n (na + 1) := tk_rn_go (by omega) (decide_eq_true rfl)
                    rw [← e5, ← hi2]
                    exact tk_rn_end (by by_cases e9 : n ≤ nb; exact Or.inl e9; exact Or.inr (decide_eq_false (by have hty9 := tk_ty_c (T nb); omega)))
                  have hgy175 := up_n egy172 ((f3b _ (by omega)).trans ha13) (ne_o (i := i) (c := 13) (d := 0) rfl)
                  have h34y176 : (uZ F8 35 (1)) 34 = (n : Int) := (fn ((f4b 34 (by decide) (by decide) (by decide) (by decide)).trans h34) (by decide))
                  rw [show nx = (na : Int) by omega, show ny = ((tk_to T n na : Nat) : Int) by omega]
                  refine z_cV (As := [.int (zI ((na : Int))), .int (zI (((tk_to T n na : Nat) : Int)))]) (rest := [.ref (ad i)]) (ci := 12) C (c_yWord l D A cs tt N ad _ i hN _ hgy173 _ hgy175 T n hn hTb hTt htp h34y176 na (by omega) hso1) (lt_A0 hN rfl) hay165 hgy173 rfl rfl mv_yX10_wordFrom q_1667 hd_yX10_wordFrom (by decide) (Nat.le_of_ble_eq_true rfl) (by decide) dX10_go_145 rfl (kI0 fun vy174 gvy174 hvy174 => ?_)
                  obtain ⟨rfl, rfl⟩ := hvy174
                  refine z_put (fs' := mF ad (i) (uZ (uZ F8 35 (1)) 37 (tk_w T n na))) C (lt_A0 hN rfl) hay165 hgy173 tyX10 tyX10_ok nmX10 rfl inA_X10 37 (by decide) q_1496 rfl rfl rfl rfl (Nat.le_of_ble_eq_true rfl) rfl dX10_go_148 (fun gy177 egy178 => ?_)
                  have hgy179 := up_s egy178
                  refine z_goto (tgt := 291) C dX10_go_151 (by decide) ?_
                  have hFy180 : ∀ f, f ≠ 32 → f ≠ 33 → f ≠ 35 → f ≠ 36 → f ≠ 37 → (uZ (uZ F8 35 (1)) 37 (tk_w T n na)) f = F f := fun f n32 n33 n35 n36 n37 => ((uZ_n _ _ n37).trans ((uZ_n _ _ n35).trans (f4b f n32 n33 n36 n37)))
                  have hey181 : (uZ (uZ F8 35 (1)) 37 (tk_w T n na)) 32 = ny := (fn (fn fn2 (by decide)) (by decide))
                  have hey182 : (uZ (uZ F8 35 (1)) 37 (tk_w T n na)) 33 = nx := (fn (fn fp2 (by decide)) (by decide))
                  have hey183 : (uZ (uZ F8 35 (1)) 37 (tk_w T n na)) 34 = (n : Int) := (fn (fn ((f4b 34 (by decide) (by decide) (by decide) (by decide)).trans h34) (by decide)) (by decide))
                  have hey184 : (uZ (uZ F8 35 (1)) 37 (tk_w T n na)) 35 = 1 := (fn (uZ_s _ _ _) (by decide))
                  have hey185 : (uZ (uZ F8 35 (1)) 37 (tk_w T n na)) 36 = 0 := (fn (fn fv2 (by decide)) (by decide))
                  have hey186 : (uZ (uZ F8 35 (1)) 37 (tk_w T n na)) 37 = tk_w T n na := (uZ_s _ _ _)
                  have hey187 : (uZ (uZ F8 35 (1)) 37 (tk_w T n na)) 38 = F 38 := (fn (fn (f4b 38 (by decide) (by decide) (by decide) (by decide)) (by decide)) (by decide))
                  have hvl : vlu T n na = 0 := by unfold vlu; rw [if_neg (by omega), if_neg (by omega)]
                  have hsr : srt (tk_so T n na) = 1 := srt1.mpr hso1
                  have hwd : tk_w T n na = tk_w T n na := rfl
                  have htk : tkR T n (uZ (uZ F8 35 (1)) 37 (tk_w T n na)) na := ⟨by omega, by omega, by omega, by omega, by omega, by omega, by omega, by omega⟩
                  exact z_vret C hr hlk dX10_go_291 (by decide) (by decide) ⟨rfl, rfl, rfl, ⟨_, hgy179, by rw [hat]; exact htk, hFy180⟩, fun j j1 => by rw [egy178, va_up_ne _ _ (by omega)]; rw [egy172, va_up_ne _ _ (by omega)]; exact f3b j j1⟩
                · refine z_aload_n C 0 dX10_go_117 rfl ?_
                  refine z_dup C dX10_go_118 rfl ?_
                  refine z_get (v := .int (zI (ny))) C (lt_A0 hN rfl) hay165 f2b rfl inA_X10 32 (by decide) q_1491 rfl (fv (F := F8) (f := 32) fn2) dX10_go_119 ?_
                  refine z_iconst (z := 1) C dX10_go_122 rfl ?_
                  refine z_iadd C dX10_go_123 ?_
                  refine z_put (fs' := mF ad (i) (uZ F8 32 (ny + 1))) C (lt_A0 hN rfl) hay165 f2b tyX10 tyX10_ok nmX10 rfl inA_X10 32 (by decide) q_1491 rfl rfl rfl rfl (Nat.le_of_ble_eq_true rfl) rfl dX10_go_124 (fun gy188 egy189 => ?_)
                  have hgy190 := up_s egy189
                  refine z_goto (tgt := 103) C dX10_go_127 (by decide) ?_
                  have hFy191 : ∀ f, f ≠ 32 → f ≠ 33 → f ≠ 36 → f ≠ 37 → (uZ F8 32 (ny + 1)) f = F f := fun f n32 n33 n36 n37 => ((uZ_n _ _ n32).trans (f4b f n32 n33 n36 n37))
                  refine z_lv (lv' := [(0, .ref (ad i))]) [0] rfl ?_
                  exact ih_lp103 _ (by omega) (ny + 1) (nb + 1) _ gy188 rfl hgy190 (fun j j1 => by rw [egy189, va_up_ne _ _ (by omega)]; exact f3b j j1) (uZ_s _ _ _) (fn fp2 (by decide)) (fn fv2 (by decide)) (fn fw2 (by decide)) hFy191 (by omega) ((tk_rn_go (by omega) (decide_eq_true (by have hty9 := tk_ty_c (T nb); omega))).symm.trans hi2) hat hty1 hso1
            have hFy192 : ∀ f, f ≠ 32 → f ≠ 33 → f ≠ 36 → f ≠ 37 → (uZ (uZ (uZ F9 33 (nx)) 37 (-1)) 36 (0)) f = F f := fun f n32 n33 n36 n37 => ((uZ_n _ _ n36).trans ((uZ_n _ _ n37).trans ((uZ_n _ _ n33).trans (f4 f n32))))
            have hat : tk_at T n q = na := hi.symm.trans (tk_rn_end (Or.inr (decide_eq_false (by omega))))
            have hty := tk_ty_c (T na)
            have hty1 : tk_ty (T na) = 1 := by omega
            have hso1 : tk_so T n na = 1 := by unfold tk_so; rw [if_neg (by omega)]; exact hty1
            refine z_lv (lv' := [(0, .ref (ad i))]) [1] rfl ?_
            exact lp103 _ (nx) na _ gy15 rfl hgy17 (fun j j1 => by rw [egy16, va_up_ne _ _ (by omega)]; rw [egy13, va_up_ne _ _ (by omega)]; rw [egy7, va_up_ne _ _ (by omega)]; exact f3 j j1) (fn (fn (fn fx0 (by decide)) (by decide)) (by decide)) (fn (fn (uZ_s _ _ _) (by decide)) (by decide)) (uZ_s _ _ _) (fn (uZ_s _ _ _) (by decide)) hFy192 (by omega) rfl hat hty1 hso1
        · refine z_aload_n C 1 dX10_go_88 rfl ?_
          refine z_iconst (z := 0) C dX10_go_89 rfl ?_
          refine z_put (fs' := mF ad (i) (uZ (uZ (uZ (uZ F9 33 (nx)) 37 (-1)) 36 (0)) 35 (0))) C (lt_A0 hN rfl) hay3 hgy17 tyX10 tyX10_ok nmX10 rfl inA_X10 35 (by decide) q_1494 rfl rfl rfl rfl (Nat.le_of_ble_eq_true rfl) rfl dX10_go_90 (fun gy193 egy194 => ?_)
          have hgy195 := up_s egy194
          refine z_goto (tgt := 291) C dX10_go_93 (by decide) ?_
          have hFy196 : ∀ f, f ≠ 32 → f ≠ 33 → f ≠ 35 → f ≠ 36 → f ≠ 37 → (uZ (uZ (uZ (uZ F9 33 (nx)) 37 (-1)) 36 (0)) 35 (0)) f = F f := fun f n32 n33 n35 n36 n37 => ((uZ_n _ _ n35).trans ((uZ_n _ _ n36).trans ((uZ_n _ _ n37).trans ((uZ_n _ _ n33).trans (f4 f n32)))))
          have hey197 : (uZ (uZ (uZ (uZ F9 33 (nx)) 37 (-1)) 36 (0)) 35 (0)) 32 = nx := (fn (fn (fn (fn fx0 (by decide)) (by decide)) (by decide)) (by decide))
          have hey198 : (uZ (uZ (uZ (uZ F9 33 (nx)) 37 (-1)) 36 (0)) 35 (0)) 33 = nx := (fn (fn (fn (uZ_s _ _ _) (by decide)) (by decide)) (by decide))
          have hey199 : (uZ (uZ (uZ (uZ F9 33 (nx)) 37 (-1)) 36 (0)) 35 (0)) 34 = (n : Int) := (fn (fn (fn (fn ((f4 34 (by decide)).trans h34) (by decide)) (by decide)) (by decide)) (by decide))
          have hey200 : (uZ (uZ (uZ (uZ F9 33 (nx)) 37 (-1)) 36 (0)) 35 (0)) 35 = 0 := (uZ_s _ _ _)
          have hey201 : (uZ (uZ (uZ (uZ F9 33 (nx)) 37 (-1)) 36 (0)) 35 (0)) 36 = 0 := (fn (uZ_s _ _ _) (by decide))
          have hey202 : (uZ (uZ (uZ (uZ F9 33 (nx)) 37 (-1)) 36 (0)) 35 (0)) 37 = -1 := (fn (fn (uZ_s _ _ _) (by decide)) (by decide))
          have hey203 : (uZ (uZ (uZ (uZ F9 33 (nx)) 37 (-1)) 36 (0)) 35 (0)) 38 = F 38 := (fn (fn (fn (fn (f4 38 (by decide)) (by decide)) (by decide)) (by decide)) (by decide))
          have hat : tk_at T n q = na := hi.symm.trans (tk_rn_end (by first | exact Or.inl (by omega) | exact Or.inr (decide_eq_false (by omega))))
          have hso0 : tk_so T n na = 0 := tk_so_0.mpr (by omega)
          have hto : tk_to T n na = na := by unfold tk_to; rw [if_pos (by omega)]
          have hvl : vlu T n na = 0 := by unfold vlu; rw [if_neg (by omega), if_neg (by omega)]
          have hwd : tk_w T n na = -1 := tk_w_let (by omega)
          have hsr : srt (tk_so T n na) = 0 := srt0.mpr hso0
          have htk : tkR T n (uZ (uZ (uZ (uZ F9 33 (nx)) 37 (-1)) 36 (0)) 35 (0)) na := ⟨by omega, by omega, by omega, by omega, by omega, by omega, by omega, by omega⟩
          exact z_vret C hr hlk dX10_go_291 (by decide) (by decide) ⟨rfl, rfl, rfl, ⟨_, hgy195, by rw [hat]; exact htk, hFy196⟩, fun j j1 => by rw [egy194, va_up_ne _ _ (by omega)]; rw [egy16, va_up_ne _ _ (by omega)]; rw [egy13, va_up_ne _ _ (by omega)]; rw [egy7, va_up_ne _ _ (by omega)]; exact f3 j j1⟩
      · refine z_aload_n C 0 dX10_go_11 rfl ?_
        refine z_aload_n C 0 dX10_go_12 rfl ?_
        refine z_get (v := .int (zI (nx))) C (lt_A0 hN rfl) hay3 f2 rfl inA_X10 32 (by decide) q_1491 rfl (fv (F := F9) (f := 32) fx0) dX10_go_13 ?_
        have h34y205 : F9 34 = (n : Int) := ((f4 34 (by decide)).trans h34)
        refine z_cV (As := [.int (zI (nx))]) (rest := []) (ci := 12) C (c_X10_byteAt l D A cs tt N ad _ i hN _ f2 _ ((f3 _ (by omega)).trans ha13) htp (by omega) (nx) (by omega)) (lt_A0 hN rfl) hay3 f2 rfl rfl mv_yX10_byteAt q_1660 hd_yX10_byteAt (by decide) (Nat.le_of_ble_eq_true rfl) (by decide) dX10_go_16 rfl (kI0 fun vy204 gvy204 hvy204 => ?_)
        rw [h34y205] at hvy204
        clear h34y205
        obtain ⟨hrvy204, hpvy204, rfl⟩ := hvy204
        rw [show (nx).toNat = na by omega] at hpvy204
        have hqvy204 : (nx < (n : Int) ∧ vy204 = T na) ∨ ((n : Int) ≤ nx ∧ vy204 = 0) := by
          rcases hpvy204 with ⟨a9, b9⟩ | ⟨a9, b9⟩
          · exact Or.inl ⟨a9, b9.trans (hTt _ (by omega))⟩
          · exact Or.inr ⟨a9, b9⟩
        clear hpvy204
        refine z_bipush (z := 32) C dX10_go_19 (by decide) ?_
        refine z_icmp_eq (tgt := 37) C dX10_go_21 (by decide) (by omega) (by omega) (fun hby206 => ?_) (fun hby206 => ?_)
        · refine z_aload_n C 0 dX10_go_37 rfl ?_
          refine z_dup C dX10_go_38 rfl ?_
          refine z_get (v := .int (zI (nx))) C (lt_A0 hN rfl) hay3 f2 rfl inA_X10 32 (by decide) q_1491 rfl (fv (F := F9) (f := 32) fx0) dX10_go_39 ?_
          refine z_iconst (z := 1) C dX10_go_42 rfl ?_
          refine z_iadd C dX10_go_43 ?_
          refine z_put (fs' := mF ad (i) (uZ F9 32 (nx + 1))) C (lt_A0 hN rfl) hay3 f2 tyX10 tyX10_ok nmX10 rfl inA_X10 32 (by decide) q_1491 rfl rfl rfl rfl (Nat.le_of_ble_eq_true rfl) rfl dX10_go_44 (fun gy207 egy208 => ?_)
          have hgy209 := up_s egy208
          refine z_goto (tgt := 0) C dX10_go_47 (by decide) ?_
          have hFy210 : ∀ f, f ≠ 32 → (uZ F9 32 (nx + 1)) f = F f := fun f n32 => ((uZ_n _ _ n32).trans (f4 f n32))
          refine z_lv (lv' := [(0, .ref (ad i))]) [0] rfl ?_
          exact ih_lp0 _ (by omega) (nx + 1) (na + 1) _ gy207 rfl hgy209 (fun j j1 => by rw [egy208, va_up_ne _ _ (by omega)]; exact f3 j j1) (uZ_s _ _ _) hFy210 (by omega) ((tk_rn_go (by omega) (decide_eq_true (by omega))).symm.trans hi)
        · refine z_aload_n C 0 dX10_go_24 rfl ?_
          refine z_aload_n C 0 dX10_go_25 rfl ?_
          refine z_get (v := .int (zI (nx))) C (lt_A0 hN rfl) hay3 f2 rfl inA_X10 32 (by decide) q_1491 rfl (fv (F := F9) (f := 32) fx0) dX10_go_26 ?_
          have h34y212 : F9 34 = (n : Int) := ((f4 34 (by decide)).trans h34)
          refine z_cV (As := [.int (zI (nx))]) (rest := []) (ci := 12) C (c_X10_byteAt l D A cs tt N ad _ i hN _ f2 _ ((f3 _ (by omega)).trans ha13) htp (by omega) (nx) (by omega)) (lt_A0 hN rfl) hay3 f2 rfl rfl mv_yX10_byteAt q_1660 hd_yX10_byteAt (by decide) (Nat.le_of_ble_eq_true rfl) (by decide) dX10_go_29 rfl (kI0 fun vy211 gvy211 hvy211 => ?_)
          rw [h34y212] at hvy211
          clear h34y212
          obtain ⟨hrvy211, hpvy211, rfl⟩ := hvy211
          rw [show (nx).toNat = na by omega] at hpvy211
          have hqvy211 : (nx < (n : Int) ∧ vy211 = T na) ∨ ((n : Int) ≤ nx ∧ vy211 = 0) := by
            rcases hpvy211 with ⟨a9, b9⟩ | ⟨a9, b9⟩
            · exact Or.inl ⟨a9, b9.trans (hTt _ (by omega))⟩
            · exact Or.inr ⟨a9, b9⟩
          clear hpvy211
          refine z_bipush (z := 10) C dX10_go_32 (by decide) ?_
          refine z_icmp_ne (tgt := 50) C dX10_go_34 (by decide) (by omega) (by omega) (fun hby213 => ?_) (fun hby213 => ?_)
          · refine z_aload_n C 0 dX10_go_50 rfl ?_
            refine z_aload_n C 0 dX10_go_51 rfl ?_
            refine z_get (v := .int (zI (nx))) C (lt_A0 hN rfl) hay3 f2 rfl inA_X10 32 (by decide) q_1491 rfl (fv (F := F9) (f := 32) fx0) dX10_go_52 ?_
            refine z_put (fs' := mF ad (i) (uZ F9 33 (nx))) C (lt_A0 hN rfl) hay3 f2 tyX10 tyX10_ok nmX10 rfl inA_X10 33 (by decide) q_1492 rfl rfl rfl rfl (Nat.le_of_ble_eq_true rfl) rfl dX10_go_55 (fun gy214 egy215 => ?_)
            have hgy216 := up_s egy215
            refine z_aload_n C 0 dX10_go_58 rfl ?_
            refine z_aload_n C 0 dX10_go_59 rfl ?_
            refine z_get (v := .int (zI (nx))) C (lt_A0 hN rfl) hay3 hgy216 rfl inA_X10 32 (by decide) q_1491 rfl (fv (F := (uZ F9 33 (nx))) (f := 32) (fn fx0 (by decide))) dX10_go_60 ?_
            have hgy218 := up_n egy215 ((f3 _ (by omega)).trans ha13) (ne_o (i := i) (c := 13) (d := 0) rfl)
            have h34y219 : (uZ F9 33 (nx)) 34 = (n : Int) := (fn ((f4 34 (by decide)).trans h34) (by decide))
            refine z_cV (As := [.int (zI (nx))]) (rest := []) (ci := 12) C (c_X10_byteAt l D A cs tt N ad _ i hN _ hgy216 _ hgy218 htp (by omega) (nx) (by omega)) (lt_A0 hN rfl) hay3 hgy216 rfl rfl mv_yX10_byteAt q_1660 hd_yX10_byteAt (by decide) (Nat.le_of_ble_eq_true rfl) (by decide) dX10_go_63 rfl (kI0 fun vy217 gvy217 hvy217 => ?_)
            rw [h34y219] at hvy217
            clear h34y219
            obtain ⟨hrvy217, hpvy217, rfl⟩ := hvy217
            rw [show (nx).toNat = na by omega] at hpvy217
            have hqvy217 : (nx < (n : Int) ∧ vy217 = T na) ∨ ((n : Int) ≤ nx ∧ vy217 = 0) := by
              rcases hpvy217 with ⟨a9, b9⟩ | ⟨a9, b9⟩
              · exact Or.inl ⟨a9, b9.trans (hTt _ (by omega))⟩
              · exact Or.inr ⟨a9, b9⟩
            clear hpvy217
            refine z_istore_n (lv' := [(1, .int (zI (vy217))), (0, .ref (ad i))]) C dX10_go_66 rfl (by decide) rfl ?_
            refine z_aload_n C 1 dX10_go_67 rfl ?_
            refine z_iconst (z := -1) C dX10_go_68 rfl ?_
            refine z_put (fs' := mF ad (i) (uZ (uZ F9 33 (nx)) 37 (-1))) C (lt_A0 hN rfl) hay3 hgy216 tyX10 tyX10_ok nmX10 rfl inA_X10 37 (by decide) q_1496 rfl rfl rfl rfl (Nat.le_of_ble_eq_true rfl) rfl dX10_go_69 (fun gy220 egy221 => ?_)
            have hgy222 := up_s egy221
            refine z_aload_n C 1 dX10_go_72 rfl ?_
            refine z_iconst (z := 0) C dX10_go_73 rfl ?_
            refine z_put (fs' := mF ad (i) (uZ (uZ (uZ F9 33 (nx)) 37 (-1)) 36 (0))) C (lt_A0 hN rfl) hay3 hgy222 tyX10 tyX10_ok nmX10 rfl inA_X10 36 (by decide) q_1495 rfl rfl rfl rfl (Nat.le_of_ble_eq_true rfl) rfl dX10_go_74 (fun gy223 egy224 => ?_)
            have hgy225 := up_s egy224
            refine z_aload_n C 1 dX10_go_77 rfl ?_
            refine z_get (v := .int (zI (nx))) C (lt_A0 hN rfl) hay3 hgy225 rfl inA_X10 32 (by decide) q_1491 rfl (fv (F := (uZ (uZ (uZ F9 33 (nx)) 37 (-1)) 36 (0))) (f := 32) (fn (fn (fn fx0 (by decide)) (by decide)) (by decide))) dX10_go_78 ?_
            refine z_aload_n C 1 dX10_go_81 rfl ?_
            refine z_get (v := .int (zI ((n : Int)))) C (lt_A0 hN rfl) hay3 hgy225 rfl inA_X10 34 (by decide) q_1493 rfl (fv (F := (uZ (uZ (uZ F9 33 (nx)) 37 (-1)) 36 (0))) (f := 34) (fn (fn (fn ((f4 34 (by decide)).trans h34) (by decide)) (by decide)) (by decide))) dX10_go_82 ?_
            refine z_icmp_lt (tgt := 96) C dX10_go_85 (by decide) (by omega) (by omega) (fun hby226 => ?_) (fun hby226 => ?_)
            · refine z_iload_n C 0 dX10_go_96 rfl ?_
              refine z_cS (As := [.int (zI (vy217))]) (rest := []) C (c_X10_isLetter l D A cs tt N ad _ (vy217) (by omega)) ms_yX10_isLetter q_1664 hd_yX10_isLetter (by decide) (Nat.le_of_ble_eq_true rfl) (by decide) dX10_go_97 rfl (kI0 fun vy227 gvy227 hvy227 => ?_)
              obtain ⟨hvy227, rfl⟩ := hvy227
              refine z_if_eq (tgt := 154) C dX10_go_100 (by decide) (by omega) (fun hby228 => ?_) (fun hby228 => ?_)
              · refine z_iload_n C 0 dX10_go_154 rfl ?_
                refine z_bipush (z := 48) C dX10_go_155 (by decide) ?_
                refine z_icmp_lt (tgt := 255) C dX10_go_157 (by decide) (by omega) (by omega) (fun hby229 => ?_) (fun hby229 => ?_)
                · refine z_aload_n C 1 dX10_go_255 rfl ?_
                  refine z_dup C dX10_go_256 rfl ?_
                  refine z_get (v := .int (zI (nx))) C (lt_A0 hN rfl) hay3 hgy225 rfl inA_X10 32 (by decide) q_1491 rfl (fv (F := (uZ (uZ (uZ F9 33 (nx)) 37 (-1)) 36 (0))) (f := 32) (fn (fn (fn fx0 (by decide)) (by decide)) (by decide))) dX10_go_257 ?_
                  refine z_iconst (z := 1) C dX10_go_260 rfl ?_
                  refine z_iadd C dX10_go_261 ?_
                  refine z_put (fs' := mF ad (i) (uZ (uZ (uZ (uZ F9 33 (nx)) 37 (-1)) 36 (0)) 32 (nx + 1))) C (lt_A0 hN rfl) hay3 hgy225 tyX10 tyX10_ok nmX10 rfl inA_X10 32 (by decide) q_1491 rfl rfl rfl rfl (Nat.le_of_ble_eq_true rfl) rfl dX10_go_262 (fun gy230 egy231 => ?_)
                  have hgy232 := up_s egy231
                  refine z_aload_n C 1 dX10_go_265 rfl ?_
                  refine z_iload_n C 0 dX10_go_266 rfl ?_
                  refine z_bipush (z := 59) C dX10_go_267 (by decide) ?_
                  refine z_icmp_eq (tgt := 278) C dX10_go_269 (by decide) (by omega) (by omega) (fun hby233 => ?_) (fun hby233 => ?_)
                  · refine z_iconst (z := 3) C dX10_go_278 rfl ?_
                    refine z_goto (tgt := 283) C dX10_go_279 (by decide) ?_
                    refine z_put (fs' := mF ad (i) (uZ (uZ (uZ (uZ (uZ F9 33 (nx)) 37 (-1)) 36 (0)) 32 (nx + 1)) 35 (3))) C (lt_A0 hN rfl) hay3 hgy232 tyX10 tyX10_ok nmX10 rfl inA_X10 35 (by decide) q_1494 rfl rfl rfl rfl (Nat.le_of_ble_eq_true rfl) rfl dX10_go_283 (fun gy234 egy235 => ?_)
                    have hgy236 := up_s egy235
                    refine z_aload_n C 1 dX10_go_286 rfl ?_
                    refine z_iload_n C 0 dX10_go_287 rfl ?_
                    refine z_put (fs' := mF ad (i) (uZ (uZ (uZ (uZ (uZ (uZ F9 33 (nx)) 37 (-1)) 36 (0)) 32 (nx + 1)) 35 (3)) 36 (vy217))) C (lt_A0 hN rfl) hay3 hgy236 tyX10 tyX10_ok nmX10 rfl inA_X10 36 (by decide) q_1495 rfl rfl rfl rfl (Nat.le_of_ble_eq_true rfl) rfl dX10_go_288 (fun gy237 egy238 => ?_)
                    have hgy239 := up_s egy238
                    have hFy240 : ∀ f, f ≠ 32 → f ≠ 33 → f ≠ 35 → f ≠ 36 → f ≠ 37 → (uZ (uZ (uZ (uZ (uZ (uZ F9 33 (nx)) 37 (-1)) 36 (0)) 32 (nx + 1)) 35 (3)) 36 (vy217)) f = F f := fun f n32 n33 n35 n36 n37 => ((uZ_n _ _ n36).trans ((uZ_n _ _ n35).trans ((uZ_n _ _ n32).trans ((uZ_n _ _ n36).trans ((uZ_n _ _ n37).trans ((uZ_n _ _ n33).trans (f4 f n32)))))))
                    have hey241 : (uZ (uZ (uZ (uZ (uZ (uZ F9 33 (nx)) 37 (-1)) 36 (0)) 32 (nx + 1)) 35 (3)) 36 (vy217)) 32 = nx + 1 := (fn (fn (uZ_s _ _ _) (by decide)) (by decide))
                    have hey242 : (uZ (uZ (uZ (uZ (uZ (uZ F9 33 (nx)) 37 (-1)) 36 (0)) 32 (nx + 1)) 35 (3)) 36 (vy217)) 33 = nx := (fn (fn (fn (fn (fn (uZ_s _ _ _) (by decide)) (by decide)) (by decide)) (by decide)) (by decide))
                    have hey243 : (uZ (uZ (uZ (uZ (uZ (uZ F9 33 (nx)) 37 (-1)) 36 (0)) 32 (nx + 1)) 35 (3)) 36 (vy217)) 34 = (n : Int) := (fn (fn (fn (fn (fn (fn ((f4 34 (by decide)).trans h34) (by decide)) (by decide)) (by decide)) (by decide)) (by decide)) (by decide))
                    have hey244 : (uZ (uZ (uZ (uZ (uZ (uZ F9 33 (nx)) 37 (-1)) 36 (0)) 32 (nx + 1)) 35 (3)) 36 (vy217)) 35 = 3 := (fn (uZ_s _ _ _) (by decide))
                    have hey245 : (uZ (uZ (uZ (uZ (uZ (uZ F9 33 (nx)) 37 (-1)) 36 (0)) 32 (nx + 1)) 35 (3)) 36 (vy217)) 36 = vy217 := (uZ_s _ _ _)
                    have hey246 : (uZ (uZ (uZ (uZ (uZ (uZ F9 33 (nx)) 37 (-1)) 36 (0)) 32 (nx + 1)) 35 (3)) 36 (vy217)) 37 = -1 := (fn (fn (fn (fn (uZ_s _ _ _) (by decide)) (by decide)) (by decide)) (by decide))
                    have hey247 : (uZ (uZ (uZ (uZ (uZ (uZ F9 33 (nx)) 37 (-1)) 36 (0)) 32 (nx + 1)) 35 (3)) 36 (vy217)) 38 = F 38 := (fn (fn (fn (fn (fn (fn (f4 38 (by decide)) (by decide)) (by decide)) (by decide)) (by decide)) (by decide)) (by decide))
                    have hat : tk_at T n q = na := hi.symm.trans (tk_rn_end (by first | exact Or.inl (by omega) | exact Or.inr (decide_eq_false (by omega))))
                    have hty := tk_ty_c (T na)
                    have hsoy : tk_so T n na = tk_ty (T na) := by unfold tk_so; rw [if_neg (by omega)]
                    have hsc := srt_c (tk_so T n na)
                    have hto : tk_to T n na = na + 1 := by unfold tk_to; rw [if_neg (by omega), if_neg (by omega)]
                    have hvl : vlu T n na = T na := by unfold vlu; rw [if_neg (by omega), if_pos (by omega)]
                    have hwd : tk_w T n na = -1 := tk_w_let (by omega)
                    have htk : tkR T n (uZ (uZ (uZ (uZ (uZ (uZ F9 33 (nx)) 37 (-1)) 36 (0)) 32 (nx + 1)) 35 (3)) 36 (vy217)) na := ⟨by omega, by omega, by omega, by omega, by omega, by omega, by omega, by omega⟩
                    exact z_vret C hr hlk dX10_go_291 (by decide) (by decide) ⟨rfl, rfl, rfl, ⟨_, hgy239, by rw [hat]; exact htk, hFy240⟩, fun j j1 => by rw [egy238, va_up_ne _ _ (by omega)]; rw [egy235, va_up_ne _ _ (by omega)]; rw [egy231, va_up_ne _ _ (by omega)]; rw [egy224, va_up_ne _ _ (by omega)]; rw [egy221, va_up_ne _ _ (by omega)]; rw [egy215, va_up_ne _ _ (by omega)]; exact f3 j j1⟩
                  · refine z_iload_n C 0 dX10_go_272 rfl ?_
                    refine z_bipush (z := 45) C dX10_go_273 (by decide) ?_
                    refine z_icmp_ne (tgt := 282) C dX10_go_275 (by decide) (by omega) (by omega) (fun hby248 => ?_) (fun hby248 => ?_)
                    · refine z_iconst (z := 4) C dX10_go_282 rfl ?_
                      refine z_put (fs' := mF ad (i) (uZ (uZ (uZ (uZ (uZ F9 33 (nx)) 37 (-1)) 36 (0)) 32 (nx + 1)) 35 (4))) C (lt_A0 hN rfl) hay3 hgy232 tyX10 tyX10_ok nmX10 rfl inA_X10 35 (by decide) q_1494 rfl rfl rfl rfl (Nat.le_of_ble_eq_true rfl) rfl dX10_go_283 (fun gy249 egy250 => ?_)
                      have hgy251 := up_s egy250
                      refine z_aload_n C 1 dX10_go_286 rfl ?_
                      refine z_iload_n C 0 dX10_go_287 rfl ?_
                      refine z_put (fs' := mF ad (i) (uZ (uZ (uZ (uZ (uZ (uZ F9 33 (nx)) 37 (-1)) 36 (0)) 32 (nx + 1)) 35 (4)) 36 (vy217))) C (lt_A0 hN rfl) hay3 hgy251 tyX10 tyX10_ok nmX10 rfl inA_X10 36 (by decide) q_1495 rfl rfl rfl rfl (Nat.le_of_ble_eq_true rfl) rfl dX10_go_288 (fun gy252 egy253 => ?_)
                      have hgy254 := up_s egy253
                      have hFy255 : ∀ f, f ≠ 32 → f ≠ 33 → f ≠ 35 → f ≠ 36 → f ≠ 37 → (uZ (uZ (uZ (uZ (uZ (uZ F9 33 (nx)) 37 (-1)) 36 (0)) 32 (nx + 1)) 35 (4)) 36 (vy217)) f = F f := fun f n32 n33 n35 n36 n37 => ((uZ_n _ _ n36).trans ((uZ_n _ _ n35).trans ((uZ_n _ _ n32).trans ((uZ_n _ _ n36).trans ((uZ_n _ _ n37).trans ((uZ_n _ _ n33).trans (f4 f n32)))))))
                      have hey256 : (uZ (uZ (uZ (uZ (uZ (uZ F9 33 (nx)) 37 (-1)) 36 (0)) 32 (nx + 1)) 35 (4)) 36 (vy217)) 32 = nx + 1 := (fn (fn (uZ_s _ _ _) (by decide)) (by decide))
                      have hey257 : (uZ (uZ (uZ (uZ (uZ (uZ F9 33 (nx)) 37 (-1)) 36 (0)) 32 (nx + 1)) 35 (4)) 36 (vy217)) 33 = nx := (fn (fn (fn (fn (fn (uZ_s _ _ _) (by decide)) (by decide)) (by decide)) (by decide)) (by decide))
                      have hey258 : (uZ (uZ (uZ (uZ (uZ (uZ F9 33 (nx)) 37 (-1)) 36 (0)) 32 (nx + 1)) 35 (4)) 36 (vy217)) 34 = (n : Int) := (fn (fn (fn (fn (fn (fn ((f4 34 (by decide)).trans h34) (by decide)) (by decide)) (by decide)) (by decide)) (by decide)) (by decide))
                      have hey259 : (uZ (uZ (uZ (uZ (uZ (uZ F9 33 (nx)) 37 (-1)) 36 (0)) 32 (nx + 1)) 35 (4)) 36 (vy217)) 35 = 4 := (fn (uZ_s _ _ _) (by decide))
                      have hey260 : (uZ (uZ (uZ (uZ (uZ (uZ F9 33 (nx)) 37 (-1)) 36 (0)) 32 (nx + 1)) 35 (4)) 36 (vy217)) 36 = vy217 := (uZ_s _ _ _)
                      have hey261 : (uZ (uZ (uZ (uZ (uZ (uZ F9 33 (nx)) 37 (-1)) 36 (0)) 32 (nx + 1)) 35 (4)) 36 (vy217)) 37 = -1 := (fn (fn (fn (fn (uZ_s _ _ _) (by decide)) (by decide)) (by decide)) (by decide))
                      have hey262 : (uZ (uZ (uZ (uZ (uZ (uZ F9 33 (nx)) 37 (-1)) 36 (0)) 32 (nx + 1)) 35 (4)) 36 (vy217)) 38 = F 38 := (fn (fn (fn (fn (fn (fn (f4 38 (by decide)) (by decide)) (by decide)) (by decide)) (by decide)) (by decide)) (by decide))
                      have hat : tk_at T n q = na := hi.symm.trans (tk_rn_end (by first | exact Or.inl (by omega) | exact Or.inr (decide_eq_false (by omega))))
                      have hty := tk_ty_c (T na)
                      have hsoy : tk_so T n na = tk_ty (T na) := by unfold tk_so; rw [if_neg (by omega)]
                      have hsc := srt_c (tk_so T n na)
                      have hto : tk_to T n na = na + 1 := by unfold tk_to; rw [if_neg (by omega), if_neg (by omega)]
                      have hvl : vlu T n na = T na := by unfold vlu; rw [if_neg (by omega), if_pos (by omega)]
                      have hwd : tk_w T n na = -1 := tk_w_let (by omega)
                      have htk : tkR T n (uZ (uZ (uZ (uZ (uZ (uZ F9 33 (nx)) 37 (-1)) 36 (0)) 32 (nx + 1)) 35 (4)) 36 (vy217)) na := ⟨by omega, by omega, by omega, by omega, by omega, by omega, by omega, by omega⟩
                      exact z_vret C hr hlk dX10_go_291 (by decide) (by decide) ⟨rfl, rfl, rfl, ⟨_, hgy254, by rw [hat]; exact htk, hFy255⟩, fun j j1 => by rw [egy253, va_up_ne _ _ (by omega)]; rw [egy250, va_up_ne _ _ (by omega)]; rw [egy231, va_up_ne _ _ (by omega)]; rw [egy224, va_up_ne _ _ (by omega)]; rw [egy221, va_up_ne _ _ (by omega)]; rw [egy215, va_up_ne _ _ (by omega)]; exact f3 j j1⟩
                    · refine z_iconst (z := 3) C dX10_go_278 rfl ?_
                      refine z_goto (tgt := 283) C dX10_go_279 (by decide) ?_
                      refine z_put (fs' := mF ad (i) (uZ (uZ (uZ (uZ (uZ F9 33 (nx)) 37 (-1)) 36 (0)) 32 (nx + 1)) 35 (3))) C (lt_A0 hN rfl) hay3 hgy232 tyX10 tyX10_ok nmX10 rfl inA_X10 35 (by decide) q_1494 rfl rfl rfl rfl (Nat.le_of_ble_eq_true rfl) rfl dX10_go_283 (fun gy263 egy264 => ?_)
                      have hgy265 := up_s egy264
                      refine z_aload_n C 1 dX10_go_286 rfl ?_
                      refine z_iload_n C 0 dX10_go_287 rfl ?_
                      refine z_put (fs' := mF ad (i) (uZ (uZ (uZ (uZ (uZ (uZ F9 33 (nx)) 37 (-1)) 36 (0)) 32 (nx + 1)) 35 (3)) 36 (vy217))) C (lt_A0 hN rfl) hay3 hgy265 tyX10 tyX10_ok nmX10 rfl inA_X10 36 (by decide) q_1495 rfl rfl rfl rfl (Nat.le_of_ble_eq_true rfl) rfl dX10_go_288 (fun gy266 egy267 => ?_)
                      have hgy268 := up_s egy267
                      have hFy269 : ∀ f, f ≠ 32 → f ≠ 33 → f ≠ 35 → f ≠ 36 → f ≠ 37 → (uZ (uZ (uZ (uZ (uZ (uZ F9 33 (nx)) 37 (-1)) 36 (0)) 32 (nx + 1)) 35 (3)) 36 (vy217)) f = F f := fun f n32 n33 n35 n36 n37 => ((uZ_n _ _ n36).trans ((uZ_n _ _ n35).trans ((uZ_n _ _ n32).trans ((uZ_n _ _ n36).trans ((uZ_n _ _ n37).trans ((uZ_n _ _ n33).trans (f4 f n32)))))))
                      have hey270 : (uZ (uZ (uZ (uZ (uZ (uZ F9 33 (nx)) 37 (-1)) 36 (0)) 32 (nx + 1)) 35 (3)) 36 (vy217)) 32 = nx + 1 := (fn (fn (uZ_s _ _ _) (by decide)) (by decide))
                      have hey271 : (uZ (uZ (uZ (uZ (uZ (uZ F9 33 (nx)) 37 (-1)) 36 (0)) 32 (nx + 1)) 35 (3)) 36 (vy217)) 33 = nx := (fn (fn (fn (fn (fn (uZ_s _ _ _) (by decide)) (by decide)) (by decide)) (by decide)) (by decide))
                      have hey272 : (uZ (uZ (uZ (uZ (uZ (uZ F9 33 (nx)) 37 (-1)) 36 (0)) 32 (nx + 1)) 35 (3)) 36 (vy217)) 34 = (n : Int) := (fn (fn (fn (fn (fn (fn ((f4 34 (by decide)).trans h34) (by decide)) (by decide)) (by decide)) (by decide)) (by decide)) (by decide))
                      have hey273 : (uZ (uZ (uZ (uZ (uZ (uZ F9 33 (nx)) 37 (-1)) 36 (0)) 32 (nx + 1)) 35 (3)) 36 (vy217)) 35 = 3 := (fn (uZ_s _ _ _) (by decide))
                      have hey274 : (uZ (uZ (uZ (uZ (uZ (uZ F9 33 (nx)) 37 (-1)) 36 (0)) 32 (nx + 1)) 35 (3)) 36 (vy217)) 36 = vy217 := (uZ_s _ _ _)
                      have hey275 : (uZ (uZ (uZ (uZ (uZ (uZ F9 33 (nx)) 37 (-1)) 36 (0)) 32 (nx + 1)) 35 (3)) 36 (vy217)) 37 = -1 := (fn (fn (fn (fn (uZ_s _ _ _) (by decide)) (by decide)) (by decide)) (by decide))
                      have hey276 : (uZ (uZ (uZ (uZ (uZ (uZ F9 33 (nx)) 37 (-1)) 36 (0)) 32 (nx + 1)) 35 (3)) 36 (vy217)) 38 = F 38 := (fn (fn (fn (fn (fn (fn (f4 38 (by decide)) (by decide)) (by decide)) (by decide)) (by decide)) (by decide)) (by decide))
                      have hat : tk_at T n q = na := hi.symm.trans (tk_rn_end (by first | exact Or.inl (by omega) | exact Or.inr (decide_eq_false (by omega))))
                      have hty := tk_ty_c (T na)
                      have hsoy : tk_so T n na = tk_ty (T na) := by unfold tk_so; rw [if_neg (by omega)]
                      have hsc := srt_c (tk_so T n na)
                      have hto : tk_to T n na = na + 1 := by unfold tk_to; rw [if_neg (by omega), if_neg (by omega)]
                      have hvl : vlu T n na = T na := by unfold vlu; rw [if_neg (by omega), if_pos (by omega)]
                      have hwd : tk_w T n na = -1 := tk_w_let (by omega)
                      have htk : tkR T n (uZ (uZ (uZ (uZ (uZ (uZ F9 33 (nx)) 37 (-1)) 36 (0)) 32 (nx + 1)) 35 (3)) 36 (vy217)) na := ⟨by omega, by omega, by omega, by omega, by omega, by omega, by omega, by omega⟩
                      exact z_vret C hr hlk dX10_go_291 (by decide) (by decide) ⟨rfl, rfl, rfl, ⟨_, hgy268, by rw [hat]; exact htk, hFy269⟩, fun j j1 => by rw [egy267, va_up_ne _ _ (by omega)]; rw [egy264, va_up_ne _ _ (by omega)]; rw [egy231, va_up_ne _ _ (by omega)]; rw [egy224, va_up_ne _ _ (by omega)]; rw [egy221, va_up_ne _ _ (by omega)]; rw [egy215, va_up_ne _ _ (by omega)]; exact f3 j j1⟩
                · refine z_iload_n C 0 dX10_go_160 rfl ?_
                  refine z_bipush (z := 57) C dX10_go_161 (by decide) ?_
                  refine z_icmp_gt (tgt := 255) C dX10_go_163 (by decide) (by omega) (by omega) (fun hby277 => ?_) (fun hby277 => ?_)
                  · refine z_aload_n C 1 dX10_go_255 rfl ?_
                    refine z_dup C dX10_go_256 rfl ?_
                    refine z_get (v := .int (zI (nx))) C (lt_A0 hN rfl) hay3 hgy225 rfl inA_X10 32 (by decide) q_1491 rfl (fv (F := (uZ (uZ (uZ F9 33 (nx)) 37 (-1)) 36 (0))) (f := 32) (fn (fn (fn fx0 (by decide)) (by decide)) (by decide))) dX10_go_257 ?_
                    refine z_iconst (z := 1) C dX10_go_260 rfl ?_
                    refine z_iadd C dX10_go_261 ?_
                    refine z_put (fs' := mF ad (i) (uZ (uZ (uZ (uZ F9 33 (nx)) 37 (-1)) 36 (0)) 32 (nx + 1))) C (lt_A0 hN rfl) hay3 hgy225 tyX10 tyX10_ok nmX10 rfl inA_X10 32 (by decide) q_1491 rfl rfl rfl rfl (Nat.le_of_ble_eq_true rfl) rfl dX10_go_262 (fun gy278 egy279 => ?_)
                    have hgy280 := up_s egy279
                    refine z_aload_n C 1 dX10_go_265 rfl ?_
                    refine z_iload_n C 0 dX10_go_266 rfl ?_
                    refine z_bipush (z := 59) C dX10_go_267 (by decide) ?_
                    refine z_icmp_eq (tgt := 278) C dX10_go_269 (by decide) (by omega) (by omega) (fun hby281 => ?_) (fun hby281 => ?_)
                    · refine z_iconst (z := 3) C dX10_go_278 rfl ?_
                      refine z_goto (tgt := 283) C dX10_go_279 (by decide) ?_
                      refine z_put (fs' := mF ad (i) (uZ (uZ (uZ (uZ (uZ F9 33 (nx)) 37 (-1)) 36 (0)) 32 (nx + 1)) 35 (3))) C (lt_A0 hN rfl) hay3 hgy280 tyX10 tyX10_ok nmX10 rfl inA_X10 35 (by decide) q_1494 rfl rfl rfl rfl (Nat.le_of_ble_eq_true rfl) rfl dX10_go_283 (fun gy282 egy283 => ?_)
                      have hgy284 := up_s egy283
                      refine z_aload_n C 1 dX10_go_286 rfl ?_
                      refine z_iload_n C 0 dX10_go_287 rfl ?_
                      refine z_put (fs' := mF ad (i) (uZ (uZ (uZ (uZ (uZ (uZ F9 33 (nx)) 37 (-1)) 36 (0)) 32 (nx + 1)) 35 (3)) 36 (vy217))) C (lt_A0 hN rfl) hay3 hgy284 tyX10 tyX10_ok nmX10 rfl inA_X10 36 (by decide) q_1495 rfl rfl rfl rfl (Nat.le_of_ble_eq_true rfl) rfl dX10_go_288 (fun gy285 egy286 => ?_)
                      have hgy287 := up_s egy286
                      have hFy288 : ∀ f, f ≠ 32 → f ≠ 33 → f ≠ 35 → f ≠ 36 → f ≠ 37 → (uZ (uZ (uZ (uZ (uZ (uZ F9 33 (nx)) 37 (-1)) 36 (0)) 32 (nx + 1)) 35 (3)) 36 (vy217)) f = F f := fun f n32 n33 n35 n36 n37 => ((uZ_n _ _ n36).trans ((uZ_n _ _ n35).trans ((uZ_n _ _ n32).trans ((uZ_n _ _ n36).trans ((uZ_n _ _ n37).trans ((uZ_n _ _ n33).trans (f4 f n32)))))))
                      have hey289 : (uZ (uZ (uZ (uZ (uZ (uZ F9 33 (nx)) 37 (-1)) 36 (0)) 32 (nx + 1)) 35 (3)) 36 (vy217)) 32 = nx + 1 := (fn (fn (uZ_s _ _ _) (by decide)) (by decide))
                      have hey290 : (uZ (uZ (uZ (uZ (uZ (uZ F9 33 (nx)) 37 (-1)) 36 (0)) 32 (nx + 1)) 35 (3)) 36 (vy217)) 33 = nx := (fn (fn (fn (fn (fn (uZ_s _ _ _) (by decide)) (by decide)) (by decide)) (by decide)) (by decide))
                      have hey291 : (uZ (uZ (uZ (uZ (uZ (uZ F9 33 (nx)) 37 (-1)) 36 (0)) 32 (nx + 1)) 35 (3)) 36 (vy217)) 34 = (n : Int) := (fn (fn (fn (fn (fn (fn ((f4 34 (by decide)).trans h34) (by decide)) (by decide)) (by decide)) (by decide)) (by decide)) (by decide))
                      have hey292 : (uZ (uZ (uZ (uZ (uZ (uZ F9 33 (nx)) 37 (-1)) 36 (0)) 32 (nx + 1)) 35 (3)) 36 (vy217)) 35 = 3 := (fn (uZ_s _ _ _) (by decide))
                      have hey293 : (uZ (uZ (uZ (uZ (uZ (uZ F9 33 (nx)) 37 (-1)) 36 (0)) 32 (nx + 1)) 35 (3)) 36 (vy217)) 36 = vy217 := (uZ_s _ _ _)
                      have hey294 : (uZ (uZ (uZ (uZ (uZ (uZ F9 33 (nx)) 37 (-1)) 36 (0)) 32 (nx + 1)) 35 (3)) 36 (vy217)) 37 = -1 := (fn (fn (fn (fn (uZ_s _ _ _) (by decide)) (by decide)) (by decide)) (by decide))
                      have hey295 : (uZ (uZ (uZ (uZ (uZ (uZ F9 33 (nx)) 37 (-1)) 36 (0)) 32 (nx + 1)) 35 (3)) 36 (vy217)) 38 = F 38 := (fn (fn (fn (fn (fn (fn (f4 38 (by decide)) (by decide)) (by decide)) (by decide)) (by decide)) (by decide)) (by decide))
                      have hat : tk_at T n q = na := hi.symm.trans (tk_rn_end (by first | exact Or.inl (by omega) | exact Or.inr (decide_eq_false (by omega))))
                      have hty := tk_ty_c (T na)
                      have hsoy : tk_so T n na = tk_ty (T na) := by unfold tk_so; rw [if_neg (by omega)]
                      have hsc := srt_c (tk_so T n na)
                      have hto : tk_to T n na = na + 1 := by unfold tk_to; rw [if_neg (by omega), if_neg (by omega)]
                      have hvl : vlu T n na = T na := by unfold vlu; rw [if_neg (by omega), if_pos (by omega)]
                      have hwd : tk_w T n na = -1 := tk_w_let (by omega)
                      have htk : tkR T n (uZ (uZ (uZ (uZ (uZ (uZ F9 33 (nx)) 37 (-1)) 36 (0)) 32 (nx + 1)) 35 (3)) 36 (vy217)) na := ⟨by omega, by omega, by omega, by omega, by omega, by omega, by omega, by omega⟩
                      exact z_vret C hr hlk dX10_go_291 (by decide) (by decide) ⟨rfl, rfl, rfl, ⟨_, hgy287, by rw [hat]; exact htk, hFy288⟩, fun j j1 => by rw [egy286, va_up_ne _ _ (by omega)]; rw [egy283, va_up_ne _ _ (by omega)]; rw [egy279, va_up_ne _ _ (by omega)]; rw [egy224, va_up_ne _ _ (by omega)]; rw [egy221, va_up_ne _ _ (by omega)]; rw [egy215, va_up_ne _ _ (by omega)]; exact f3 j j1⟩
                    · refine z_iload_n C 0 dX10_go_272 rfl ?_
                      refine z_bipush (z := 45) C dX10_go_273 (by decide) ?_
                      refine z_icmp_ne (tgt := 282) C dX10_go_275 (by decide) (by omega) (by omega) (fun hby296 => ?_) (fun hby296 => ?_)
                      · refine z_iconst (z := 4) C dX10_go_282 rfl ?_
                        refine z_put (fs' := mF ad (i) (uZ (uZ (uZ (uZ (uZ F9 33 (nx)) 37 (-1)) 36 (0)) 32 (nx + 1)) 35 (4))) C (lt_A0 hN rfl) hay3 hgy280 tyX10 tyX10_ok nmX10 rfl inA_X10 35 (by decide) q_1494 rfl rfl rfl rfl (Nat.le_of_ble_eq_true rfl) rfl dX10_go_283 (fun gy297 egy298 => ?_)
                        have hgy299 := up_s egy298
                        refine z_aload_n C 1 dX10_go_286 rfl ?_
                        refine z_iload_n C 0 dX10_go_287 rfl ?_
                        refine z_put (fs' := mF ad (i) (uZ (uZ (uZ (uZ (uZ (uZ F9 33 (nx)) 37 (-1)) 36 (0)) 32 (nx + 1)) 35 (4)) 36 (vy217))) C (lt_A0 hN rfl) hay3 hgy299 tyX10 tyX10_ok nmX10 rfl inA_X10 36 (by decide) q_1495 rfl rfl rfl rfl (Nat.le_of_ble_eq_true rfl) rfl dX10_go_288 (fun gy300 egy301 => ?_)
                        have hgy302 := up_s egy301
                        have hFy303 : ∀ f, f ≠ 32 → f ≠ 33 → f ≠ 35 → f ≠ 36 → f ≠ 37 → (uZ (uZ (uZ (uZ (uZ (uZ F9 33 (nx)) 37 (-1)) 36 (0)) 32 (nx + 1)) 35 (4)) 36 (vy217)) f = F f := fun f n32 n33 n35 n36 n37 => ((uZ_n _ _ n36).trans ((uZ_n _ _ n35).trans ((uZ_n _ _ n32).trans ((uZ_n _ _ n36).trans ((uZ_n _ _ n37).trans ((uZ_n _ _ n33).trans (f4 f n32)))))))
                        have hey304 : (uZ (uZ (uZ (uZ (uZ (uZ F9 33 (nx)) 37 (-1)) 36 (0)) 32 (nx + 1)) 35 (4)) 36 (vy217)) 32 = nx + 1 := (fn (fn (uZ_s _ _ _) (by decide)) (by decide))
                        have hey305 : (uZ (uZ (uZ (uZ (uZ (uZ F9 33 (nx)) 37 (-1)) 36 (0)) 32 (nx + 1)) 35 (4)) 36 (vy217)) 33 = nx := (fn (fn (fn (fn (fn (uZ_s _ _ _) (by decide)) (by decide)) (by decide)) (by decide)) (by decide))
                        have hey306 : (uZ (uZ (uZ (uZ (uZ (uZ F9 33 (nx)) 37 (-1)) 36 (0)) 32 (nx + 1)) 35 (4)) 36 (vy217)) 34 = (n : Int) := (fn (fn (fn (fn (fn (fn ((f4 34 (by decide)).trans h34) (by decide)) (by decide)) (by decide)) (by decide)) (by decide)) (by decide))
                        have hey307 : (uZ (uZ (uZ (uZ (uZ (uZ F9 33 (nx)) 37 (-1)) 36 (0)) 32 (nx + 1)) 35 (4)) 36 (vy217)) 35 = 4 := (fn (uZ_s _ _ _) (by decide))
                        have hey308 : (uZ (uZ (uZ (uZ (uZ (uZ F9 33 (nx)) 37 (-1)) 36 (0)) 32 (nx + 1)) 35 (4)) 36 (vy217)) 36 = vy217 := (uZ_s _ _ _)
                        have hey309 : (uZ (uZ (uZ (uZ (uZ (uZ F9 33 (nx)) 37 (-1)) 36 (0)) 32 (nx + 1)) 35 (4)) 36 (vy217)) 37 = -1 := (fn (fn (fn (fn (uZ_s _ _ _) (by decide)) (by decide)) (by decide)) (by decide))
                        have hey310 : (uZ (uZ (uZ (uZ (uZ (uZ F9 33 (nx)) 37 (-1)) 36 (0)) 32 (nx + 1)) 35 (4)) 36 (vy217)) 38 = F 38 := (fn (fn (fn (fn (fn (fn (f4 38 (by decide)) (by decide)) (by decide)) (by decide)) (by decide)) (by decide)) (by decide))
                        have hat : tk_at T n q = na := hi.symm.trans (tk_rn_end (by first | exact Or.inl (by omega) | exact Or.inr (decide_eq_false (by omega))))
                        have hty := tk_ty_c (T na)
                        have hsoy : tk_so T n na = tk_ty (T na) := by unfold tk_so; rw [if_neg (by omega)]
                        have hsc := srt_c (tk_so T n na)
                        have hto : tk_to T n na = na + 1 := by unfold tk_to; rw [if_neg (by omega), if_neg (by omega)]
                        have hvl : vlu T n na = T na := by unfold vlu; rw [if_neg (by omega), if_pos (by omega)]
                        have hwd : tk_w T n na = -1 := tk_w_let (by omega)
                        have htk : tkR T n (uZ (uZ (uZ (uZ (uZ (uZ F9 33 (nx)) 37 (-1)) 36 (0)) 32 (nx + 1)) 35 (4)) 36 (vy217)) na := ⟨by omega, by omega, by omega, by omega, by omega, by omega, by omega, by omega⟩
                        exact z_vret C hr hlk dX10_go_291 (by decide) (by decide) ⟨rfl, rfl, rfl, ⟨_, hgy302, by rw [hat]; exact htk, hFy303⟩, fun j j1 => by rw [egy301, va_up_ne _ _ (by omega)]; rw [egy298, va_up_ne _ _ (by omega)]; rw [egy279, va_up_ne _ _ (by omega)]; rw [egy224, va_up_ne _ _ (by omega)]; rw [egy221, va_up_ne _ _ (by omega)]; rw [egy215, va_up_ne _ _ (by omega)]; exact f3 j j1⟩
                      · refine z_iconst (z := 3) C dX10_go_278 rfl ?_
                        refine z_goto (tgt := 283) C dX10_go_279 (by decide) ?_
                        refine z_put (fs' := mF ad (i) (uZ (uZ (uZ (uZ (uZ F9 33 (nx)) 37 (-1)) 36 (0)) 32 (nx + 1)) 35 (3))) C (lt_A0 hN rfl) hay3 hgy280 tyX10 tyX10_ok nmX10 rfl inA_X10 35 (by decide) q_1494 rfl rfl rfl rfl (Nat.le_of_ble_eq_true rfl) rfl dX10_go_283 (fun gy311 egy312 => ?_)
                        have hgy313 := up_s egy312
                        refine z_aload_n C 1 dX10_go_286 rfl ?_
                        refine z_iload_n C 0 dX10_go_287 rfl ?_
                        refine z_put (fs' := mF ad (i) (uZ (uZ (uZ (uZ (uZ (uZ F9 33 (nx)) 37 (-1)) 36 (0)) 32 (nx + 1)) 35 (3)) 36 (vy217))) C (lt_A0 hN rfl) hay3 hgy313 tyX10 tyX10_ok nmX10 rfl inA_X10 36 (by decide) q_1495 rfl rfl rfl rfl (Nat.le_of_ble_eq_true rfl) rfl dX10_go_288 (fun gy314 egy315 => ?_)
                        have hgy316 := up_s egy315
                        have hFy317 : ∀ f, f ≠ 32 → f ≠ 33 → f ≠ 35 → f ≠ 36 → f ≠ 37 → (uZ (uZ (uZ (uZ (uZ (uZ F9 33 (nx)) 37 (-1)) 36 (0)) 32 (nx + 1)) 35 (3)) 36 (vy217)) f = F f := fun f n32 n33 n35 n36 n37 => ((uZ_n _ _ n36).trans ((uZ_n _ _ n35).trans ((uZ_n _ _ n32).trans ((uZ_n _ _ n36).trans ((uZ_n _ _ n37).trans ((uZ_n _ _ n33).trans (f4 f n32)))))))
                        have hey318 : (uZ (uZ (uZ (uZ (uZ (uZ F9 33 (nx)) 37 (-1)) 36 (0)) 32 (nx + 1)) 35 (3)) 36 (vy217)) 32 = nx + 1 := (fn (fn (uZ_s _ _ _) (by decide)) (by decide))
                        have hey319 : (uZ (uZ (uZ (uZ (uZ (uZ F9 33 (nx)) 37 (-1)) 36 (0)) 32 (nx + 1)) 35 (3)) 36 (vy217)) 33 = nx := (fn (fn (fn (fn (fn (uZ_s _ _ _) (by decide)) (by decide)) (by decide)) (by decide)) (by decide))
                        have hey320 : (uZ (uZ (uZ (uZ (uZ (uZ F9 33 (nx)) 37 (-1)) 36 (0)) 32 (nx + 1)) 35 (3)) 36 (vy217)) 34 = (n : Int) := (fn (fn (fn (fn (fn (fn ((f4 34 (by decide)).trans h34) (by decide)) (by decide)) (by decide)) (by decide)) (by decide)) (by decide))
                        have hey321 : (uZ (uZ (uZ (uZ (uZ (uZ F9 33 (nx)) 37 (-1)) 36 (0)) 32 (nx + 1)) 35 (3)) 36 (vy217)) 35 = 3 := (fn (uZ_s _ _ _) (by decide))
                        have hey322 : (uZ (uZ (uZ (uZ (uZ (uZ F9 33 (nx)) 37 (-1)) 36 (0)) 32 (nx + 1)) 35 (3)) 36 (vy217)) 36 = vy217 := (uZ_s _ _ _)
                        have hey323 : (uZ (uZ (uZ (uZ (uZ (uZ F9 33 (nx)) 37 (-1)) 36 (0)) 32 (nx + 1)) 35 (3)) 36 (vy217)) 37 = -1 := (fn (fn (fn (fn (uZ_s _ _ _) (by decide)) (by decide)) (by decide)) (by decide))
                        have hey324 : (uZ (uZ (uZ (uZ (uZ (uZ F9 33 (nx)) 37 (-1)) 36 (0)) 32 (nx + 1)) 35 (3)) 36 (vy217)) 38 = F 38 := (fn (fn (fn (fn (fn (fn (f4 38 (by decide)) (by decide)) (by decide)) (by decide)) (by decide)) (by decide)) (by decide))
                        have hat : tk_at T n q = na := hi.symm.trans (tk_rn_end (by first | exact Or.inl (by omega) | exact Or.inr (decide_eq_false (by omega))))
                        have hty := tk_ty_c (T na)
                        have hsoy : tk_so T n na = tk_ty (T na) := by unfold tk_so; rw [if_neg (by omega)]
                        have hsc := srt_c (tk_so T n na)
                        have hto : tk_to T n na = na + 1 := by unfold tk_to; rw [if_neg (by omega), if_neg (by omega)]
                        have hvl : vlu T n na = T na := by unfold vlu; rw [if_neg (by omega), if_pos (by omega)]
                        have hwd : tk_w T n na = -1 := tk_w_let (by omega)
                        have htk : tkR T n (uZ (uZ (uZ (uZ (uZ (uZ F9 33 (nx)) 37 (-1)) 36 (0)) 32 (nx + 1)) 35 (3)) 36 (vy217)) na := ⟨by omega, by omega, by omega, by omega, by omega, by omega, by omega, by omega⟩
                        exact z_vret C hr hlk dX10_go_291 (by decide) (by decide) ⟨rfl, rfl, rfl, ⟨_, hgy316, by rw [hat]; exact htk, hFy317⟩, fun j j1 => by rw [egy315, va_up_ne _ _ (by omega)]; rw [egy312, va_up_ne _ _ (by omega)]; rw [egy279, va_up_ne _ _ (by omega)]; rw [egy224, va_up_ne _ _ (by omega)]; rw [egy221, va_up_ne _ _ (by omega)]; rw [egy215, va_up_ne _ _ (by omega)]; exact f3 j j1⟩
                  · have lp166 : ∀ (n9 : Nat) (nz : Int) (nc : Nat) (va : Int) (F8 : Nat → Int) (g1 : Nat → va_E), (900 - nz).toNat = n9 → (g1 i = mC ad i F8) → (∀ j, j ≠ i → g1 j = g j) → (F8 32 = nz) → (F8 33 = nx) → (F8 36 = va) → (F8 37 = -1) → (∀ f, f ≠ 32 → f ≠ 33 → f ≠ 36 → f ≠ 37 → F8 f = F f) → ((nz = (nc : Int) ∧ nx = (na : Int)) ∧ na ≤ nc ∧ nc ≤ n ∧ na < n) → (tk_rn (fun c => decide (tk_ty c = tk_ty (T na))) T n nc = tk_rn (fun c => decide (tk_ty c = tk_ty (T na))) T n na) → (tk_at T n q = na) → (tk_ty (T na) = 2) → (tk_so T n na = 2) → (va = (if nc - na ≤ 4 then tk_dv T na (nc - na) else 99999)) → (0 ≤ va ∧ va ≤ 99999 ∧ (nc - na = 0 → va = 0) ∧ (nc - na = 1 → va ≤ 9) ∧ (nc - na = 2 → va ≤ 99) ∧ (nc - na = 3 → va ≤ 999)) → zV pZ l eZ ({ frames := 3, cells := 0, slots := 0, locals := 180 } : Room) sZ mZ ([.ref (ad i)] : List Value).toArray below meth cZ (MQ below (zPost D A (rV0 N ad fun g' => (∃ F' : Nat → Int, g' i = mC ad i F' ∧ tkR T n F' (tk_at T n q) ∧ (∀ f, f ≠ 32 → f ≠ 33 → f ≠ 35 → f ≠ 36 → f ≠ 37 → F' f = F f)) ∧ ∀ j, j ≠ i → g' j = g j)) ([.ref (ad i)] : List Value).toArray sZ ({ frames := 3, cells := 0, slots := 0, locals := 180 } : Room).cells ({ frames := 3, cells := 0, slots := 0, locals := 180 } : Room).slots A) D A 2 (N) ad g1 (0) (0) 166 [(0, .ref (ad i))] [] := by
                      intro n9
                      induction n9 using Nat.strongRecOn with
                      | ind n9 ih_lp166 =>
                        intro nz nc va F8 g1 hm9 f2b f3b fn2 fp2 fv2 fw2 f4b hv2 hi2 hat hty2 hso2 hva hvb
                        have hay325 : zAt ad (i) (ad i) := rfl
                        have hay326 : zAt ad (i + 13) (ad (i + 13)) := rfl
                        refine z_aload_n C 0 dX10_go_166 rfl ?_
                        refine z_aload_n C 0 dX10_go_167 rfl ?_
                        refine z_get (v := .int (zI (nz))) C (lt_A0 hN rfl) hay325 f2b rfl inA_X10 32 (by decide) q_1491 rfl (fv (F := F8) (f := 32) fn2) dX10_go_168 ?_
                        have h34y328 : F8 34 = (n : Int) := ((f4b 34 (by decide) (by decide) (by decide) (by decide)).trans h34)
                        refine z_cV (As := [.int (zI (nz))]) (rest := []) (ci := 12) C (c_X10_byteAt l D A cs tt N ad _ i hN _ f2b _ ((f3b _ (by omega)).trans ha13) htp (by omega) (nz) (by omega)) (lt_A0 hN rfl) hay325 f2b rfl rfl mv_yX10_byteAt q_1660 hd_yX10_byteAt (by decide) (Nat.le_of_ble_eq_true rfl) (by decide) dX10_go_171 rfl (kI0 fun vy327 gvy327 hvy327 => ?_)
                        rw [h34y328] at hvy327
                        clear h34y328
                        obtain ⟨hrvy327, hpvy327, rfl⟩ := hvy327
                        rw [show (nz).toNat = nc by omega] at hpvy327
                        have hqvy327 : (nz < (n : Int) ∧ vy327 = T nc) ∨ ((n : Int) ≤ nz ∧ vy327 = 0) := by
                          rcases hpvy327 with ⟨a9, b9⟩ | ⟨a9, b9⟩
                          · exact Or.inl ⟨a9, b9.trans (hTt _ (by omega))⟩
                          · exact Or.inr ⟨a9, b9⟩
                        clear hpvy327
                        refine z_bipush (z := 48) C dX10_go_174 (by decide) ?_
                        refine z_icmp_lt (tgt := 247) C dX10_go_176 (by decide) (by omega) (by omega) (fun hby329 => ?_) (fun hby329 => ?_)
                        · have hto : tk_to T n na = nc := by
                            unfold tk_to
                            rw [if_neg (by omega), if_pos (Or.inr hty2)]
                            have e5 : tk_rn (fun c => decide (tk_ty c = tk_ty (T na))) T n na = tk_rn (fun c => decide (tk_ty c = tk_ty (T na))) T n (na + 1) := tk_rn_go (by omega) (decide_eq_true rfl)
                            rw [← e5, ← hi2]
                            exact tk_rn_end (by by_cases e9 : n ≤ nc; exact Or.inl e9; exact Or.inr (decide_eq_false (by have hty9 := tk_ty_c (T nc); omega)))
                          refine z_aload_n C 0 dX10_go_247 rfl ?_
                          refine z_iconst (z := 2) C dX10_go_248 rfl ?_
                          refine z_put (fs' := mF ad (i) (uZ F8 35 (2))) C (lt_A0 hN rfl) hay325 f2b tyX10 tyX10_ok nmX10 rfl inA_X10 35 (by decide) q_1494 rfl rfl rfl rfl (Nat.le_of_ble_eq_true rfl) rfl dX10_go_249 (fun gy330 egy331 => ?_)
                          have hgy332 := up_s egy331
                          refine z_goto (tgt := 291) C dX10_go_252 (by decide) ?_
                          have hFy333 : ∀ f, f ≠ 32 → f ≠ 33 → f ≠ 35 → f ≠ 36 → f ≠ 37 → (uZ F8 35 (2)) f = F f := fun f n32 n33 n35 n36 n37 => ((uZ_n _ _ n35).trans (f4b f n32 n33 n36 n37))
                          have hey334 : (uZ F8 35 (2)) 32 = nz := (fn fn2 (by decide))
                          have hey335 : (uZ F8 35 (2)) 33 = nx := (fn fp2 (by decide))
                          have hey336 : (uZ F8 35 (2)) 34 = (n : Int) := (fn ((f4b 34 (by decide) (by decide) (by decide) (by decide)).trans h34) (by decide))
                          have hey337 : (uZ F8 35 (2)) 35 = 2 := (uZ_s _ _ _)
                          have hey338 : (uZ F8 35 (2)) 36 = va := (fn fv2 (by decide))
                          have hey339 : (uZ F8 35 (2)) 37 = -1 := (fn fw2 (by decide))
                          have hey340 : (uZ F8 35 (2)) 38 = F 38 := (fn (f4b 38 (by decide) (by decide) (by decide) (by decide)) (by decide))
                          have hvl : vlu T n na = va := by rw [vlu2 hso2]; unfold tk_va; rw [hto]; omega
                          have hwd : tk_w T n na = -1 := tk_w_let (by omega)
                          have hsr : srt (tk_so T n na) = 2 := srt2.mpr hso2
                          have htk : tkR T n (uZ F8 35 (2)) na := ⟨by omega, by omega, by omega, by omega, by omega, by omega, by omega, by omega⟩
                          exact z_vret C hr hlk dX10_go_291 (by decide) (by decide) ⟨rfl, rfl, rfl, ⟨_, hgy332, by rw [hat]; exact htk, hFy333⟩, fun j j1 => by rw [egy331, va_up_ne _ _ (by omega)]; exact f3b j j1⟩
                        · refine z_aload_n C 0 dX10_go_179 rfl ?_
                          refine z_aload_n C 0 dX10_go_180 rfl ?_
                          refine z_get (v := .int (zI (nz))) C (lt_A0 hN rfl) hay325 f2b rfl inA_X10 32 (by decide) q_1491 rfl (fv (F := F8) (f := 32) fn2) dX10_go_181 ?_
                          have h34y342 : F8 34 = (n : Int) := ((f4b 34 (by decide) (by decide) (by decide) (by decide)).trans h34)
                          refine z_cV (As := [.int (zI (nz))]) (rest := []) (ci := 12) C (c_X10_byteAt l D A cs tt N ad _ i hN _ f2b _ ((f3b _ (by omega)).trans ha13) htp (by omega) (nz) (by omega)) (lt_A0 hN rfl) hay325 f2b rfl rfl mv_yX10_byteAt q_1660 hd_yX10_byteAt (by decide) (Nat.le_of_ble_eq_true rfl) (by decide) dX10_go_184 rfl (kI0 fun vy341 gvy341 hvy341 => ?_)
                          rw [h34y342] at hvy341
                          clear h34y342
                          obtain ⟨hrvy341, hpvy341, rfl⟩ := hvy341
                          rw [show (nz).toNat = nc by omega] at hpvy341
                          have hqvy341 : (nz < (n : Int) ∧ vy341 = T nc) ∨ ((n : Int) ≤ nz ∧ vy341 = 0) := by
                            rcases hpvy341 with ⟨a9, b9⟩ | ⟨a9, b9⟩
                            · exact Or.inl ⟨a9, b9.trans (hTt _ (by omega))⟩
                            · exact Or.inr ⟨a9, b9⟩
                          clear hpvy341
                          refine z_bipush (z := 57) C dX10_go_187 (by decide) ?_
                          refine z_icmp_gt (tgt := 247) C dX10_go_189 (by decide) (by omega) (by omega) (fun hby343 => ?_) (fun hby343 => ?_)
                          · have hto : tk_to T n na = nc := by
                              unfold tk_to
                              rw [if_neg (by omega), if_pos (Or.inr hty2)]
                              have e5 : tk_rn (fun c => decide (tk_ty c = tk_ty (T na))) T n na = tk_rn (fun c => decide (tk_ty c = tk_ty (T na))) T n (na + 1) := tk_rn_go (by omega) (decide_eq_true rfl)
                              rw [← e5, ← hi2]
                              exact tk_rn_end (by by_cases e9 : n ≤ nc; exact Or.inl e9; exact Or.inr (decide_eq_false (by have hty9 := tk_ty_c (T nc); omega)))
                            refine z_aload_n C 0 dX10_go_247 rfl ?_
                            refine z_iconst (z := 2) C dX10_go_248 rfl ?_
                            refine z_put (fs' := mF ad (i) (uZ F8 35 (2))) C (lt_A0 hN rfl) hay325 f2b tyX10 tyX10_ok nmX10 rfl inA_X10 35 (by decide) q_1494 rfl rfl rfl rfl (Nat.le_of_ble_eq_true rfl) rfl dX10_go_249 (fun gy344 egy345 => ?_)
                            have hgy346 := up_s egy345
                            refine z_goto (tgt := 291) C dX10_go_252 (by decide) ?_
                            have hFy347 : ∀ f, f ≠ 32 → f ≠ 33 → f ≠ 35 → f ≠ 36 → f ≠ 37 → (uZ F8 35 (2)) f = F f := fun f n32 n33 n35 n36 n37 => ((uZ_n _ _ n35).trans (f4b f n32 n33 n36 n37))
                            have hey348 : (uZ F8 35 (2)) 32 = nz := (fn fn2 (by decide))
                            have hey349 : (uZ F8 35 (2)) 33 = nx := (fn fp2 (by decide))
                            have hey350 : (uZ F8 35 (2)) 34 = (n : Int) := (fn ((f4b 34 (by decide) (by decide) (by decide) (by decide)).trans h34) (by decide))
                            have hey351 : (uZ F8 35 (2)) 35 = 2 := (uZ_s _ _ _)
                            have hey352 : (uZ F8 35 (2)) 36 = va := (fn fv2 (by decide))
                            have hey353 : (uZ F8 35 (2)) 37 = -1 := (fn fw2 (by decide))
                            have hey354 : (uZ F8 35 (2)) 38 = F 38 := (fn (f4b 38 (by decide) (by decide) (by decide) (by decide)) (by decide))
                            have hvl : vlu T n na = va := by rw [vlu2 hso2]; unfold tk_va; rw [hto]; omega
                            have hwd : tk_w T n na = -1 := tk_w_let (by omega)
                            have hsr : srt (tk_so T n na) = 2 := srt2.mpr hso2
                            have htk : tkR T n (uZ F8 35 (2)) na := ⟨by omega, by omega, by omega, by omega, by omega, by omega, by omega, by omega⟩
                            exact z_vret C hr hlk dX10_go_291 (by decide) (by decide) ⟨rfl, rfl, rfl, ⟨_, hgy346, by rw [hat]; exact htk, hFy347⟩, fun j j1 => by rw [egy345, va_up_ne _ _ (by omega)]; exact f3b j j1⟩
                          · refine z_aload_n C 0 dX10_go_192 rfl ?_
                            refine z_aload_n C 0 dX10_go_193 rfl ?_
                            refine z_get (v := .int (zI (nz))) C (lt_A0 hN rfl) hay325 f2b rfl inA_X10 32 (by decide) q_1491 rfl (fv (F := F8) (f := 32) fn2) dX10_go_194 ?_
                            refine z_aload_n C 0 dX10_go_197 rfl ?_
                            refine z_get (v := .int (zI (nx))) C (lt_A0 hN rfl) hay325 f2b rfl inA_X10 33 (by decide) q_1492 rfl (fv (F := F8) (f := 33) fp2) dX10_go_198 ?_
                            refine z_isub C dX10_go_201 ?_
                            refine z_iconst (z := 4) C dX10_go_202 rfl ?_
                            refine z_icmp_ge (tgt := 228) C dX10_go_203 (by decide) (by omega) (by omega) (fun hby355 => ?_) (fun hby355 => ?_)
                            · refine z_ldcw (z := 99999) C dX10_go_228 q_1673 (by decide) ?_
                              refine z_put (fs' := mF ad (i) (uZ F8 36 (99999))) C (lt_A0 hN rfl) hay325 f2b tyX10 tyX10_ok nmX10 rfl inA_X10 36 (by decide) q_1495 rfl rfl rfl rfl (Nat.le_of_ble_eq_true rfl) rfl dX10_go_231 (fun gy356 egy357 => ?_)
                              have hgy358 := up_s egy357
                              refine z_aload_n C 0 dX10_go_234 rfl ?_
                              refine z_dup C dX10_go_235 rfl ?_
                              refine z_get (v := .int (zI (nz))) C (lt_A0 hN rfl) hay325 hgy358 rfl inA_X10 32 (by decide) q_1491 rfl (fv (F := (uZ F8 36 (99999))) (f := 32) (fn fn2 (by decide))) dX10_go_236 ?_
                              refine z_iconst (z := 1) C dX10_go_239 rfl ?_
                              refine z_iadd C dX10_go_240 ?_
                              refine z_put (fs' := mF ad (i) (uZ (uZ F8 36 (99999)) 32 (nz + 1))) C (lt_A0 hN rfl) hay325 hgy358 tyX10 tyX10_ok nmX10 rfl inA_X10 32 (by decide) q_1491 rfl rfl rfl rfl (Nat.le_of_ble_eq_true rfl) rfl dX10_go_241 (fun gy359 egy360 => ?_)
                              have hgy361 := up_s egy360
                              refine z_goto (tgt := 166) C dX10_go_244 (by decide) ?_
                              have hFy362 : ∀ f, f ≠ 32 → f ≠ 33 → f ≠ 36 → f ≠ 37 → (uZ (uZ F8 36 (99999)) 32 (nz + 1)) f = F f := fun f n32 n33 n36 n37 => ((uZ_n _ _ n32).trans ((uZ_n _ _ n36).trans (f4b f n32 n33 n36 n37)))
                              refine z_lv (lv' := [(0, .ref (ad i))]) [0] rfl ?_
                              have hty9 := tk_ty_c (T nc)
                              have htyc : tk_ty (T nc) = 2 := by omega
                              have hdc : 48 ≤ T nc ∧ T nc ≤ 57 := by omega
                              clear hty9
                              have hvn : 99999 = (if nc + 1 - na ≤ 4 then tk_dv T na (nc + 1 - na) else 99999) := by
                                by_cases e9 : nc - na < 4
                                · rw [if_pos (by omega)] at hva ⊢; rw [show nc + 1 - na = (nc - na) + 1 by omega]; show _ = 10 * tk_dv T na (nc - na) + T (na + (nc - na)) - 48; rw [← hva, show na + (nc - na) = nc by omega]; omega
                                · rw [if_neg (by omega)]; try omega
                              exact ih_lp166 _ (by omega) (nz + 1) (nc + 1) (99999) _ gy359 rfl hgy361 (fun j j1 => by rw [egy360, va_up_ne _ _ (by omega)]; rw [egy357, va_up_ne _ _ (by omega)]; exact f3b j j1) (uZ_s _ _ _) (fn (fn fp2 (by decide)) (by decide)) (fn (uZ_s _ _ _) (by decide)) (fn (fn fw2 (by decide)) (by decide)) hFy362 (by omega) ((tk_rn_go (by omega) (decide_eq_true (htyc.trans hty2.symm))).symm.trans hi2) hat hty2 hso2 hvn (by omega)
                            · refine z_bipush (z := 10) C dX10_go_206 (by decide) ?_
                              refine z_aload_n C 0 dX10_go_208 rfl ?_
                              refine z_get (v := .int (zI (va))) C (lt_A0 hN rfl) hay325 f2b rfl inA_X10 36 (by decide) q_1495 rfl (fv (F := F8) (f := 36) fv2) dX10_go_209 ?_
                              refine z_imul C dX10_go_212 ?_
                              refine z_aload_n C 0 dX10_go_213 rfl ?_
                              refine z_aload_n C 0 dX10_go_214 rfl ?_
                              refine z_get (v := .int (zI (nz))) C (lt_A0 hN rfl) hay325 f2b rfl inA_X10 32 (by decide) q_1491 rfl (fv (F := F8) (f := 32) fn2) dX10_go_215 ?_
                              have h34y364 : F8 34 = (n : Int) := ((f4b 34 (by decide) (by decide) (by decide) (by decide)).trans h34)
                              refine z_cV (As := [.int (zI (nz))]) (rest := [.int (zI (10 * va)), .ref (ad i)]) (ci := 12) C (c_X10_byteAt l D A cs tt N ad _ i hN _ f2b _ ((f3b _ (by omega)).trans ha13) htp (by omega) (nz) (by omega)) (lt_A0 hN rfl) hay325 f2b rfl rfl mv_yX10_byteAt q_1660 hd_yX10_byteAt (by decide) (Nat.le_of_ble_eq_true rfl) (by decide) dX10_go_218 rfl (kI0 fun vy363 gvy363 hvy363 => ?_)
                              rw [h34y364] at hvy363
                              clear h34y364
                              obtain ⟨hrvy363, hpvy363, rfl⟩ := hvy363
                              rw [show (nz).toNat = nc by omega] at hpvy363
                              have hqvy363 : (nz < (n : Int) ∧ vy363 = T nc) ∨ ((n : Int) ≤ nz ∧ vy363 = 0) := by
                                rcases hpvy363 with ⟨a9, b9⟩ | ⟨a9, b9⟩
                                · exact Or.inl ⟨a9, b9.trans (hTt _ (by omega))⟩
                                · exact Or.inr ⟨a9, b9⟩
                              clear hpvy363
                              refine z_iadd C dX10_go_221 ?_
                              refine z_bipush (z := 48) C dX10_go_222 (by decide) ?_
                              refine z_isub C dX10_go_224 ?_
                              refine z_goto (tgt := 231) C dX10_go_225 (by decide) ?_
                              refine z_put (fs' := mF ad (i) (uZ F8 36 (((10 * va) + vy363) - 48))) C (lt_A0 hN rfl) hay325 f2b tyX10 tyX10_ok nmX10 rfl inA_X10 36 (by decide) q_1495 rfl rfl rfl rfl (Nat.le_of_ble_eq_true rfl) rfl dX10_go_231 (fun gy365 egy366 => ?_)
                              have hgy367 := up_s egy366
                              refine z_aload_n C 0 dX10_go_234 rfl ?_
                              refine z_dup C dX10_go_235 rfl ?_
                              refine z_get (v := .int (zI (nz))) C (lt_A0 hN rfl) hay325 hgy367 rfl inA_X10 32 (by decide) q_1491 rfl (fv (F := (uZ F8 36 (((10 * va) + vy363) - 48))) (f := 32) (fn fn2 (by decide))) dX10_go_236 ?_
                              refine z_iconst (z := 1) C dX10_go_239 rfl ?_
                              refine z_iadd C dX10_go_240 ?_
                              refine z_put (fs' := mF ad (i) (uZ (uZ F8 36 (((10 * va) + vy363) - 48)) 32 (nz + 1))) C (lt_A0 hN rfl) hay325 hgy367 tyX10 tyX10_ok nmX10 rfl inA_X10 32 (by decide) q_1491 rfl rfl rfl rfl (Nat.le_of_ble_eq_true rfl) rfl dX10_go_241 (fun gy368 egy369 => ?_)
                              have hgy370 := up_s egy369
                              refine z_goto (tgt := 166) C dX10_go_244 (by decide) ?_
                              have hFy371 : ∀ f, f ≠ 32 → f ≠ 33 → f ≠ 36 → f ≠ 37 → (uZ (uZ F8 36 (((10 * va) + vy363) - 48)) 32 (nz + 1)) f = F f := fun f n32 n33 n36 n37 => ((uZ_n _ _ n32).trans ((uZ_n _ _ n36).trans (f4b f n32 n33 n36 n37)))
                              refine z_lv (lv' := [(0, .ref (ad i))]) [0] rfl ?_
                              have hty9 := tk_ty_c (T nc)
                              have htyc : tk_ty (T nc) = 2 := by omega
                              have hdc : 48 ≤ T nc ∧ T nc ≤ 57 := by omega
                              clear hty9
                              have hvn : ((10 * va) + vy363) - 48 = (if nc + 1 - na ≤ 4 then tk_dv T na (nc + 1 - na) else 99999) := by
                                by_cases e9 : nc - na < 4
                                · rw [if_pos (by omega)] at hva ⊢; rw [show nc + 1 - na = (nc - na) + 1 by omega]; show _ = 10 * tk_dv T na (nc - na) + T (na + (nc - na)) - 48; rw [← hva, show na + (nc - na) = nc by omega]; omega
                                · rw [if_neg (by omega)]; try omega
                              exact ih_lp166 _ (by omega) (nz + 1) (nc + 1) (((10 * va) + vy363) - 48) _ gy368 rfl hgy370 (fun j j1 => by rw [egy369, va_up_ne _ _ (by omega)]; rw [egy366, va_up_ne _ _ (by omega)]; exact f3b j j1) (uZ_s _ _ _) (fn (fn fp2 (by decide)) (by decide)) (fn (uZ_s _ _ _) (by decide)) (fn (fn fw2 (by decide)) (by decide)) hFy371 (by omega) ((tk_rn_go (by omega) (decide_eq_true (htyc.trans hty2.symm))).symm.trans hi2) hat hty2 hso2 hvn (by omega)
                    have hFy372 : ∀ f, f ≠ 32 → f ≠ 33 → f ≠ 36 → f ≠ 37 → (uZ (uZ (uZ F9 33 (nx)) 37 (-1)) 36 (0)) f = F f := fun f n32 n33 n36 n37 => ((uZ_n _ _ n36).trans ((uZ_n _ _ n37).trans ((uZ_n _ _ n33).trans (f4 f n32))))
                    have hat : tk_at T n q = na := hi.symm.trans (tk_rn_end (Or.inr (decide_eq_false (by omega))))
                    have hty := tk_ty_c (T na)
                    have hty2 : tk_ty (T na) = 2 := by omega
                    have hso2 : tk_so T n na = 2 := by unfold tk_so; rw [if_neg (by omega)]; exact hty2
                    refine z_lv (lv' := [(0, .ref (ad i))]) [1] rfl ?_
                    exact lp166 _ (nx) na (0) _ gy223 rfl hgy225 (fun j j1 => by rw [egy224, va_up_ne _ _ (by omega)]; rw [egy221, va_up_ne _ _ (by omega)]; rw [egy215, va_up_ne _ _ (by omega)]; exact f3 j j1) (fn (fn (fn fx0 (by decide)) (by decide)) (by decide)) (fn (fn (uZ_s _ _ _) (by decide)) (by decide)) (uZ_s _ _ _) (fn (uZ_s _ _ _) (by decide)) hFy372 (by omega) rfl hat hty2 hso2 (by rw [if_pos (by omega), show na - na = 0 by omega]; rfl) (by omega)
              · have lp103 : ∀ (n9 : Nat) (ny : Int) (nb : Nat) (F8 : Nat → Int) (g1 : Nat → va_E), (900 - ny).toNat = n9 → (g1 i = mC ad i F8) → (∀ j, j ≠ i → g1 j = g j) → (F8 32 = ny) → (F8 33 = nx) → (F8 36 = 0) → (F8 37 = -1) → (∀ f, f ≠ 32 → f ≠ 33 → f ≠ 36 → f ≠ 37 → F8 f = F f) → ((ny = (nb : Int) ∧ nx = (na : Int)) ∧ na ≤ nb ∧ nb ≤ n ∧ na < n) → (tk_rn (fun c => decide (tk_ty c = tk_ty (T na))) T n nb = tk_rn (fun c => decide (tk_ty c = tk_ty (T na))) T n na) → (tk_at T n q = na) → (tk_ty (T na) = 1) → (tk_so T n na = 1) → zV pZ l eZ ({ frames := 3, cells := 0, slots := 0, locals := 180 } : Room) sZ mZ ([.ref (ad i)] : List Value).toArray below meth cZ (MQ below (zPost D A (rV0 N ad fun g' => (∃ F' : Nat → Int, g' i = mC ad i F' ∧ tkR T n F' (tk_at T n q) ∧ (∀ f, f ≠ 32 → f ≠ 33 → f ≠ 35 → f ≠ 36 → f ≠ 37 → F' f = F f)) ∧ ∀ j, j ≠ i → g' j = g j)) ([.ref (ad i)] : List Value).toArray sZ ({ frames := 3, cells := 0, slots := 0, locals := 180 } : Room).cells ({ frames := 3, cells := 0, slots := 0, locals := 180 } : Room).slots A) D A 2 (N) ad g1 (0) (0) 103 [(0, .ref (ad i))] [] := by
                  intro n9
                  induction n9 using Nat.strongRecOn with
                  | ind n9 ih_lp103 =>
                    intro ny nb F8 g1 hm9 f2b f3b fn2 fp2 fv2 fw2 f4b hv2 hi2 hat hty1 hso1
                    have hay373 : zAt ad (i) (ad i) := rfl
                    have hay374 : zAt ad (i + 13) (ad (i + 13)) := rfl
                    refine z_aload_n C 0 dX10_go_103 rfl ?_
                    refine z_aload_n C 0 dX10_go_104 rfl ?_
                    refine z_get (v := .int (zI (ny))) C (lt_A0 hN rfl) hay373 f2b rfl inA_X10 32 (by decide) q_1491 rfl (fv (F := F8) (f := 32) fn2) dX10_go_105 ?_
                    have h34y376 : F8 34 = (n : Int) := ((f4b 34 (by decide) (by decide) (by decide) (by decide)).trans h34)
                    refine z_cV (As := [.int (zI (ny))]) (rest := []) (ci := 12) C (c_X10_byteAt l D A cs tt N ad _ i hN _ f2b _ ((f3b _ (by omega)).trans ha13) htp (by omega) (ny) (by omega)) (lt_A0 hN rfl) hay373 f2b rfl rfl mv_yX10_byteAt q_1660 hd_yX10_byteAt (by decide) (Nat.le_of_ble_eq_true rfl) (by decide) dX10_go_108 rfl (kI0 fun vy375 gvy375 hvy375 => ?_)
                    rw [h34y376] at hvy375
                    clear h34y376
                    obtain ⟨hrvy375, hpvy375, rfl⟩ := hvy375
                    rw [show (ny).toNat = nb by omega] at hpvy375
                    have hqvy375 : (ny < (n : Int) ∧ vy375 = T nb) ∨ ((n : Int) ≤ ny ∧ vy375 = 0) := by
                      rcases hpvy375 with ⟨a9, b9⟩ | ⟨a9, b9⟩
                      · exact Or.inl ⟨a9, b9.trans (hTt _ (by omega))⟩
                      · exact Or.inr ⟨a9, b9⟩
                    clear hpvy375
                    refine z_cS (As := [.int (zI (vy375))]) (rest := []) C (c_X10_isLetter l D A cs tt N ad _ (vy375) (by omega)) ms_yX10_isLetter q_1664 hd_yX10_isLetter (by decide) (Nat.le_of_ble_eq_true rfl) (by decide) dX10_go_111 rfl (kI0 fun vy377 gvy377 hvy377 => ?_)
                    obtain ⟨hvy377, rfl⟩ := hvy377
                    refine z_if_eq (tgt := 130) C dX10_go_114 (by decide) (by omega) (fun hby378 => ?_) (fun hby378 => ?_)
                    · refine z_aload_n C 0 dX10_go_130 rfl ?_
                      refine z_iconst (z := 1) C dX10_go_131 rfl ?_
                      refine z_put (fs' := mF ad (i) (uZ F8 35 (1))) C (lt_A0 hN rfl) hay373 f2b tyX10 tyX10_ok nmX10 rfl inA_X10 35 (by decide) q_1494 rfl rfl rfl rfl (Nat.le_of_ble_eq_true rfl) rfl dX10_go_132 (fun gy379 egy380 => ?_)
                      have hgy381 := up_s egy380
                      refine z_aload_n C 0 dX10_go_135 rfl ?_
                      refine z_aload_n C 0 dX10_go_136 rfl ?_
                      refine z_aload_n C 0 dX10_go_137 rfl ?_
                      refine z_get (v := .int (zI (nx))) C (lt_A0 hN rfl) hay373 hgy381 rfl inA_X10 33 (by decide) q_1492 rfl (fv (F := (uZ F8 35 (1))) (f := 33) (fn fp2 (by decide))) dX10_go_138 ?_
                      refine z_aload_n C 0 dX10_go_141 rfl ?_
                      refine z_get (v := .int (zI (ny))) C (lt_A0 hN rfl) hay373 hgy381 rfl inA_X10 32 (by decide) q_1491 rfl (fv (F := (uZ F8 35 (1))) (f := 32) (fn fn2 (by decide))) dX10_go_142 ?_
                      have hto : tk_to T n na = nb := by
                        unfold tk_to
                        rw [if_neg (by omega), if_pos (Or.inl hty1)]
                        have e5 : tk_rn (fun c => decide (tk_ty c = tk_ty (T na))) T n na = tk_rn (fun c => decide (tk_ty c = tk_ty (T na))) T n (na + 1) := tk_rn_go (by omega) (decide_eq_true rfl)
                        rw [← e5, ← hi2]
                        exact tk_rn_end (by by_cases e9 : n ≤ nb; exact Or.inl e9; exact Or.inr (decide_eq_false (by have hty9 := tk_ty_c (T nb); omega)))
                      have hgy383 := up_n egy380 ((f3b _ (by omega)).trans ha13) (ne_o (i := i) (c := 13) (d := 0) rfl)
                      have h34y384 : (uZ F8 35 (1)) 34 = (n : Int) := (fn ((f4b 34 (by decide) (by decide) (by decide) (by decide)).trans h34) (by decide))
                      rw [show nx = (na : Int) by omega, show ny = ((tk_to T n na : Nat) : Int) by omega]
                      refine z_cV (As := [.int (zI ((na : Int))), .int (zI (((tk_to T n na : Nat) : Int)))]) (rest := [.ref (ad i)]) (ci := 12) C (c_yWord l D A cs tt N ad _ i hN _ hgy381 _ hgy383 T n hn hTb hTt htp h34y384 na (by omega) hso1) (lt_A0 hN rfl) hay373 hgy381 rfl rfl mv_yX10_wordFrom q_1667 hd_yX10_wordFrom (by decide) (Nat.le_of_ble_eq_true rfl) (by decide) dX10_go_145 rfl (kI0 fun vy382 gvy382 hvy382 => ?_)
                      obtain ⟨rfl, rfl⟩ := hvy382
                      refine z_put (fs' := mF ad (i) (uZ (uZ F8 35 (1)) 37 (tk_w T n na))) C (lt_A0 hN rfl) hay373 hgy381 tyX10 tyX10_ok nmX10 rfl inA_X10 37 (by decide) q_1496 rfl rfl rfl rfl (Nat.le_of_ble_eq_true rfl) rfl dX10_go_148 (fun gy385 egy386 => ?_)
                      have hgy387 := up_s egy386
                      refine z_goto (tgt := 291) C dX10_go_151 (by decide) ?_
                      have hFy388 : ∀ f, f ≠ 32 → f ≠ 33 → f ≠ 35 → f ≠ 36 → f ≠ 37 → (uZ (uZ F8 35 (1)) 37 (tk_w T n na)) f = F f := fun f n32 n33 n35 n36 n37 => ((uZ_n _ _ n37).trans ((uZ_n _ _ n35).trans (f4b f n32 n33 n36 n37)))
                      have hey389 : (uZ (uZ F8 35 (1)) 37 (tk_w T n na)) 32 = ny := (fn (fn fn2 (by decide)) (by decide))
                      have hey390 : (uZ (uZ F8 35 (1)) 37 (tk_w T n na)) 33 = nx := (fn (fn fp2 (by decide)) (by decide))
                      have hey391 : (uZ (uZ F8 35 (1)) 37 (tk_w T n na)) 34 = (n : Int) := (fn (fn ((f4b 34 (by decide) (by decide) (by decide) (by decide)).trans h34) (by decide)) (by decide))
                      have hey392 : (uZ (uZ F8 35 (1)) 37 (tk_w T n na)) 35 = 1 := (fn (uZ_s _ _ _) (by decide))
                      have hey393 : (uZ (uZ F8 35 (1)) 37 (tk_w T n na)) 36 = 0 := (fn (fn fv2 (by decide)) (by decide))
                      have hey394 : (uZ (uZ F8 35 (1)) 37 (tk_w T n na)) 37 = tk_w T n na := (uZ_s _ _ _)
                      have hey395 : (uZ (uZ F8 35 (1)) 37 (tk_w T n na)) 38 = F 38 := (fn (fn (f4b 38 (by decide) (by decide) (by decide) (by decide)) (by decide)) (by decide))
                      have hvl : vlu T n na = 0 := by unfold vlu; rw [if_neg (by omega), if_neg (by omega)]
                      have hsr : srt (tk_so T n na) = 1 := srt1.mpr hso1
                      have hwd : tk_w T n na = tk_w T n na := rfl
                      have htk : tkR T n (uZ (uZ F8 35 (1)) 37 (tk_w T n na)) na := ⟨by omega, by omega, by omega, by omega, by omega, by omega, by omega, by omega⟩
                      exact z_vret C hr hlk dX10_go_291 (by decide) (by decide) ⟨rfl, rfl, rfl, ⟨_, hgy387, by rw [hat]; exact htk, hFy388⟩, fun j j1 => by rw [egy386, va_up_ne _ _ (by omega)]; rw [egy380, va_up_ne _ _ (by omega)]; exact f3b j j1⟩
                    · refine z_aload_n C 0 dX10_go_117 rfl ?_
                      refine z_dup C dX10_go_118 rfl ?_
                      refine z_get (v := .int (zI (ny))) C (lt_A0 hN rfl) hay373 f2b rfl inA_X10 32 (by decide) q_1491 rfl (fv (F := F8) (f := 32) fn2) dX10_go_119 ?_
                      refine z_iconst (z := 1) C dX10_go_122 rfl ?_
                      refine z_iadd C dX10_go_123 ?_
                      refine z_put (fs' := mF ad (i) (uZ F8 32 (ny + 1))) C (lt_A0 hN rfl) hay373 f2b tyX10 tyX10_ok nmX10 rfl inA_X10 32 (by decide) q_1491 rfl rfl rfl rfl (Nat.le_of_ble_eq_true rfl) rfl dX10_go_124 (fun gy396 egy397 => ?_)
                      have hgy398 := up_s egy397
                      refine z_goto (tgt := 103) C dX10_go_127 (by decide) ?_
                      have hFy399 : ∀ f, f ≠ 32 → f ≠ 33 → f ≠ 36 → f ≠ 37 → (uZ F8 32 (ny + 1)) f = F f := fun f n32 n33 n36 n37 => ((uZ_n _ _ n32).trans (f4b f n32 n33 n36 n37))
                      refine z_lv (lv' := [(0, .ref (ad i))]) [0] rfl ?_
                      exact ih_lp103 _ (by omega) (ny + 1) (nb + 1) _ gy396 rfl hgy398 (fun j j1 => by rw [egy397, va_up_ne _ _ (by omega)]; exact f3b j j1) (uZ_s _ _ _) (fn fp2 (by decide)) (fn fv2 (by decide)) (fn fw2 (by decide)) hFy399 (by omega) ((tk_rn_go (by omega) (decide_eq_true (by have hty9 := tk_ty_c (T nb); omega))).symm.trans hi2) hat hty1 hso1
                have hFy400 : ∀ f, f ≠ 32 → f ≠ 33 → f ≠ 36 → f ≠ 37 → (uZ (uZ (uZ F9 33 (nx)) 37 (-1)) 36 (0)) f = F f := fun f n32 n33 n36 n37 => ((uZ_n _ _ n36).trans ((uZ_n _ _ n37).trans ((uZ_n _ _ n33).trans (f4 f n32))))
                have hat : tk_at T n q = na := hi.symm.trans (tk_rn_end (Or.inr (decide_eq_false (by omega))))
                have hty := tk_ty_c (T na)
                have hty1 : tk_ty (T na) = 1 := by omega
                have hso1 : tk_so T n na = 1 := by unfold tk_so; rw [if_neg (by omega)]; exact hty1
                refine z_lv (lv' := [(0, .ref (ad i))]) [1] rfl ?_
                exact lp103 _ (nx) na _ gy223 rfl hgy225 (fun j j1 => by rw [egy224, va_up_ne _ _ (by omega)]; rw [egy221, va_up_ne _ _ (by omega)]; rw [egy215, va_up_ne _ _ (by omega)]; exact f3 j j1) (fn (fn (fn fx0 (by decide)) (by decide)) (by decide)) (fn (fn (uZ_s _ _ _) (by decide)) (by decide)) (uZ_s _ _ _) (fn (uZ_s _ _ _) (by decide)) hFy400 (by omega) rfl hat hty1 hso1
            · refine z_aload_n C 1 dX10_go_88 rfl ?_
              refine z_iconst (z := 0) C dX10_go_89 rfl ?_
              refine z_put (fs' := mF ad (i) (uZ (uZ (uZ (uZ F9 33 (nx)) 37 (-1)) 36 (0)) 35 (0))) C (lt_A0 hN rfl) hay3 hgy225 tyX10 tyX10_ok nmX10 rfl inA_X10 35 (by decide) q_1494 rfl rfl rfl rfl (Nat.le_of_ble_eq_true rfl) rfl dX10_go_90 (fun gy401 egy402 => ?_)
              have hgy403 := up_s egy402
              refine z_goto (tgt := 291) C dX10_go_93 (by decide) ?_
              have hFy404 : ∀ f, f ≠ 32 → f ≠ 33 → f ≠ 35 → f ≠ 36 → f ≠ 37 → (uZ (uZ (uZ (uZ F9 33 (nx)) 37 (-1)) 36 (0)) 35 (0)) f = F f := fun f n32 n33 n35 n36 n37 => ((uZ_n _ _ n35).trans ((uZ_n _ _ n36).trans ((uZ_n _ _ n37).trans ((uZ_n _ _ n33).trans (f4 f n32)))))
              have hey405 : (uZ (uZ (uZ (uZ F9 33 (nx)) 37 (-1)) 36 (0)) 35 (0)) 32 = nx := (fn (fn (fn (fn fx0 (by decide)) (by decide)) (by decide)) (by decide))
              have hey406 : (uZ (uZ (uZ (uZ F9 33 (nx)) 37 (-1)) 36 (0)) 35 (0)) 33 = nx := (fn (fn (fn (uZ_s _ _ _) (by decide)) (by decide)) (by decide))
              have hey407 : (uZ (uZ (uZ (uZ F9 33 (nx)) 37 (-1)) 36 (0)) 35 (0)) 34 = (n : Int) := (fn (fn (fn (fn ((f4 34 (by decide)).trans h34) (by decide)) (by decide)) (by decide)) (by decide))
              have hey408 : (uZ (uZ (uZ (uZ F9 33 (nx)) 37 (-1)) 36 (0)) 35 (0)) 35 = 0 := (uZ_s _ _ _)
              have hey409 : (uZ (uZ (uZ (uZ F9 33 (nx)) 37 (-1)) 36 (0)) 35 (0)) 36 = 0 := (fn (uZ_s _ _ _) (by decide))
              have hey410 : (uZ (uZ (uZ (uZ F9 33 (nx)) 37 (-1)) 36 (0)) 35 (0)) 37 = -1 := (fn (fn (uZ_s _ _ _) (by decide)) (by decide))
              have hey411 : (uZ (uZ (uZ (uZ F9 33 (nx)) 37 (-1)) 36 (0)) 35 (0)) 38 = F 38 := (fn (fn (fn (fn (f4 38 (by decide)) (by decide)) (by decide)) (by decide)) (by decide))
              have hat : tk_at T n q = na := hi.symm.trans (tk_rn_end (by first | exact Or.inl (by omega) | exact Or.inr (decide_eq_false (by omega))))
              have hso0 : tk_so T n na = 0 := tk_so_0.mpr (by omega)
              have hto : tk_to T n na = na := by unfold tk_to; rw [if_pos (by omega)]
              have hvl : vlu T n na = 0 := by unfold vlu; rw [if_neg (by omega), if_neg (by omega)]
              have hwd : tk_w T n na = -1 := tk_w_let (by omega)
              have hsr : srt (tk_so T n na) = 0 := srt0.mpr hso0
              have htk : tkR T n (uZ (uZ (uZ (uZ F9 33 (nx)) 37 (-1)) 36 (0)) 35 (0)) na := ⟨by omega, by omega, by omega, by omega, by omega, by omega, by omega, by omega⟩
              exact z_vret C hr hlk dX10_go_291 (by decide) (by decide) ⟨rfl, rfl, rfl, ⟨_, hgy403, by rw [hat]; exact htk, hFy404⟩, fun j j1 => by rw [egy402, va_up_ne _ _ (by omega)]; rw [egy224, va_up_ne _ _ (by omega)]; rw [egy221, va_up_ne _ _ (by omega)]; rw [egy215, va_up_ne _ _ (by omega)]; exact f3 j j1⟩
          · refine z_aload_n C 0 dX10_go_37 rfl ?_
            refine z_dup C dX10_go_38 rfl ?_
            refine z_get (v := .int (zI (nx))) C (lt_A0 hN rfl) hay3 f2 rfl inA_X10 32 (by decide) q_1491 rfl (fv (F := F9) (f := 32) fx0) dX10_go_39 ?_
            refine z_iconst (z := 1) C dX10_go_42 rfl ?_
            refine z_iadd C dX10_go_43 ?_
            refine z_put (fs' := mF ad (i) (uZ F9 32 (nx + 1))) C (lt_A0 hN rfl) hay3 f2 tyX10 tyX10_ok nmX10 rfl inA_X10 32 (by decide) q_1491 rfl rfl rfl rfl (Nat.le_of_ble_eq_true rfl) rfl dX10_go_44 (fun gy412 egy413 => ?_)
            have hgy414 := up_s egy413
            refine z_goto (tgt := 0) C dX10_go_47 (by decide) ?_
            have hFy415 : ∀ f, f ≠ 32 → (uZ F9 32 (nx + 1)) f = F f := fun f n32 => ((uZ_n _ _ n32).trans (f4 f n32))
            refine z_lv (lv' := [(0, .ref (ad i))]) [0] rfl ?_
            exact ih_lp0 _ (by omega) (nx + 1) (na + 1) _ gy412 rfl hgy414 (fun j j1 => by rw [egy413, va_up_ne _ _ (by omega)]; exact f3 j j1) (uZ_s _ _ _) hFy415 (by omega) ((tk_rn_go (by omega) (decide_eq_true (by omega))).symm.trans hi)
  have hFy416 : ∀ f, f ≠ 32 → F f = F f := fun f n32 => rfl
  refine z_lv (lv' := [(0, .ref (ad i))]) [0] rfl ?_
  exact lp0 _ ((q : Int)) q _ g rfl hg (fun j j1 => by rfl) h32 hFy416 (by omega) rfl

set_option maxRecDepth 100000 in
set_option maxHeartbeats 4000000 in
theorem c_yWants (l : Launch) (D : va_G) (A : Nat → Prop) (cs : Nat → ClassId) (tt : Nat) (N : Nat) (ad : Nat → Nat) (g : Nat → va_E) (i : Nat) (hN : i + 30 ≤ N) (F : Nat → Int) (hg : g i = mC ad i F) (h38 : F 38 = 0) (z : Int) (hz : 0 ≤ z ∧ z ≤ 1) (z1 : Int) (hz1 : 1 ≤ z1 ∧ z1 ≤ 5) : zM l yX10_wants cX10_wants 3 (some .boolean) ({ frames := 1, cells := 0, slots := 0, locals := 60 } : Room) D A cs tt N ad g [.ref (ad i), .int (zI (z)), .int (zI (z1))] (rI0 N ad fun r g' => (∃ F' : Nat → Int, g' i = mC ad i F' ∧ ((r = 1 ∧ z ≠ 0 ∧ F' 38 = 0 ∧ F' 24 = F 24) ∨ (r = 0 ∧ z = 0 ∧ F' 38 = z1 ∧ F' 24 = F 33)) ∧ (∀ f, f ≠ 24 → f ≠ 38 → F' f = F f)) ∧ ∀ j, j ≠ i → g' j = g j) := by
  have hay1 : zAt ad (i) (ad i) := rfl
  refine z_of (by decide) (Nat.le_of_ble_eq_true rfl) ?_
  intro pZ eZ sZ mZ below meth cZ C hr hlk hnm
  refine z_lv (lv' := [(0, .ref (ad i)), (1, .int (zI (z))), (2, .int (zI (z1)))]) [0, 1, 2] rfl ?_
  refine z_aload_n C 0 dX10_wants_0 rfl ?_
  refine z_get (v := .int (zI (0))) C (lt_A0 hN rfl) hay1 hg rfl inA_X10 38 (by decide) q_1497 rfl (fv (F := F) (f := 38) h38) dX10_wants_1 ?_
  refine z_if_ne (tgt := 24) C dX10_wants_4 (by decide) (by omega) (fun h => absurd h (by omega)) (fun _ => ?_)
  refine z_iload_n C 1 dX10_wants_7 rfl ?_
  refine z_if_ne (tgt := 24) C dX10_wants_8 (by decide) (by omega) (fun hby2 => ?_) (fun hby2 => ?_)
  · refine z_aload_n C 0 dX10_wants_24 rfl ?_
    refine z_get (v := .int (zI (0))) C (lt_A0 hN rfl) hay1 hg rfl inA_X10 38 (by decide) q_1497 rfl (fv (F := F) (f := 38) h38) dX10_wants_25 ?_
    refine z_if_ne (tgt := 35) C dX10_wants_28 (by decide) (by omega) (fun h => absurd h (by omega)) (fun _ => ?_)
    refine z_iconst (z := 1) C dX10_wants_31 rfl ?_
    refine z_goto (tgt := 36) C dX10_wants_32 (by decide) ?_
    have hFy3 : ∀ f, f ≠ 24 → f ≠ 38 → F f = F f := fun f n24 n38 => rfl
    have hey4 : F 24 = F 24 := rfl
    have hey5 : F 38 = 0 := h38
    have hey6 : F 33 = F 33 := rfl
    exact z_zret C hr hlk dX10_wants_36 (by decide) (by decide) (by decide) ⟨1, rfl, rfl, rfl, ⟨_, hg, by omega, hFy3⟩, fun j j1 => by rfl⟩
  · refine z_aload_n C 0 dX10_wants_11 rfl ?_
    refine z_iload_n C 2 dX10_wants_12 rfl ?_
    refine z_put (fs' := mF ad (i) (uZ F 38 (z1))) C (lt_A0 hN rfl) hay1 hg tyX10 tyX10_ok nmX10 rfl inA_X10 38 (by decide) q_1497 rfl rfl rfl rfl (Nat.le_of_ble_eq_true rfl) rfl dX10_wants_13 (fun gy7 egy8 => ?_)
    have hgy9 := up_s egy8
    refine z_aload_n C 0 dX10_wants_16 rfl ?_
    refine z_aload_n C 0 dX10_wants_17 rfl ?_
    refine z_get (v := .int (zI (F 33))) C (lt_A0 hN rfl) hay1 hgy9 rfl inA_X10 33 (by decide) q_1492 rfl (fv (F := (uZ F 38 (z1))) (f := 33) (fn rfl (by decide))) dX10_wants_18 ?_
    refine z_put (fs' := mF ad (i) (uZ (uZ F 38 (z1)) 24 (F 33))) C (lt_A0 hN rfl) hay1 hgy9 tyX10 tyX10_ok nmX10 rfl inA_X10 24 (by decide) q_1483 rfl rfl rfl rfl (Nat.le_of_ble_eq_true rfl) rfl dX10_wants_21 (fun gy10 egy11 => ?_)
    have hgy12 := up_s egy11
    refine z_aload_n C 0 dX10_wants_24 rfl ?_
    refine z_get (v := .int (zI (z1))) C (lt_A0 hN rfl) hay1 hgy12 rfl inA_X10 38 (by decide) q_1497 rfl (fv (F := (uZ (uZ F 38 (z1)) 24 (F 33))) (f := 38) (fn (uZ_s _ _ _) (by decide))) dX10_wants_25 ?_
    refine z_if_ne (tgt := 35) C dX10_wants_28 (by decide) (by omega) (fun hby13 => ?_) (fun hby13 => ?_)
    · refine z_iconst (z := 0) C dX10_wants_35 rfl ?_
      have hFy14 : ∀ f, f ≠ 24 → f ≠ 38 → (uZ (uZ F 38 (z1)) 24 (F 33)) f = F f := fun f n24 n38 => ((uZ_n _ _ n24).trans ((uZ_n _ _ n38).trans rfl))
      have hey15 : (uZ (uZ F 38 (z1)) 24 (F 33)) 24 = F 33 := (uZ_s _ _ _)
      have hey16 : (uZ (uZ F 38 (z1)) 24 (F 33)) 38 = z1 := (fn (uZ_s _ _ _) (by decide))
      have hey17 : (uZ (uZ F 38 (z1)) 24 (F 33)) 33 = F 33 := (fn (fn rfl (by decide)) (by decide))
      exact z_zret C hr hlk dX10_wants_36 (by decide) (by decide) (by decide) ⟨0, rfl, rfl, rfl, ⟨_, hgy12, by omega, hFy14⟩, fun j j1 => by rw [egy11, va_up_ne _ _ (by omega)]; rw [egy8, va_up_ne _ _ (by omega)]⟩
    · refine z_iconst (z := 1) C dX10_wants_31 rfl ?_
      refine z_goto (tgt := 36) C dX10_wants_32 (by decide) ?_
      have hFy18 : ∀ f, f ≠ 24 → f ≠ 38 → (uZ (uZ F 38 (z1)) 24 (F 33)) f = F f := fun f n24 n38 => ((uZ_n _ _ n24).trans ((uZ_n _ _ n38).trans rfl))
      have hey19 : (uZ (uZ F 38 (z1)) 24 (F 33)) 24 = F 33 := (uZ_s _ _ _)
      have hey20 : (uZ (uZ F 38 (z1)) 24 (F 33)) 38 = z1 := (fn (uZ_s _ _ _) (by decide))
      have hey21 : (uZ (uZ F 38 (z1)) 24 (F 33)) 33 = F 33 := (fn (fn rfl (by decide)) (by decide))
      exact z_zret C hr hlk dX10_wants_36 (by decide) (by decide) (by decide) ⟨1, rfl, rfl, rfl, ⟨_, hgy12, by omega, hFy18⟩, fun j j1 => by rw [egy11, va_up_ne _ _ (by omega)]; rw [egy8, va_up_ne _ _ (by omega)]⟩

theorem tk_kd_c (T : Nat → Int) (n f : Nat) : (tk_w T n f = 5 ∧ tk_kd T n f = 4) ∨ ((9 ≤ tk_w T n f ∧ tk_w T n f ≤ 12) ∧ tk_kd T n f = tk_w T n f - 9) ∨ (tk_w T n f ≠ 5 ∧ tk_w T n f < 9 ∧ tk_kd T n f = -1) := by
  have h := tk_w_b T n f
  unfold tk_kd
  by_cases h1 : tk_w T n f = 5
  · rw [if_pos h1]; exact Or.inl ⟨h1, rfl⟩
  · rw [if_neg h1]
    by_cases h2 : 9 ≤ tk_w T n f
    · rw [if_pos h2]; exact Or.inr (Or.inl ⟨⟨h2, h.2⟩, rfl⟩)
    · rw [if_neg h2]; exact Or.inr (Or.inr ⟨h1, by omega, rfl⟩)
theorem tk_fa_c (T : Nat → Int) (n f : Nat) : ((3 ≤ tk_w T n f ∧ tk_w T n f ≤ 5) ∧ tk_fa T n f = tk_w T n f - 2) ∨ (¬ (3 ≤ tk_w T n f ∧ tk_w T n f ≤ 5) ∧ tk_fa T n f = 0) := by
  unfold tk_fa
  by_cases h1 : 3 ≤ tk_w T n f ∧ tk_w T n f ≤ 5
  · rw [if_pos h1]; exact Or.inl ⟨h1, rfl⟩
  · rw [if_neg h1]; exact Or.inr ⟨h1, rfl⟩

set_option maxRecDepth 100000 in
set_option maxHeartbeats 4000000 in
theorem c_yNumber (l : Launch) (D : va_G) (A : Nat → Prop) (cs : Nat → ClassId) (tt : Nat) (N : Nat) (ad : Nat → Nat) (g : Nat → va_E) (i : Nat) (hN : i + 30 ≤ N) (F : Nat → Int) (hg : g i = mC ad i F) (tp : Nat → Int) (ha13 : g (i + 13) = iA cs 900 tp) (T : Nat → Int) (n : Nat) (hn : n ≤ 900) (hTb : ∀ k, k < n → 0 ≤ T k ∧ T k ≤ 255) (hTt : ∀ k, k < n → tp k = T k) (htp : ∀ k, k < 900 → 0 ≤ tp k ∧ tp k ≤ 255) (f : Nat) (hk : tkR T n F f) (h38 : F 38 = 0) (z : Int) (hz : 0 ≤ z ∧ z ≤ 9999) (z1 : Int) (hz1 : z ≤ z1 ∧ z1 ≤ 9999) : zM l yX10_number cX10_number 4 (some .int) ({ frames := 4, cells := 0, slots := 0, locals := 240 } : Room) D A cs tt N ad g [.ref (ad i), .int (zI (z)), .int (zI (z1))] (rI0 N ad fun r g' => (∃ F' : Nat → Int, g' i = mC ad i F' ∧ ((tk_nu T n z z1 f = .ok (r, tk_nx T n f) ∧ (z ≤ r ∧ r ≤ z1) ∧ f < n ∧ F' 38 = 0 ∧ F' 24 = F 24 ∧ tkR T n F' (tk_nx T n f)) ∨ (r = z ∧ ∃ c9 : Int, (c9 = 1 ∨ c9 = 2) ∧ tk_nu T n z z1 f = .error (c9, f) ∧ F' 38 = c9 ∧ F' 24 = (f : Int) ∧ tkR T n F' f)) ∧ (∀ f, f ≠ 24 → f ≠ 32 → f ≠ 33 → f ≠ 35 → f ≠ 36 → f ≠ 37 → f ≠ 38 → F' f = F f)) ∧ ∀ j, j ≠ i → g' j = g j) := by
  have hay1 : zAt ad (i) (ad i) := rfl
  have hay2 : zAt ad (i + 13) (ad (i + 13)) := rfl
  have hsry3 := srt_b T n f
  have hvly4 := vlu_b hTb f
  have hwby5 := tk_w_b T n f
  have hfny6 := hk.1
  refine z_of (by decide) (Nat.le_of_ble_eq_true rfl) ?_
  intro pZ eZ sZ mZ below meth cZ C hr hlk hnm
  refine z_lv (lv' := [(0, .ref (ad i)), (1, .int (zI (z))), (2, .int (zI (z1)))]) [0, 1, 2] rfl ?_
  refine z_aload_n C 0 dX10_number_0 rfl ?_
  refine z_aload_n C 0 dX10_number_1 rfl ?_
  refine z_get (v := .int (zI (srt (tk_so T n f)))) C (lt_A0 hN rfl) hay1 hg rfl inA_X10 35 (by decide) q_1494 rfl (fv (F := F) (f := 35) hk.2.2.2.2.1) dX10_number_2 ?_
  refine z_iconst (z := 2) C dX10_number_5 rfl ?_
  refine z_icmp_ne (tgt := 13) C dX10_number_6 (by decide) (by omega) (by omega) (fun hby7 => ?_) (fun hby7 => ?_)
  · have hso9 : tk_so T n f ≠ 2 := fun e9 => by have := srt2.mpr e9; omega
    refine z_iconst (z := 0) C dX10_number_13 rfl ?_
    refine z_iconst (z := 1) C dX10_number_14 rfl ?_
    have h33vy8 : F 33 = (f : Int) := hk.2.2.1
    have h24vy8 : F 24 = F 24 := rfl
    have htvy8 : tkR T n F f := hk
    refine z_cV (As := [.int (zI (0)), .int (zI (1))]) (rest := []) (ci := 12) C (c_yWants l D A cs tt N ad _ i hN _ hg h38 (0) (by omega) (1) (by omega)) (lt_A0 hN rfl) hay1 hg rfl rfl mv_yX10_wants q_1682 hd_yX10_wants (by decide) (Nat.le_of_ble_eq_true rfl) (by decide) dX10_number_15 rfl (kI0 fun vy8 gvy8 hvy8 => ?_)
    obtain ⟨⟨Fvy8, hcvy8, hqvy8, hFvy8⟩, hfvy8⟩ := hvy8
    obtain ⟨rfl, hevy8, hbvy8⟩ : vy8 = 0 ∧ Fvy8 38 = 1 ∧ Fvy8 24 = (f : Int) := by omega
    clear hqvy8 h33vy8 h24vy8
    have hkvy8 : tkR T n Fvy8 f := tkR.w htvy8 hFvy8 (by omega)
    refine z_if_eq (tgt := 38) C dX10_number_18 (by decide) (by omega) (fun _ => ?_) (fun h => absurd h (by omega))
    refine z_iload_n C 1 dX10_number_38 rfl ?_
    have hFy9 : ∀ f, f ≠ 24 → f ≠ 32 → f ≠ 33 → f ≠ 35 → f ≠ 36 → f ≠ 37 → f ≠ 38 → Fvy8 f = F f := fun f n24 n32 n33 n35 n36 n37 n38 => (hFvy8 f n24 n38)
    have hey10 : Fvy8 24 = (f : Int) := hbvy8
    have hey11 : Fvy8 38 = 1 := hevy8
    exact z_iret C hr hlk dX10_number_39 (by decide) (by decide) ⟨z, rfl, rfl, rfl, ⟨_, hcvy8, Or.inr ⟨rfl, 1, Or.inl rfl, by unfold tk_nu; rw [if_pos hso9], by omega, by omega, hkvy8⟩, hFy9⟩, fun j j1 => by rw [hfvy8 _ (by omega)]⟩
  · have hso9 : tk_so T n f = 2 := srt2.mp (by omega)
    refine z_iconst (z := 1) C dX10_number_9 rfl ?_
    refine z_goto (tgt := 14) C dX10_number_10 (by decide) ?_
    refine z_iconst (z := 1) C dX10_number_14 rfl ?_
    have h33vy12 : F 33 = (f : Int) := hk.2.2.1
    have h24vy12 : F 24 = F 24 := rfl
    have htvy12 : tkR T n F f := hk
    refine z_cV (As := [.int (zI (1)), .int (zI (1))]) (rest := []) (ci := 12) C (c_yWants l D A cs tt N ad _ i hN _ hg h38 (1) (by omega) (1) (by omega)) (lt_A0 hN rfl) hay1 hg rfl rfl mv_yX10_wants q_1682 hd_yX10_wants (by decide) (Nat.le_of_ble_eq_true rfl) (by decide) dX10_number_15 rfl (kI0 fun vy12 gvy12 hvy12 => ?_)
    obtain ⟨⟨Fvy12, hcvy12, hqvy12, hFvy12⟩, hfvy12⟩ := hvy12
    obtain ⟨rfl, hevy12, hbvy12⟩ : vy12 = 1 ∧ Fvy12 38 = 0 ∧ Fvy12 24 = F 24 := by omega
    clear hqvy12 h33vy12 h24vy12
    have hkvy12 : tkR T n Fvy12 f := tkR.w htvy12 hFvy12 (by omega)
    refine z_if_eq (tgt := 38) C dX10_number_18 (by decide) (by omega) (fun h => absurd h (by omega)) (fun _ => ?_)
    refine z_aload_n C 0 dX10_number_21 rfl ?_
    refine z_aload_n C 0 dX10_number_22 rfl ?_
    refine z_get (v := .int (zI (vlu T n f))) C (lt_A0 hN rfl) hay1 hcvy12 rfl inA_X10 36 (by decide) q_1495 rfl (fv (F := Fvy12) (f := 36) ((hFvy12 36 (by decide) (by decide)).trans hk.2.2.2.2.2.1)) dX10_number_23 ?_
    refine z_iload_n C 1 dX10_number_26 rfl ?_
    refine z_iload_n C 2 dX10_number_27 rfl ?_
    refine z_cS (As := [.int (zI (vlu T n f)), .int (zI (z)), .int (zI (z1))]) (rest := [.ref (ad i)]) C (c_X10_within l D A cs tt N ad _ (vlu T n f) (by omega) (z) (by omega) (z1) (by omega)) ms_yX10_within q_1690 hd_yX10_within (by decide) (Nat.le_of_ble_eq_true rfl) (by decide) dX10_number_28 rfl (kI0 fun vy13 gvy13 hvy13 => ?_)
    obtain ⟨hvy13, rfl⟩ := hvy13
    rcases hvy13 with ⟨rfl, hxvy13⟩ | ⟨rfl, hxvy13⟩
    · refine z_iconst (z := 2) C dX10_number_31 rfl ?_
      have h33vy14 : Fvy12 33 = (f : Int) := ((hFvy12 33 (by decide) (by decide)).trans hk.2.2.1)
      have h24vy14 : Fvy12 24 = F 24 := hbvy12
      have htvy14 : tkR T n Fvy12 f := hkvy12
      refine z_cV (As := [.int (zI (1)), .int (zI (2))]) (rest := []) (ci := 12) C (c_yWants l D A cs tt N ad _ i hN _ hcvy12 hevy12 (1) (by omega) (2) (by omega)) (lt_A0 hN rfl) hay1 hcvy12 rfl rfl mv_yX10_wants q_1682 hd_yX10_wants (by decide) (Nat.le_of_ble_eq_true rfl) (by decide) dX10_number_32 rfl (kI0 fun vy14 gvy14 hvy14 => ?_)
      obtain ⟨⟨Fvy14, hcvy14, hqvy14, hFvy14⟩, hfvy14⟩ := hvy14
      obtain ⟨rfl, hevy14, hbvy14⟩ : vy14 = 1 ∧ Fvy14 38 = 0 ∧ Fvy14 24 = F 24 := by omega
      clear hqvy14 h33vy14 h24vy14
      have hkvy14 : tkR T n Fvy14 f := tkR.w htvy14 hFvy14 (by omega)
      refine z_if_ne (tgt := 40) C dX10_number_35 (by decide) (by omega) (fun _ => ?_) (fun h => absurd h (by omega))
      refine z_aload_n C 0 dX10_number_40 rfl ?_
      refine z_get (v := .int (zI (vlu T n f))) C (lt_A0 hN rfl) hay1 hcvy14 rfl inA_X10 36 (by decide) q_1495 rfl (fv (F := Fvy14) (f := 36) ((hFvy14 36 (by decide) (by decide)).trans ((hFvy12 36 (by decide) (by decide)).trans hk.2.2.2.2.2.1))) dX10_number_41 ?_
      refine z_istore_n (lv' := [(3, .int (zI (vlu T n f))), (0, .ref (ad i)), (1, .int (zI (z))), (2, .int (zI (z1)))]) C dX10_number_44 rfl (by decide) rfl ?_
      refine z_aload_n C 1 dX10_number_45 rfl ?_
      have hgy15 := (hfvy12 (i + 13) (ne_o (i := i) (c := 13) (d := 0) rfl)).trans ha13
      have hgy16 := (hfvy14 (i + 13) (ne_o (i := i) (c := 13) (d := 0) rfl)).trans hgy15
      have htvy17 : tkR T n Fvy14 f := hkvy14
      refine z_cV (As := []) (rest := []) (ci := 12) C (c_yGo l D A cs tt N ad _ i hN _ hcvy14 _ hgy16 T n hn hTb hTt htp (tk_to T n f) (tk_to_b htvy17.1.1).2.1 htvy17.2.1 htvy17.2.2.2.1 htvy17.2.2.2.2.2.2.2) (lt_A0 hN rfl) hay1 hcvy14 rfl rfl mv_yX10_go q_1656 hd_yX10_go (by decide) (Nat.le_of_ble_eq_true rfl) (by decide) dX10_number_46 rfl (kV0 fun gvy17 hvy17 => ?_)
      obtain ⟨⟨Fvy17, hcvy17, hjvy17, hFvy17⟩, hfvy17⟩ := hvy17
      have hkvy17 : tkR T n Fvy17 (tk_nx T n f) := hjvy17
      have hnbvy17 := tk_nx_w (T := T) (n := n) (f := f) htvy17.1.1
      clear hjvy17
      have hsry18 := srt_b T n (tk_nx T n f)
      have hvly19 := vlu_b hTb (tk_nx T n f)
      have hwby20 := tk_w_b T n (tk_nx T n f)
      have hfny21 := hkvy17.1
      refine z_iload_n C 0 dX10_number_49 rfl ?_
      have hFy22 : ∀ f, f ≠ 24 → f ≠ 32 → f ≠ 33 → f ≠ 35 → f ≠ 36 → f ≠ 37 → f ≠ 38 → Fvy17 f = F f := fun f n24 n32 n33 n35 n36 n37 n38 => ((hFvy17 f n32 n33 n35 n36 n37).trans ((hFvy14 f n24 n38).trans (hFvy12 f n24 n38)))
      have hey23 : Fvy17 24 = F 24 := ((hFvy17 24 (by decide) (by decide) (by decide) (by decide) (by decide)).trans hbvy14)
      have hey24 : Fvy17 38 = 0 := ((hFvy17 38 (by decide) (by decide) (by decide) (by decide) (by decide)).trans hevy14)
      have hnu : tk_nu T n z z1 f = .ok (vlu T n f, tk_nx T n f) := by unfold tk_nu; rw [if_neg (by omega), if_neg (by rw [← vlu2 hso9]; omega), vlu2 hso9]
      exact z_iret C hr hlk dX10_number_50 (by decide) (by decide) ⟨vlu T n f, rfl, rfl, rfl, ⟨_, hcvy17, Or.inl ⟨hnu, by omega, (so_ty (T := T) (n := n) (f := f) (by omega)).1, by omega, by omega, hkvy17⟩, hFy22⟩, fun j j1 => by rw [hfvy17 _ (by omega)]; rw [hfvy14 _ (by omega)]; rw [hfvy12 _ (by omega)]⟩
    · refine z_iconst (z := 2) C dX10_number_31 rfl ?_
      have h33vy25 : Fvy12 33 = (f : Int) := ((hFvy12 33 (by decide) (by decide)).trans hk.2.2.1)
      have h24vy25 : Fvy12 24 = F 24 := hbvy12
      have htvy25 : tkR T n Fvy12 f := hkvy12
      refine z_cV (As := [.int (zI (0)), .int (zI (2))]) (rest := []) (ci := 12) C (c_yWants l D A cs tt N ad _ i hN _ hcvy12 hevy12 (0) (by omega) (2) (by omega)) (lt_A0 hN rfl) hay1 hcvy12 rfl rfl mv_yX10_wants q_1682 hd_yX10_wants (by decide) (Nat.le_of_ble_eq_true rfl) (by decide) dX10_number_32 rfl (kI0 fun vy25 gvy25 hvy25 => ?_)
      obtain ⟨⟨Fvy25, hcvy25, hqvy25, hFvy25⟩, hfvy25⟩ := hvy25
      obtain ⟨rfl, hevy25, hbvy25⟩ : vy25 = 0 ∧ Fvy25 38 = 2 ∧ Fvy25 24 = (f : Int) := by omega
      clear hqvy25 h33vy25 h24vy25
      have hkvy25 : tkR T n Fvy25 f := tkR.w htvy25 hFvy25 (by omega)
      refine z_if_ne (tgt := 40) C dX10_number_35 (by decide) (by omega) (fun h => absurd h (by omega)) (fun _ => ?_)
      refine z_iload_n C 1 dX10_number_38 rfl ?_
      have hFy26 : ∀ f, f ≠ 24 → f ≠ 32 → f ≠ 33 → f ≠ 35 → f ≠ 36 → f ≠ 37 → f ≠ 38 → Fvy25 f = F f := fun f n24 n32 n33 n35 n36 n37 n38 => ((hFvy25 f n24 n38).trans (hFvy12 f n24 n38))
      have hey27 : Fvy25 24 = (f : Int) := hbvy25
      have hey28 : Fvy25 38 = 2 := hevy25
      exact z_iret C hr hlk dX10_number_39 (by decide) (by decide) ⟨z, rfl, rfl, rfl, ⟨_, hcvy25, Or.inr ⟨rfl, 2, Or.inr rfl, by unfold tk_nu; rw [if_neg (by omega), if_pos (by rw [← vlu2 hso9]; omega)], by omega, by omega, hkvy25⟩, hFy26⟩, fun j j1 => by rw [hfvy25 _ (by omega)]; rw [hfvy12 _ (by omega)]⟩

set_option maxRecDepth 100000 in
set_option maxHeartbeats 4000000 in
theorem c_yIs (l : Launch) (D : va_G) (A : Nat → Prop) (cs : Nat → ClassId) (tt : Nat) (N : Nat) (ad : Nat → Nat) (g : Nat → va_E) (i : Nat) (hN : i + 30 ≤ N) (F : Nat → Int) (hg : g i = mC ad i F) (tp : Nat → Int) (T : Nat → Int) (n : Nat) (hn : n ≤ 900) (hTb : ∀ k, k < n → 0 ≤ T k ∧ T k ≤ 255) (hTt : ∀ k, k < n → tp k = T k) (htp : ∀ k, k < 900 → 0 ≤ tp k ∧ tp k ≤ 255) (f : Nat) (hk : tkR T n F f) (h38 : F 38 = 0) (z : Int) (hz : 0 ≤ z ∧ z ≤ 12) : zM l yX10_is cX10_is 2 (some .boolean) ({ frames := 1, cells := 0, slots := 0, locals := 60 } : Room) D A cs tt N ad g [.ref (ad i), .int (zI (z))] (rI0 N ad fun r g' => ((r = 1 ∧ tk_w T n f = z) ∨ (r = 0 ∧ tk_w T n f ≠ z)) ∧ g = g') := by
  have hay1 : zAt ad (i) (ad i) := rfl
  have hsry2 := srt_b T n f
  have hvly3 := vlu_b hTb f
  have hwby4 := tk_w_b T n f
  have hfny5 := hk.1
  refine z_of (by decide) (Nat.le_of_ble_eq_true rfl) ?_
  intro pZ eZ sZ mZ below meth cZ C hr hlk hnm
  refine z_lv (lv' := [(0, .ref (ad i)), (1, .int (zI (z)))]) [0, 1] rfl ?_
  refine z_aload_n C 0 dX10_is_0 rfl ?_
  refine z_get (v := .int (zI (0))) C (lt_A0 hN rfl) hay1 hg rfl inA_X10 38 (by decide) q_1497 rfl (fv (F := F) (f := 38) h38) dX10_is_1 ?_
  refine z_if_ne (tgt := 27) C dX10_is_4 (by decide) (by omega) (fun h => absurd h (by omega)) (fun _ => ?_)
  refine z_aload_n C 0 dX10_is_7 rfl ?_
  refine z_get (v := .int (zI (srt (tk_so T n f)))) C (lt_A0 hN rfl) hay1 hg rfl inA_X10 35 (by decide) q_1494 rfl (fv (F := F) (f := 35) hk.2.2.2.2.1) dX10_is_8 ?_
  refine z_iconst (z := 1) C dX10_is_11 rfl ?_
  refine z_icmp_ne (tgt := 27) C dX10_is_12 (by decide) (by omega) (by omega) (fun hby6 => ?_) (fun hby6 => ?_)
  · refine z_iconst (z := 0) C dX10_is_27 rfl ?_
    have hwl : srt (tk_so T n f) ≠ 1 → tk_w T n f = -1 := fun e9 => tk_w_let (fun e8 => e9 (srt1.mpr e8))
    exact z_zret C hr hlk dX10_is_28 (by decide) (by decide) (by decide) ⟨0, rfl, rfl, rfl, by omega, rfl⟩
  · refine z_aload_n C 0 dX10_is_15 rfl ?_
    refine z_get (v := .int (zI (tk_w T n f))) C (lt_A0 hN rfl) hay1 hg rfl inA_X10 37 (by decide) q_1496 rfl (fv (F := F) (f := 37) hk.2.2.2.2.2.2.1) dX10_is_16 ?_
    refine z_iload_n C 1 dX10_is_19 rfl ?_
    refine z_icmp_ne (tgt := 27) C dX10_is_20 (by decide) (by omega) (by omega) (fun hby7 => ?_) (fun hby7 => ?_)
    · refine z_iconst (z := 0) C dX10_is_27 rfl ?_
      have hwl : srt (tk_so T n f) ≠ 1 → tk_w T n f = -1 := fun e9 => tk_w_let (fun e8 => e9 (srt1.mpr e8))
      exact z_zret C hr hlk dX10_is_28 (by decide) (by decide) (by decide) ⟨0, rfl, rfl, rfl, by omega, rfl⟩
    · refine z_iconst (z := 1) C dX10_is_23 rfl ?_
      refine z_goto (tgt := 28) C dX10_is_24 (by decide) ?_
      have hwl : srt (tk_so T n f) ≠ 1 → tk_w T n f = -1 := fun e9 => tk_w_let (fun e8 => e9 (srt1.mpr e8))
      exact z_zret C hr hlk dX10_is_28 (by decide) (by decide) (by decide) ⟨1, rfl, rfl, rfl, by omega, rfl⟩

set_option maxRecDepth 100000 in
set_option maxHeartbeats 4000000 in
theorem c_yIsKind (l : Launch) (D : va_G) (A : Nat → Prop) (cs : Nat → ClassId) (tt : Nat) (N : Nat) (ad : Nat → Nat) (g : Nat → va_E) (i : Nat) (hN : i + 30 ≤ N) (F : Nat → Int) (hg : g i = mC ad i F) (tp : Nat → Int) (T : Nat → Int) (n : Nat) (hn : n ≤ 900) (hTb : ∀ k, k < n → 0 ≤ T k ∧ T k ≤ 255) (hTt : ∀ k, k < n → tp k = T k) (htp : ∀ k, k < 900 → 0 ≤ tp k ∧ tp k ≤ 255) (f : Nat) (hk : tkR T n F f) : zM l yX10_isKind cX10_isKind 1 (some .boolean) ({ frames := 2, cells := 0, slots := 0, locals := 120 } : Room) D A cs tt N ad g [.ref (ad i)] (rI0 N ad fun r g' => ((r = 1 ∧ tk_kd T n f ≠ -1) ∨ (r = 0 ∧ tk_kd T n f = -1)) ∧ g = g') := by
  have hay1 : zAt ad (i) (ad i) := rfl
  have hsry2 := srt_b T n f
  have hvly3 := vlu_b hTb f
  have hwby4 := tk_w_b T n f
  have hfny5 := hk.1
  refine z_of (by decide) (Nat.le_of_ble_eq_true rfl) ?_
  intro pZ eZ sZ mZ below meth cZ C hr hlk hnm
  refine z_lv (lv' := [(0, .ref (ad i))]) [0] rfl ?_
  refine z_aload_n C 0 dX10_isKind_0 rfl ?_
  refine z_get (v := .int (zI (srt (tk_so T n f)))) C (lt_A0 hN rfl) hay1 hg rfl inA_X10 35 (by decide) q_1494 rfl (fv (F := F) (f := 35) hk.2.2.2.2.1) dX10_isKind_1 ?_
  refine z_iconst (z := 1) C dX10_isKind_4 rfl ?_
  refine z_icmp_ne (tgt := 34) C dX10_isKind_5 (by decide) (by omega) (by omega) (fun hby6 => ?_) (fun hby6 => ?_)
  · refine z_iconst (z := 0) C dX10_isKind_34 rfl ?_
    have hwl : srt (tk_so T n f) ≠ 1 → tk_w T n f = -1 := fun e9 => tk_w_let (fun e8 => e9 (srt1.mpr e8))
    have hkc := tk_kd_c T n f
    exact z_zret C hr hlk dX10_isKind_35 (by decide) (by decide) (by decide) ⟨0, rfl, rfl, rfl, by omega, rfl⟩
  · refine z_aload_n C 0 dX10_isKind_8 rfl ?_
    refine z_get (v := .int (zI (tk_w T n f))) C (lt_A0 hN rfl) hay1 hg rfl inA_X10 37 (by decide) q_1496 rfl (fv (F := F) (f := 37) hk.2.2.2.2.2.2.1) dX10_isKind_9 ?_
    refine z_bipush (z := 9) C dX10_isKind_12 (by decide) ?_
    refine z_bipush (z := 12) C dX10_isKind_14 (by decide) ?_
    refine z_cS (As := [.int (zI (tk_w T n f)), .int (zI (9)), .int (zI (12))]) (rest := []) C (c_X10_within l D A cs tt N ad _ (tk_w T n f) (by omega) (9) (by omega) (12) (by omega)) ms_yX10_within q_1690 hd_yX10_within (by decide) (Nat.le_of_ble_eq_true rfl) (by decide) dX10_isKind_16 rfl (kI0 fun vy7 gvy7 hvy7 => ?_)
    obtain ⟨hvy7, rfl⟩ := hvy7
    rcases hvy7 with ⟨rfl, hxvy7⟩ | ⟨rfl, hxvy7⟩
    · refine z_if_ne (tgt := 30) C dX10_isKind_19 (by decide) (by omega) (fun _ => ?_) (fun h => absurd h (by omega))
      refine z_iconst (z := 1) C dX10_isKind_30 rfl ?_
      refine z_goto (tgt := 35) C dX10_isKind_31 (by decide) ?_
      have hwl : srt (tk_so T n f) ≠ 1 → tk_w T n f = -1 := fun e9 => tk_w_let (fun e8 => e9 (srt1.mpr e8))
      have hkc := tk_kd_c T n f
      exact z_zret C hr hlk dX10_isKind_35 (by decide) (by decide) (by decide) ⟨1, rfl, rfl, rfl, by omega, rfl⟩
    · refine z_if_ne (tgt := 30) C dX10_isKind_19 (by decide) (by omega) (fun h => absurd h (by omega)) (fun _ => ?_)
      refine z_aload_n C 0 dX10_isKind_22 rfl ?_
      refine z_get (v := .int (zI (tk_w T n f))) C (lt_A0 hN rfl) hay1 hg rfl inA_X10 37 (by decide) q_1496 rfl (fv (F := F) (f := 37) hk.2.2.2.2.2.2.1) dX10_isKind_23 ?_
      refine z_iconst (z := 5) C dX10_isKind_26 rfl ?_
      refine z_icmp_ne (tgt := 34) C dX10_isKind_27 (by decide) (by omega) (by omega) (fun hby8 => ?_) (fun hby8 => ?_)
      · refine z_iconst (z := 0) C dX10_isKind_34 rfl ?_
        have hwl : srt (tk_so T n f) ≠ 1 → tk_w T n f = -1 := fun e9 => tk_w_let (fun e8 => e9 (srt1.mpr e8))
        have hkc := tk_kd_c T n f
        exact z_zret C hr hlk dX10_isKind_35 (by decide) (by decide) (by decide) ⟨0, rfl, rfl, rfl, by omega, rfl⟩
      · refine z_iconst (z := 1) C dX10_isKind_30 rfl ?_
        refine z_goto (tgt := 35) C dX10_isKind_31 (by decide) ?_
        have hwl : srt (tk_so T n f) ≠ 1 → tk_w T n f = -1 := fun e9 => tk_w_let (fun e8 => e9 (srt1.mpr e8))
        have hkc := tk_kd_c T n f
        exact z_zret C hr hlk dX10_isKind_35 (by decide) (by decide) (by decide) ⟨1, rfl, rfl, rfl, by omega, rfl⟩

set_option maxRecDepth 100000 in
set_option maxHeartbeats 4000000 in
theorem c_yKindHere (l : Launch) (D : va_G) (A : Nat → Prop) (cs : Nat → ClassId) (tt : Nat) (N : Nat) (ad : Nat → Nat) (g : Nat → va_E) (i : Nat) (hN : i + 30 ≤ N) (F : Nat → Int) (hg : g i = mC ad i F) (tp : Nat → Int) (T : Nat → Int) (n : Nat) (hn : n ≤ 900) (hTb : ∀ k, k < n → 0 ≤ T k ∧ T k ≤ 255) (hTt : ∀ k, k < n → tp k = T k) (htp : ∀ k, k < 900 → 0 ≤ tp k ∧ tp k ≤ 255) (f : Nat) (hk : tkR T n F f) (hkd : tk_kd T n f ≠ -1) : zM l yX10_kindHere cX10_kindHere 1 (some .int) ({ frames := 1, cells := 0, slots := 0, locals := 60 } : Room) D A cs tt N ad g [.ref (ad i)] (rI0 N ad fun r g' => r = tk_kd T n f ∧ g = g') := by
  have hay1 : zAt ad (i) (ad i) := rfl
  have hsry2 := srt_b T n f
  have hvly3 := vlu_b hTb f
  have hwby4 := tk_w_b T n f
  have hfny5 := hk.1
  refine z_of (by decide) (Nat.le_of_ble_eq_true rfl) ?_
  intro pZ eZ sZ mZ below meth cZ C hr hlk hnm
  refine z_lv (lv' := [(0, .ref (ad i))]) [0] rfl ?_
  refine z_aload_n C 0 dX10_kindHere_0 rfl ?_
  refine z_get (v := .int (zI (tk_w T n f))) C (lt_A0 hN rfl) hay1 hg rfl inA_X10 37 (by decide) q_1496 rfl (fv (F := F) (f := 37) hk.2.2.2.2.2.2.1) dX10_kindHere_1 ?_
  refine z_iconst (z := 5) C dX10_kindHere_4 rfl ?_
  refine z_icmp_ne (tgt := 12) C dX10_kindHere_5 (by decide) (by omega) (by omega) (fun hby6 => ?_) (fun hby6 => ?_)
  · refine z_aload_n C 0 dX10_kindHere_12 rfl ?_
    refine z_get (v := .int (zI (tk_w T n f))) C (lt_A0 hN rfl) hay1 hg rfl inA_X10 37 (by decide) q_1496 rfl (fv (F := F) (f := 37) hk.2.2.2.2.2.2.1) dX10_kindHere_13 ?_
    refine z_bipush (z := 9) C dX10_kindHere_16 (by decide) ?_
    refine z_isub C dX10_kindHere_18 ?_
    have hkc := tk_kd_c T n f
    exact z_iret C hr hlk dX10_kindHere_19 (by decide) (by decide) ⟨(tk_w T n f) - 9, rfl, rfl, rfl, by omega, rfl⟩
  · refine z_iconst (z := 4) C dX10_kindHere_8 rfl ?_
    refine z_goto (tgt := 19) C dX10_kindHere_9 (by decide) ?_
    have hkc := tk_kd_c T n f
    exact z_iret C hr hlk dX10_kindHere_19 (by decide) (by decide) ⟨4, rfl, rfl, rfl, by omega, rfl⟩

