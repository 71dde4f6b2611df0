section
-- 86m.yread.lean.txt
def posY (n : Nat) : Int := ([0, 6, 12, 17, 22, 27, 32, 39, 45, 51, 58, 65, 72, 78] : List Int).getD n 0
def endY (n : Nat) : Int := ([5, 11, 16, 21, 26, 31, 38, 44, 50, 57, 64, 71, 77, 78] : List Int).getD n 0
theorem ynP0 : ∀ i : Fin 13, 0 ≤ posY i.val ∧ posY i.val ≤ endY i.val ∧ endY i.val ≤ 77 ∧ posY (i.val + 1) = endY i.val + 1 ∧ endY i.val = posY i.val + ((tk_kw i.val).length : Int) := by decide +kernel
theorem ynP {i : Nat} (h : i < 13) : 0 ≤ posY i ∧ posY i ≤ endY i ∧ endY i ≤ 77 ∧ posY (i + 1) = endY i + 1 ∧ endY i = posY i + ((tk_kw i).length : Int) := ynP0 ⟨i, h⟩
theorem ynQ0 : ∀ (i : Fin 13) (j : Fin 78), posY i.val ≤ (j.val : Int) → (j.val : Int) ≤ endY i.val → ((sq0.2.2.2.getD j.val 0 = 32) ∧ (j.val : Int) = endY i.val) ∨ (sq0.2.2.2.getD j.val 0 = zI ((tk_kw i.val).getD ((j.val : Int) - posY i.val).toNat 0) ∧ (33 ≤ (tk_kw i.val).getD ((j.val : Int) - posY i.val).toNat 0 ∧ (tk_kw i.val).getD ((j.val : Int) - posY i.val).toNat 0 ≤ 127) ∧ (j.val : Int) < endY i.val) := by decide +kernel
theorem ynQ {i d : Nat} {a y : Int} (hi : i < 13) (hd : a = posY i + (d : Int)) (h1 : a ≤ endY i) (e : sq0.2.2.2.getD a.toNat 0 = zI y) (hy : -2147483648 ≤ y ∧ y ≤ 2147483647) : (y = 32 ∧ a = endY i ∧ d = (tk_kw i).length) ∨ (y ≠ 32 ∧ y = (tk_kw i).getD d 0 ∧ a < endY i ∧ d < (tk_kw i).length) := by
  have hp := ynP hi
  have h := ynQ0 ⟨i, hi⟩ ⟨a.toNat, by omega⟩ (by show posY i ≤ ((a.toNat : Nat) : Int); omega) (by show ((a.toNat : Nat) : Int) ≤ endY i; omega)
  have ha : ((a.toNat : Nat) : Int) = a := by omega
  have hd2 : (a - posY i).toNat = d := by omega
  simp only [ha, hd2] at h
  rcases h with ⟨h2, h3⟩ | ⟨h2, h3, h4⟩
  · have e7 : zI y = zI 32 := e.symm.trans h2
    exact Or.inl ⟨(zI_eq hy (by omega)).mp e7, h3, by omega⟩
  · have e7 : zI y = zI ((tk_kw i).getD d 0) := e.symm.trans h2
    have e8 := (zI_eq hy (by omega)).mp e7
    exact Or.inr ⟨by omega, e8, h4, by omega⟩
theorem tk_w_none {T : Nat → Int} {n f : Nat} (h : ∀ i, i < 13 → tk_is T n f (tk_kw i) = false) : tk_w T n f = -1 := by
  unfold tk_w
  rw [if_neg (by rw [h 0 (by decide)]; decide), if_neg (by rw [h 1 (by decide)]; decide), if_neg (by rw [h 2 (by decide)]; decide), if_neg (by rw [h 3 (by decide)]; decide), if_neg (by rw [h 4 (by decide)]; decide), if_neg (by rw [h 5 (by decide)]; decide), if_neg (by rw [h 6 (by decide)]; decide), if_neg (by rw [h 7 (by decide)]; decide), if_neg (by rw [h 8 (by decide)]; decide), if_neg (by rw [h 9 (by decide)]; decide), if_neg (by rw [h 10 (by decide)]; decide), if_neg (by rw [h 11 (by decide)]; decide), if_neg (by rw [h 12 (by decide)]; decide)]
theorem tk_w_let {T : Nat → Int} {n f : Nat} (h : tk_so T n f ≠ 1) : tk_w T n f = -1 := tk_w_none (fun i _ => tk_is_n (fun e => h e.1))
/-- the reference's sorts and values -/
def srt (s : Int) : Int := if s ≤ 2 then s else if s ≤ 4 then 3 else 4
theorem srt_c (s : Int) : (s ≤ 2 ∧ srt s = s) ∨ ((3 ≤ s ∧ s ≤ 4) ∧ srt s = 3) ∨ (5 ≤ s ∧ srt s = 4) := by
  unfold srt
  by_cases h1 : s ≤ 2
  · rw [if_pos h1]; exact Or.inl ⟨h1, rfl⟩
  · rw [if_neg h1]
    by_cases h2 : s ≤ 4
    · rw [if_pos h2]; exact Or.inr (Or.inl ⟨by omega, rfl⟩)
    · rw [if_neg h2]; exact Or.inr (Or.inr ⟨by omega, rfl⟩)
theorem srt_b (T : Nat → Int) (n f : Nat) : 0 ≤ srt (tk_so T n f) ∧ srt (tk_so T n f) ≤ 4 := by
  have h1 := tk_so_b T n f
  have h2 := srt_c (tk_so T n f)
  omega
theorem srt0 {T : Nat → Int} {n f : Nat} : srt (tk_so T n f) = 0 ↔ tk_so T n f = 0 := by
  have h1 := tk_so_b T n f
  have h2 := srt_c (tk_so T n f)
  omega
theorem srt1 {T : Nat → Int} {n f : Nat} : srt (tk_so T n f) = 1 ↔ tk_so T n f = 1 := by
  have h1 := tk_so_b T n f
  have h2 := srt_c (tk_so T n f)
  omega
theorem srt2 {T : Nat → Int} {n f : Nat} : srt (tk_so T n f) = 2 ↔ tk_so T n f = 2 := by
  have h1 := tk_so_b T n f
  have h2 := srt_c (tk_so T n f)
  omega
def vlu (T : Nat → Int) (n f : Nat) : Int := if tk_so T n f = 2 then tk_va T n f else if 3 ≤ tk_so T n f then T f else 0
theorem vlu2 {T : Nat → Int} {n f : Nat} (h : tk_so T n f = 2) : vlu T n f = tk_va T n f := by unfold vlu; rw [if_pos h]
theorem so_ty {T : Nat → Int} {n f : Nat} (h : tk_so T n f ≠ 0) : f < n ∧ tk_so T n f = tk_ty (T f) := by
  have h1 : ¬ n ≤ f := fun e => h (tk_so_0.mpr e)
  refine ⟨by omega, ?_⟩
  unfold tk_so
  rw [if_neg h1]
/-- a sign: ; and - -/
theorem vlu3 {T : Nat → Int} {n f : Nat} (h : srt (tk_so T n f) = 3) (c s : Int) (hc : (c = 59 ∧ s = 3) ∨ (c = 45 ∧ s = 4)) : vlu T n f = c ↔ tk_so T n f = s := by
  have h2 := srt_c (tk_so T n f)
  have h3 : 3 ≤ tk_so T n f ∧ tk_so T n f ≤ 4 := by omega
  have h4 := so_ty (T := T) (n := n) (f := f) (by omega)
  have h5 := tk_ty_c (T f)
  have e : vlu T n f = T f := by unfold vlu; rw [if_neg (by omega), if_pos h3.1]
  rw [e]
  omega
theorem tk_dv_u {T : Nat → Int} {f : Nat} : ∀ k, (∀ j, f ≤ j → j < f + k → 48 ≤ T j ∧ T j ≤ 57) → tk_dv T f k + 1 ≤ ((10 ^ k : Nat) : Int) := by
  intro k
  induction k with
  | zero => intro _; show (0 : Int) + 1 ≤ ((10 ^ 0 : Nat) : Int); decide
  | succ k ih =>
    intro h
    have h1 := ih (fun j a b => h j a (by omega))
    have h2 := h (f + k) (by omega) (by omega)
    show 10 * tk_dv T f k + T (f + k) - 48 + 1 ≤ ((10 ^ (k + 1) : Nat) : Int)
    rw [Nat.pow_succ]
    omega
theorem tk_va_b {T : Nat → Int} {n f : Nat} (h : tk_so T n f = 2) : 0 ≤ tk_va T n f ∧ tk_va T n f ≤ 99999 := by
  unfold tk_va
  by_cases e : tk_to T n f - f ≤ 4
  · rw [if_pos e]
    have hd : ∀ j, f ≤ j → j < f + (tk_to T n f - f) → 48 ≤ T j ∧ T j ≤ 57 := fun j a b => tk_dig h a (by omega)
    have h1 := (tk_dv_m (T := T) (f := f) (m := tk_to T n f - f) hd (tk_to T n f - f) (Nat.le_refl _)).1
    have h2 := tk_dv_u (T := T) (f := f) (tk_to T n f - f) hd
    have h3 : 10 ^ (tk_to T n f - f) ≤ 10 ^ 4 := Nat.pow_le_pow_right (by decide) e
    have h4 : (10 : Nat) ^ 4 = 10000 := by decide
    omega
  · rw [if_neg e]; omega
theorem vlu_b {T : Nat → Int} {n : Nat} (hTb : ∀ k, k < n → 0 ≤ T k ∧ T k ≤ 255) (f : Nat) : 0 ≤ vlu T n f ∧ vlu T n f ≤ 99999 := by
  unfold vlu
  by_cases h1 : tk_so T n f = 2
  · rw [if_pos h1]; exact tk_va_b h1
  · rw [if_neg h1]
    by_cases h2 : 3 ≤ tk_so T n f
    · rw [if_pos h2]
      have h4 := so_ty (T := T) (n := n) (f := f) (by omega)
      have h5 := hTb f h4.1
      omega
    · rw [if_neg h2]; omega
theorem tk_nx_w {T : Nat → Int} {n f : Nat} (h : f ≤ n) : f ≤ tk_nx T n f ∧ tk_nx T n f ≤ n := ⟨(tk_nx_b h).1, (tk_nx_b h).2.1⟩
theorem tk_nx_s {T : Nat → Int} {n f : Nat} (h : f < n) : f < tk_nx T n f ∧ tk_nx T n f ≤ n := ⟨(tk_nx_b (Nat.le_of_lt h)).2.2 h, (tk_nx_b (Nat.le_of_lt h)).2.1⟩
theorem tk_to_w {T : Nat → Int} {n f : Nat} (h : f ≤ n) : f ≤ tk_to T n f ∧ tk_to T n f ≤ n := ⟨(tk_to_b h).1, (tk_to_b h).2.1⟩
theorem tk_to_nx {T : Nat → Int} {n f : Nat} (h : f ≤ n) : tk_to T n f ≤ tk_nx T n f := (tk_at_b (tk_to_b h).2.1).1
/-- the reference looks at the token f -/
def tkR (T : Nat → Int) (n : Nat) (F : Nat → Int) (f : Nat) : Prop := (f ≤ n ∧ n ≤ 900) ∧ F 32 = ((tk_to T n f : Nat) : Int) ∧ F 33 = (f : Int) ∧ F 34 = (n : Int) ∧ F 35 = srt (tk_so T n f) ∧ F 36 = vlu T n f ∧ F 37 = tk_w T n f ∧ (0 ≤ F 38 ∧ F 38 ≤ 5)
theorem tkR.w {T : Nat → Int} {n f : Nat} {F F' : Nat → Int} (h : tkR T n F f) (hF : ∀ k, k ≠ 24 → k ≠ 38 → F' k = F k) (h38 : 0 ≤ F' 38 ∧ F' 38 ≤ 5) : tkR T n F' f := by
  obtain ⟨a, b, c, d, e, k, m, o⟩ := h
  exact ⟨a, (hF 32 (by decide) (by decide)).trans b, (hF 33 (by decide) (by decide)).trans c, (hF 34 (by decide) (by decide)).trans d, (hF 35 (by decide) (by decide)).trans e, (hF 36 (by decide) (by decide)).trans k, (hF 37 (by decide) (by decide)).trans m, h38⟩
theorem tkR.put {T : Nat → Int} {n f : Nat} {F : Nat → Int} {k : Nat} {v : Int} (h : tkR T n F f) (hk : k < 32 ∨ 38 < k) : tkR T n (uZ F k v) f := by
  obtain ⟨a, b, c, d, e, q, m, o⟩ := h
  exact ⟨a, (uZ_n _ _ (by omega)).trans b, (uZ_n _ _ (by omega)).trans c, (uZ_n _ _ (by omega)).trans d, (uZ_n _ _ (by omega)).trans e, (uZ_n _ _ (by omega)).trans q, (uZ_n _ _ (by omega)).trans m, by rw [uZ_n _ _ (by omega)]; exact o⟩
theorem tkR.rd {T : Nat → Int} {n f : Nat} {F : Nat → Int} (h : tkR T n F f) (hTb : ∀ k, k < n → 0 ≤ T k ∧ T k ≤ 255) : RD F := by
  obtain ⟨a, b, c, d, e, q, m, o⟩ := h
  have h1 := tk_to_b (T := T) (n := n) (f := f) a.1
  have h2 := srt_b T n f
  have h3 := vlu_b hTb f
  have h4 := tk_w_b T n f
  unfold RD
  rw [b, c, d, e, q, m]
  omega

set_option maxRecDepth 100000 in
set_option maxHeartbeats 4000000 in
theorem c_yWord (l : Launch) (D : va_G) (A : Nat → Prop) (cs : Nat → ClassId) (tt : Nat) (N : Nat) (ad : Nat → Nat) (g : Nat → va_E) (i : Nat) (hN : i + 30 ≤ N) (F : Nat → Int) (hg : g i = mC ad i F) (tp : Nat → Int) (ha13 : g (i + 13) = iA cs 900 tp) (T : Nat → Int) (n : Nat) (hn : n ≤ 900) (hTb : ∀ k, k < n → 0 ≤ T k ∧ T k ≤ 255) (hTt : ∀ k, k < n → tp k = T k) (htp : ∀ k, k < 900 → 0 ≤ tp k ∧ tp k ≤ 255) (h34 : F 34 = (n : Int)) (f : Nat) (hf : f < n) (hso : tk_so T n f = 1) : zM l yX10_wordFrom cX10_wordFrom 7 (some .int) ({ frames := 2, cells := 0, slots := 0, locals := 120 } : Room) D A cs tt N ad g [.ref (ad i), .int (zI ((f : Int))), .int (zI (((tk_to T n f : Nat) : Int)))] (rI0 N ad fun r g' => r = tk_w T n f ∧ g = g') := by
  have hay1 : zAt ad (i) (ad i) := rfl
  have hay2 : zAt ad (i + 13) (ad (i + 13)) := rfl
  have htb := tk_to_b (T := T) (n := n) (f := f) (by omega)
  refine z_of (by decide) (Nat.le_of_ble_eq_true rfl) ?_
  intro pZ eZ sZ mZ below meth cZ C hr hlk hnm
  refine z_lv (lv' := [(0, .ref (ad i)), (1, .int (zI ((f : Int)))), (2, .int (zI (((tk_to T n f : Nat) : Int))))]) [0, 1, 2] rfl ?_
  have lp : ∀ (n9 : Nat) (wh9 : Int) (k9 : Int) (so : Int) (ii : Int) (ni : Nat) (d : Nat) (g1 : Nat → va_E), (78 - ii).toNat = n9 → (g1 = g) → ((0 ≤ wh9 ∧ wh9 = (ni : Int)) ∧ k9 = (f : Int) + (d : Int) ∧ ni ≤ 13 ∧ (0 ≤ ii ∧ ii ≤ 78 ∧ ii = posY ni + (d : Int)) ∧ ii ≤ endY ni) → ((so = 1 ∧ f + d ≤ tk_to T n f ∧ ∀ j, j < d → T (f + j) = (tk_kw ni).getD j 0) ∨ (so = 0 ∧ tk_is T n f (tk_kw ni) = false)) → (∀ i, i < ni → tk_is T n f (tk_kw i) = false) → zV pZ l eZ ({ frames := 2, cells := 0, slots := 0, locals := 120 } : Room) sZ mZ ([.ref (ad i), .int (zI ((f : Int))), .int (zI (((tk_to T n f : Nat) : Int)))] : List Value).toArray below meth cZ (MQ below (zPost D A (rI0 N ad fun r g' => r = tk_w T n f ∧ g = g')) ([.ref (ad i), .int (zI ((f : Int))), .int (zI (((tk_to T n f : Nat) : Int)))] : List Value).toArray sZ ({ frames := 2, cells := 0, slots := 0, locals := 120 } : Room).cells ({ frames := 2, cells := 0, slots := 0, locals := 120 } : Room).slots A) D A 7 (N) ad g1 (0) (0) 11 [(0, .ref (ad i)), (1, .int (zI ((f : Int)))), (2, .int (zI (((tk_to T n f : Nat) : Int)))), (3, .int (zI (wh9))), (4, .int (zI (k9))), (5, .int (zI (so))), (6, .int (zI (ii)))] [] := by
    intro n9
    induction n9 using Nat.strongRecOn with
    | ind n9 ih =>
      intro wh9 k9 so ii ni d g1 hm9 hg1 hv1 hv2 hv3
      subst hg1
      have hP13 : ni < 13 → endY ni ≤ 77 := fun e9 => (ynP e9).2.2.1
      have hp13 : posY 13 = 78 := rfl
      have hp14 : ni < 13 → endY ni = posY ni + ((tk_kw ni).length : Int) ∧ posY (ni + 1) = endY ni + 1 := fun e9 => ⟨(ynP e9).2.2.2.2, (ynP e9).2.2.2.1⟩
      have hd9 : d ≤ 20 ∨ True := Or.inr trivial
      refine z_iload C 6 dX10_wordFrom_11 rfl ?_
      refine z_getSt C stm0 q_1667 dX10_wordFrom_13 ?_
      refine z_stlen (L := 78) C stm0 stl0 dX10_wordFrom_16 ?_
      refine z_icmp_ge (tgt := 98) C dX10_wordFrom_17 (by decide) (by omega) (by omega) (fun hby3 => ?_) (fun hby3 => ?_)
      · have hn13 : ni = 13 := by
          by_cases e9 : ni < 13
          · have := hP13 e9; omega
          · omega
        clear hP13 hp14
        refine z_iconst (z := -1) C dX10_wordFrom_98 rfl ?_
        have hall : tk_w T n f = -1 := tk_w_none (fun i hi => hv3 i (by have := hn13; omega))
        exact z_iret C hr hlk dX10_wordFrom_99 (by decide) (by decide) ⟨-1, rfl, rfl, rfl, hall.symm, rfl⟩
      · have hn12 : ni < 13 := by
          by_cases e9 : ni = 13
          · exfalso; subst e9; omega
          · omega
        have hq14 := hp14 hn12
        have hq77 := hP13 hn12
        clear hP13 hp14
        refine z_getSt C stm0 q_1667 dX10_wordFrom_20 ?_
        refine z_iload C 6 dX10_wordFrom_23 rfl ?_
        obtain ⟨yy4, eyy4, hyy4⟩ := zI_of (sq0.2.2.2.getD ((ii).toNat) 0)
        have hkyy4 := ynQ (i := ni) (d := d) (by omega) (a := ii) (by omega) (by omega) eyy4 hyy4
        refine z_stbald (y := yy4) C stm0 ((ii).toNat) (by omega) (by rw [stl0]; omega) (by rw [stl0]; decide) eyy4 dX10_wordFrom_25 ?_
        refine z_bipush (z := 32) C dX10_wordFrom_26 (by decide) ?_
        refine z_icmp_ne (tgt := 56) C dX10_wordFrom_28 (by decide) (by omega) (by omega) (fun hby5 => ?_) (fun hby5 => ?_)
        · refine z_iload C 5 dX10_wordFrom_56 rfl ?_
          refine z_if_eq (tgt := 86) C dX10_wordFrom_58 (by decide) (by omega) (fun hby6 => ?_) (fun hby6 => ?_)
          · refine z_iconst (z := 0) C dX10_wordFrom_86 rfl ?_
            refine z_istore (lv' := [(5, .int (zI (0))), (0, .ref (ad i)), (1, .int (zI ((f : Int)))), (2, .int (zI (((tk_to T n f : Nat) : Int)))), (3, .int (zI (wh9))), (4, .int (zI (k9))), (6, .int (zI (ii)))]) C dX10_wordFrom_87 (by decide) rfl ?_
            refine z_iinc (z := k9 + 1) (lv' := [(4, .int (zI (k9 + 1))), (5, .int (zI (0))), (0, .ref (ad i)), (1, .int (zI ((f : Int)))), (2, .int (zI (((tk_to T n f : Nat) : Int)))), (3, .int (zI (wh9))), (6, .int (zI (ii)))]) (j := 5) C dX10_wordFrom_89 rfl rfl (by decide) rfl ?_
            refine z_iinc (z := ii + 1) (lv' := [(6, .int (zI (ii + 1))), (4, .int (zI (k9 + 1))), (5, .int (zI (0))), (0, .ref (ad i)), (1, .int (zI ((f : Int)))), (2, .int (zI (((tk_to T n f : Nat) : Int)))), (3, .int (zI (wh9)))]) (j := 6) C dX10_wordFrom_92 rfl rfl (by decide) rfl ?_
            refine z_goto (tgt := 11) C dX10_wordFrom_95 (by decide) ?_
            refine z_lv (lv' := [(0, .ref (ad i)), (1, .int (zI ((f : Int)))), (2, .int (zI (((tk_to T n f : Nat) : Int)))), (3, .int (zI (wh9))), (4, .int (zI (k9 + 1))), (5, .int (zI (0))), (6, .int (zI (ii + 1)))]) [3, 4, 5, 6, 1, 2, 0] rfl ?_
            exact ih _ (by omega) (wh9) (k9 + 1) (0) (ii + 1) ni (d + 1) _ rfl rfl ⟨by omega, by omega, by omega, by omega, by omega⟩ (by
                refine Or.inr ⟨by omega, ?_⟩
                rcases hv2 with ⟨e1, e2, e3⟩ | ⟨e1, e2⟩
                · refine tk_is_n (fun e9 => ?_)
                  have e8 := e9.2.1
                  have e7 := e9.2.2 d (by omega)
                  omega
                · exact e2) hv3
          · refine z_iload C 4 dX10_wordFrom_61 rfl ?_
            refine z_iload_n C 2 dX10_wordFrom_63 rfl ?_
            refine z_icmp_ge (tgt := 86) C dX10_wordFrom_64 (by decide) (by omega) (by omega) (fun hby7 => ?_) (fun hby7 => ?_)
            · refine z_iconst (z := 0) C dX10_wordFrom_86 rfl ?_
              refine z_istore (lv' := [(5, .int (zI (0))), (0, .ref (ad i)), (1, .int (zI ((f : Int)))), (2, .int (zI (((tk_to T n f : Nat) : Int)))), (3, .int (zI (wh9))), (4, .int (zI (k9))), (6, .int (zI (ii)))]) C dX10_wordFrom_87 (by decide) rfl ?_
              refine z_iinc (z := k9 + 1) (lv' := [(4, .int (zI (k9 + 1))), (5, .int (zI (0))), (0, .ref (ad i)), (1, .int (zI ((f : Int)))), (2, .int (zI (((tk_to T n f : Nat) : Int)))), (3, .int (zI (wh9))), (6, .int (zI (ii)))]) (j := 5) C dX10_wordFrom_89 rfl rfl (by decide) rfl ?_
              refine z_iinc (z := ii + 1) (lv' := [(6, .int (zI (ii + 1))), (4, .int (zI (k9 + 1))), (5, .int (zI (0))), (0, .ref (ad i)), (1, .int (zI ((f : Int)))), (2, .int (zI (((tk_to T n f : Nat) : Int)))), (3, .int (zI (wh9)))]) (j := 6) C dX10_wordFrom_92 rfl rfl (by decide) rfl ?_
              refine z_goto (tgt := 11) C dX10_wordFrom_95 (by decide) ?_
              refine z_lv (lv' := [(0, .ref (ad i)), (1, .int (zI ((f : Int)))), (2, .int (zI (((tk_to T n f : Nat) : Int)))), (3, .int (zI (wh9))), (4, .int (zI (k9 + 1))), (5, .int (zI (0))), (6, .int (zI (ii + 1)))]) [3, 4, 5, 6, 1, 2, 0] rfl ?_
              exact ih _ (by omega) (wh9) (k9 + 1) (0) (ii + 1) ni (d + 1) _ rfl rfl ⟨by omega, by omega, by omega, by omega, by omega⟩ (by
                  refine Or.inr ⟨by omega, ?_⟩
                  rcases hv2 with ⟨e1, e2, e3⟩ | ⟨e1, e2⟩
                  · refine tk_is_n (fun e9 => ?_)
                    have e8 := e9.2.1
                    have e7 := e9.2.2 d (by omega)
                    omega
                  · exact e2) hv3
            · refine z_aload_n C 0 dX10_wordFrom_67 rfl ?_
              refine z_iload C 4 dX10_wordFrom_68 rfl ?_
              have h34y9 : F 34 = (n : Int) := h34
              refine z_cV (As := [.int (zI (k9))]) (rest := []) (ci := 12) C (c_X10_byteAt l D A cs tt N ad _ i hN _ hg _ ha13 htp (by omega) (k9) (by omega)) (lt_A0 hN rfl) hay1 hg rfl rfl mv_yX10_byteAt q_1656 hd_yX10_byteAt (by decide) (Nat.le_of_ble_eq_true rfl) (by decide) dX10_wordFrom_70 rfl (kI0 fun vy8 gvy8 hvy8 => ?_)
              rw [h34y9] at hvy8
              clear h34y9
              obtain ⟨hrvy8, hpvy8, rfl⟩ := hvy8
              have hqvy8 : (k9 < (n : Int) ∧ vy8 = T (k9).toNat) ∨ ((n : Int) ≤ k9 ∧ vy8 = 0) := by
                rcases hpvy8 with ⟨a9, b9⟩ | ⟨a9, b9⟩
                · exact Or.inl ⟨a9, b9.trans (hTt _ (by omega))⟩
                · exact Or.inr ⟨a9, b9⟩
              clear hpvy8
              refine z_getSt C stm0 q_1667 dX10_wordFrom_73 ?_
              refine z_iload C 6 dX10_wordFrom_76 rfl ?_
              obtain ⟨yy10, eyy10, hyy10⟩ := zI_of (sq0.2.2.2.getD ((ii).toNat) 0)
              have hkyy10 := ynQ (i := ni) (d := d) (by omega) (a := ii) (by omega) (by omega) eyy10 hyy10
              refine z_stbald (y := yy10) C stm0 ((ii).toNat) (by omega) (by rw [stl0]; omega) (by rw [stl0]; decide) eyy10 dX10_wordFrom_78 ?_
              refine z_icmp_ne (tgt := 86) C dX10_wordFrom_79 (by decide) (by omega) (by omega) (fun hby11 => ?_) (fun hby11 => ?_)
              · refine z_iconst (z := 0) C dX10_wordFrom_86 rfl ?_
                refine z_istore (lv' := [(5, .int (zI (0))), (0, .ref (ad i)), (1, .int (zI ((f : Int)))), (2, .int (zI (((tk_to T n f : Nat) : Int)))), (3, .int (zI (wh9))), (4, .int (zI (k9))), (6, .int (zI (ii)))]) C dX10_wordFrom_87 (by decide) rfl ?_
                refine z_iinc (z := k9 + 1) (lv' := [(4, .int (zI (k9 + 1))), (5, .int (zI (0))), (0, .ref (ad i)), (1, .int (zI ((f : Int)))), (2, .int (zI (((tk_to T n f : Nat) : Int)))), (3, .int (zI (wh9))), (6, .int (zI (ii)))]) (j := 5) C dX10_wordFrom_89 rfl rfl (by decide) rfl ?_
                refine z_iinc (z := ii + 1) (lv' := [(6, .int (zI (ii + 1))), (4, .int (zI (k9 + 1))), (5, .int (zI (0))), (0, .ref (ad i)), (1, .int (zI ((f : Int)))), (2, .int (zI (((tk_to T n f : Nat) : Int)))), (3, .int (zI (wh9)))]) (j := 6) C dX10_wordFrom_92 rfl rfl (by decide) rfl ?_
                refine z_goto (tgt := 11) C dX10_wordFrom_95 (by decide) ?_
                refine z_lv (lv' := [(0, .ref (ad i)), (1, .int (zI ((f : Int)))), (2, .int (zI (((tk_to T n f : Nat) : Int)))), (3, .int (zI (wh9))), (4, .int (zI (k9 + 1))), (5, .int (zI (0))), (6, .int (zI (ii + 1)))]) [3, 4, 5, 6, 1, 2, 0] rfl ?_
                exact ih _ (by omega) (wh9) (k9 + 1) (0) (ii + 1) ni (d + 1) _ rfl rfl ⟨by omega, by omega, by omega, by omega, by omega⟩ (by
                    refine Or.inr ⟨by omega, ?_⟩
                    rcases hv2 with ⟨e1, e2, e3⟩ | ⟨e1, e2⟩
                    · refine tk_is_n (fun e9 => ?_)
                      have e8 := e9.2.1
                      have e7 := e9.2.2 d (by omega)
                      rw [show f + d = (k9).toNat by omega] at e7
                      omega
                    · exact e2) hv3
              · refine z_iconst (z := 1) C dX10_wordFrom_82 rfl ?_
                refine z_goto (tgt := 87) C dX10_wordFrom_83 (by decide) ?_
                refine z_istore (lv' := [(5, .int (zI (1))), (0, .ref (ad i)), (1, .int (zI ((f : Int)))), (2, .int (zI (((tk_to T n f : Nat) : Int)))), (3, .int (zI (wh9))), (4, .int (zI (k9))), (6, .int (zI (ii)))]) C dX10_wordFrom_87 (by decide) rfl ?_
                refine z_iinc (z := k9 + 1) (lv' := [(4, .int (zI (k9 + 1))), (5, .int (zI (1))), (0, .ref (ad i)), (1, .int (zI ((f : Int)))), (2, .int (zI (((tk_to T n f : Nat) : Int)))), (3, .int (zI (wh9))), (6, .int (zI (ii)))]) (j := 5) C dX10_wordFrom_89 rfl rfl (by decide) rfl ?_
                refine z_iinc (z := ii + 1) (lv' := [(6, .int (zI (ii + 1))), (4, .int (zI (k9 + 1))), (5, .int (zI (1))), (0, .ref (ad i)), (1, .int (zI ((f : Int)))), (2, .int (zI (((tk_to T n f : Nat) : Int)))), (3, .int (zI (wh9)))]) (j := 6) C dX10_wordFrom_92 rfl rfl (by decide) rfl ?_
                refine z_goto (tgt := 11) C dX10_wordFrom_95 (by decide) ?_
                refine z_lv (lv' := [(0, .ref (ad i)), (1, .int (zI ((f : Int)))), (2, .int (zI (((tk_to T n f : Nat) : Int)))), (3, .int (zI (wh9))), (4, .int (zI (k9 + 1))), (5, .int (zI (1))), (6, .int (zI (ii + 1)))]) [3, 4, 5, 6, 1, 2, 0] rfl ?_
                exact ih _ (by omega) (wh9) (k9 + 1) (1) (ii + 1) ni (d + 1) _ rfl rfl ⟨by omega, by omega, by omega, by omega, by omega⟩ (by
                    rcases hv2 with ⟨e1, e2, e3⟩ | ⟨e1, e2⟩
                    · refine Or.inl ⟨rfl, by omega, fun j hj => ?_⟩
                      by_cases e9 : j = d
                      · have e8 : T (f + j) = (tk_kw ni).getD d 0 := by rw [show f + j = (k9).toNat by omega]; omega
                        rw [e8, e9]
                      · exact e3 j (by omega)
                    · exfalso; omega) hv3
        · refine z_iload C 5 dX10_wordFrom_31 rfl ?_
          refine z_if_eq (tgt := 44) C dX10_wordFrom_33 (by decide) (by omega) (fun hby12 => ?_) (fun hby12 => ?_)
          · refine z_iinc (z := wh9 + 1) (lv' := [(3, .int (zI (wh9 + 1))), (0, .ref (ad i)), (1, .int (zI ((f : Int)))), (2, .int (zI (((tk_to T n f : Nat) : Int)))), (4, .int (zI (k9))), (5, .int (zI (so))), (6, .int (zI (ii)))]) (j := 3) C dX10_wordFrom_44 rfl rfl (by decide) rfl ?_
            refine z_iload_n C 2 dX10_wordFrom_47 rfl ?_
            refine z_istore (lv' := [(4, .int (zI ((f : Int)))), (3, .int (zI (wh9 + 1))), (0, .ref (ad i)), (1, .int (zI ((f : Int)))), (2, .int (zI (((tk_to T n f : Nat) : Int)))), (5, .int (zI (so))), (6, .int (zI (ii)))]) C dX10_wordFrom_48 (by decide) rfl ?_
            refine z_iconst (z := 1) C dX10_wordFrom_50 rfl ?_
            refine z_istore (lv' := [(5, .int (zI (1))), (4, .int (zI ((f : Int)))), (3, .int (zI (wh9 + 1))), (0, .ref (ad i)), (1, .int (zI ((f : Int)))), (2, .int (zI (((tk_to T n f : Nat) : Int)))), (6, .int (zI (ii)))]) C dX10_wordFrom_51 (by decide) rfl ?_
            refine z_goto (tgt := 92) C dX10_wordFrom_53 (by decide) ?_
            refine z_iinc (z := ii + 1) (lv' := [(6, .int (zI (ii + 1))), (5, .int (zI (1))), (4, .int (zI ((f : Int)))), (3, .int (zI (wh9 + 1))), (0, .ref (ad i)), (1, .int (zI ((f : Int)))), (2, .int (zI (((tk_to T n f : Nat) : Int))))]) (j := 6) C dX10_wordFrom_92 rfl rfl (by decide) rfl ?_
            refine z_goto (tgt := 11) C dX10_wordFrom_95 (by decide) ?_
            refine z_lv (lv' := [(0, .ref (ad i)), (1, .int (zI ((f : Int)))), (2, .int (zI (((tk_to T n f : Nat) : Int)))), (3, .int (zI (wh9 + 1))), (4, .int (zI ((f : Int)))), (5, .int (zI (1))), (6, .int (zI (ii + 1)))]) [4, 5, 6, 3, 2, 1, 0] rfl ?_
            have hno : tk_is T n f (tk_kw ni) = false := by
              rcases hv2 with ⟨e1, e2, e3⟩ | ⟨e1, e2⟩
              · exact tk_is_n (fun e9 => by have e8 := e9.2.1; omega)
              · exact e2
            exact ih _ (by omega) (wh9 + 1) ((f : Int)) (1) (ii + 1) (ni + 1) 0 _ rfl rfl ⟨by omega, by omega, by omega, by omega, by by_cases e9 : ni + 1 < 13; (have hp9 := ynP e9; omega); (have e8 : ni = 12 := by omega); (subst e8; have e7 : posY (12 + 1) = 78 := rfl; have e6 : endY (12 + 1) = 78 := rfl; omega)⟩ (Or.inl ⟨by omega, by omega, fun j hj => absurd hj (by omega)⟩) (fun i hi => by by_cases e9 : i = ni; (rw [e9]; exact hno); exact hv3 i (by omega))
          · refine z_iload C 4 dX10_wordFrom_36 rfl ?_
            refine z_iload_n C 2 dX10_wordFrom_38 rfl ?_
            refine z_icmp_ne (tgt := 44) C dX10_wordFrom_39 (by decide) (by omega) (by omega) (fun hby13 => ?_) (fun hby13 => ?_)
            · refine z_iinc (z := wh9 + 1) (lv' := [(3, .int (zI (wh9 + 1))), (0, .ref (ad i)), (1, .int (zI ((f : Int)))), (2, .int (zI (((tk_to T n f : Nat) : Int)))), (4, .int (zI (k9))), (5, .int (zI (so))), (6, .int (zI (ii)))]) (j := 3) C dX10_wordFrom_44 rfl rfl (by decide) rfl ?_
              refine z_iload_n C 2 dX10_wordFrom_47 rfl ?_
              refine z_istore (lv' := [(4, .int (zI ((f : Int)))), (3, .int (zI (wh9 + 1))), (0, .ref (ad i)), (1, .int (zI ((f : Int)))), (2, .int (zI (((tk_to T n f : Nat) : Int)))), (5, .int (zI (so))), (6, .int (zI (ii)))]) C dX10_wordFrom_48 (by decide) rfl ?_
              refine z_iconst (z := 1) C dX10_wordFrom_50 rfl ?_
              refine z_istore (lv' := [(5, .int (zI (1))), (4, .int (zI ((f : Int)))), (3, .int (zI (wh9 + 1))), (0, .ref (ad i)), (1, .int (zI ((f : Int)))), (2, .int (zI (((tk_to T n f : Nat) : Int)))), (6, .int (zI (ii)))]) C dX10_wordFrom_51 (by decide) rfl ?_
              refine z_goto (tgt := 92) C dX10_wordFrom_53 (by decide) ?_
              refine z_iinc (z := ii + 1) (lv' := [(6, .int (zI (ii + 1))), (5, .int (zI (1))), (4, .int (zI ((f : Int)))), (3, .int (zI (wh9 + 1))), (0, .ref (ad i)), (1, .int (zI ((f : Int)))), (2, .int (zI (((tk_to T n f : Nat) : Int))))]) (j := 6) C dX10_wordFrom_92 rfl rfl (by decide) rfl ?_
              refine z_goto (tgt := 11) C dX10_wordFrom_95 (by decide) ?_
              refine z_lv (lv' := [(0, .ref (ad i)), (1, .int (zI ((f : Int)))), (2, .int (zI (((tk_to T n f : Nat) : Int)))), (3, .int (zI (wh9 + 1))), (4, .int (zI ((f : Int)))), (5, .int (zI (1))), (6, .int (zI (ii + 1)))]) [4, 5, 6, 3, 2, 1, 0] rfl ?_
              have hno : tk_is T n f (tk_kw ni) = false := by
                rcases hv2 with ⟨e1, e2, e3⟩ | ⟨e1, e2⟩
                · exact tk_is_n (fun e9 => by have e8 := e9.2.1; omega)
                · exact e2
              exact ih _ (by omega) (wh9 + 1) ((f : Int)) (1) (ii + 1) (ni + 1) 0 _ rfl rfl ⟨by omega, by omega, by omega, by omega, by by_cases e9 : ni + 1 < 13; (have hp9 := ynP e9; omega); (have e8 : ni = 12 := by omega); (subst e8; have e7 : posY (12 + 1) = 78 := rfl; have e6 : endY (12 + 1) = 78 := rfl; omega)⟩ (Or.inl ⟨by omega, by omega, fun j hj => absurd hj (by omega)⟩) (fun i hi => by by_cases e9 : i = ni; (rw [e9]; exact hno); exact hv3 i (by omega))
            · refine z_iload_n C 3 dX10_wordFrom_42 rfl ?_
              have hyes : tk_w T n f = (ni : Int) := by
                rcases hv2 with ⟨e1, e2, e3⟩ | ⟨e1, e2⟩
                · exact (tk_w_is ni (by omega)).mp (tk_is_c.mpr ⟨hso, by omega, fun j hj => e3 j (by omega)⟩)
                · exfalso; omega
              exact z_iret C hr hlk dX10_wordFrom_43 (by decide) (by decide) ⟨wh9, rfl, rfl, rfl, by omega, rfl⟩
  refine z_iconst (z := 0) C dX10_wordFrom_0 rfl ?_
  refine z_istore_n (lv' := [(3, .int (zI (0))), (0, .ref (ad i)), (1, .int (zI ((f : Int)))), (2, .int (zI (((tk_to T n f : Nat) : Int))))]) C dX10_wordFrom_1 rfl (by decide) rfl ?_
  refine z_iload_n C 2 dX10_wordFrom_2 rfl ?_
  refine z_istore (lv' := [(4, .int (zI ((f : Int)))), (3, .int (zI (0))), (0, .ref (ad i)), (1, .int (zI ((f : Int)))), (2, .int (zI (((tk_to T n f : Nat) : Int))))]) C dX10_wordFrom_3 (by decide) rfl ?_
  refine z_iconst (z := 1) C dX10_wordFrom_5 rfl ?_
  refine z_istore (lv' := [(5, .int (zI (1))), (4, .int (zI ((f : Int)))), (3, .int (zI (0))), (0, .ref (ad i)), (1, .int (zI ((f : Int)))), (2, .int (zI (((tk_to T n f : Nat) : Int))))]) C dX10_wordFrom_6 (by decide) rfl ?_
  refine z_iconst (z := 0) C dX10_wordFrom_8 rfl ?_
  refine z_istore (lv' := [(6, .int (zI (0))), (5, .int (zI (1))), (4, .int (zI ((f : Int)))), (3, .int (zI (0))), (0, .ref (ad i)), (1, .int (zI ((f : Int)))), (2, .int (zI (((tk_to T n f : Nat) : Int))))]) C dX10_wordFrom_9 (by decide) rfl ?_
  refine z_lv (lv' := [(0, .ref (ad i)), (1, .int (zI ((f : Int)))), (2, .int (zI (((tk_to T n f : Nat) : Int)))), (3, .int (zI (0))), (4, .int (zI ((f : Int)))), (5, .int (zI (1))), (6, .int (zI (0)))]) [4, 5, 6, 3, 2, 1, 0] rfl ?_
  exact lp _ (0) ((f : Int)) (1) (0) 0 0 _ rfl rfl ⟨by omega, by omega, by omega, ⟨by omega, by omega, by show (0 : Int) = 0 + 0; rfl⟩, by decide⟩ (Or.inl ⟨rfl, by omega, fun j hj => absurd hj (by omega)⟩) (fun i hi => absurd hi (by omega))

set_option maxRecDepth 100000 in
set_option maxHeartbeats 4000000 in
theorem c_yGo (l : Launch) (D : va_G) (A : Nat → Prop) (cs : Nat → ClassId) (tt : Nat) (N : Nat) (ad : Nat → Nat) (g : Nat → va_E) (i : Nat) (hN : i + 30 ≤ N) (F : Nat → Int) (hg : g i = mC ad i F) (tp : Nat → Int) (ha13 : g (i + 13) = iA cs 900 tp) (T : Nat → Int) (n : Nat) (hn : n ≤ 900) (hTb : ∀ k, k < n → 0 ≤ T k ∧ T k ≤ 255) (hTt : ∀ k, k < n → tp k = T k) (htp : ∀ k, k < 900 → 0 ≤ tp k ∧ tp k ≤ 255) (q : Nat) (hq : q ≤ n) (h32 : F 32 = (q : Int)) (h34 : F 34 = (n : Int)) (h38 : 0 ≤ F 38 ∧ F 38 ≤ 5) : zM l yX10_go cX10_go 2 none ({ frames := 3, cells := 0, slots := 0, locals := 180 } : Room) D A cs tt N ad g [.ref (ad i)] (rV0 N ad fun g' => (∃ F' : Nat → Int, g' i = mC ad i F' ∧ tkR T n F' (tk_at T n q) ∧ (∀ f, f ≠ 32 → f ≠ 33 → f ≠ 35 → f ≠ 36 → f ≠ 37 → F' f = F f)) ∧ ∀ j, j ≠ i → g' j = g j) := by
  have hay1 : zAt ad (i) (ad i) := rfl
  have hay2 : zAt ad (i + 13) (ad (i + 13)) := rfl
  refine z_of (by decide) (Nat.le_of_ble_eq_true rfl) ?_
  intro pZ eZ sZ mZ below meth cZ C hr hlk hnm
  refine z_lv (lv' := [(0, .ref (ad i))]) [0] rfl ?_
  have lp0 : ∀ (n9 : Nat) (nx : Int) (na : Nat) (F9 : Nat → Int) (g1 : Nat → va_E), (900 - nx).toNat = n9 → (g1 i = mC ad i F9) → (∀ j, j ≠ i → g1 j = g j) → (F9 32 = nx) → (∀ f, f ≠ 32 → F9 f = F f) → (nx = (na : Int) ∧ q ≤ na ∧ na ≤ n) → (tk_at T n na = tk_at T n q) → zV pZ l eZ ({ frames := 3, cells := 0, slots := 0, locals := 180 } : Room) sZ mZ ([.ref (ad i)] : List Value).toArray below meth cZ (MQ below (zPost D A (rV0 N ad fun g' => (∃ F' : Nat → Int, g' i = mC ad i F' ∧ tkR T n F' (tk_at T n q) ∧ (∀ f, f ≠ 32 → f ≠ 33 → f ≠ 35 → f ≠ 36 → f ≠ 37 → F' f = F f)) ∧ ∀ j, j ≠ i → g' j = g j)) ([.ref (ad i)] : List Value).toArray sZ ({ frames := 3, cells := 0, slots := 0, locals := 180 } : Room).cells ({ frames := 3, cells := 0, slots := 0, locals := 180 } : Room).slots A) D A 2 (N) ad g1 (0) (0) 0 [(0, .ref (ad i))] [] := by
    intro n9
    induction n9 using Nat.strongRecOn with
    | ind n9 ih_lp0 =>
      intro nx na F9 g1 hm9 f2 f3 fx0 f4 hv hi
      have hay3 : zAt ad (i) (ad i) := rfl
      have hay4 : zAt ad (i + 13) (ad (i + 13)) := rfl
      refine z_aload_n C 0 dX10_go_0 rfl ?_
      refine z_get (v := .int (zI (nx))) C (lt_A0 hN rfl) hay3 f2 rfl inA_X10 32 (by decide) q_1491 rfl (fv (F := F9) (f := 32) fx0) dX10_go_1 ?_
      refine z_aload_n C 0 dX10_go_4 rfl ?_
      refine z_get (v := .int (zI ((n : Int)))) C (lt_A0 hN rfl) hay3 f2 rfl inA_X10 34 (by decide) q_1493 rfl (fv (F := F9) (f := 34) ((f4 34 (by decide)).trans h34)) dX10_go_5 ?_
      refine z_icmp_ge (tgt := 50) C dX10_go_8 (by decide) (by omega) (by omega) (fun hby5 => ?_) (fun hby5 => ?_)
      · refine z_aload_n C 0 dX10_go_50 rfl ?_
        refine z_aload_n C 0 dX10_go_51 rfl ?_
        refine z_get (v := .int (zI (nx))) C (lt_A0 hN rfl) hay3 f2 rfl inA_X10 32 (by decide) q_1491 rfl (fv (F := F9) (f := 32) fx0) dX10_go_52 ?_
        refine z_put (fs' := mF ad (i) (uZ F9 33 (nx))) C (lt_A0 hN rfl) hay3 f2 tyX10 tyX10_ok nmX10 rfl inA_X10 33 (by decide) q_1492 rfl rfl rfl rfl (Nat.le_of_ble_eq_true rfl) rfl dX10_go_55 (fun gy6 egy7 => ?_)
        have hgy8 := up_s egy7
        refine z_aload_n C 0 dX10_go_58 rfl ?_
        refine z_aload_n C 0 dX10_go_59 rfl ?_
        refine z_get (v := .int (zI (nx))) C (lt_A0 hN rfl) hay3 hgy8 rfl inA_X10 32 (by decide) q_1491 rfl (fv (F := (uZ F9 33 (nx))) (f := 32) (fn fx0 (by decide))) dX10_go_60 ?_
        have hgy10 := up_n egy7 ((f3 _ (by omega)).trans ha13) (ne_o (i := i) (c := 13) (d := 0) rfl)
        have h34y11 : (uZ F9 33 (nx)) 34 = (n : Int) := (fn ((f4 34 (by decide)).trans h34) (by decide))
        refine z_cV (As := [.int (zI (nx))]) (rest := []) (ci := 12) C (c_X10_byteAt l D A cs tt N ad _ i hN _ hgy8 _ hgy10 htp (by omega) (nx) (by omega)) (lt_A0 hN rfl) hay3 hgy8 rfl rfl mv_yX10_byteAt q_1656 hd_yX10_byteAt (by decide) (Nat.le_of_ble_eq_true rfl) (by decide) dX10_go_63 rfl (kI0 fun vy9 gvy9 hvy9 => ?_)
        rw [h34y11] at hvy9
        clear h34y11
        obtain ⟨hrvy9, hpvy9, rfl⟩ := hvy9
        rw [show (nx).toNat = na by omega] at hpvy9
        have hqvy9 : (nx < (n : Int) ∧ vy9 = T na) ∨ ((n : Int) ≤ nx ∧ vy9 = 0) := by
          rcases hpvy9 with ⟨a9, b9⟩ | ⟨a9, b9⟩
          · exact Or.inl ⟨a9, b9.trans (hTt _ (by omega))⟩
          · exact Or.inr ⟨a9, b9⟩
        clear hpvy9
        refine z_istore_n (lv' := [(1, .int (zI (vy9))), (0, .ref (ad i))]) C dX10_go_66 rfl (by decide) rfl ?_
        refine z_aload_n C 1 dX10_go_67 rfl ?_
        refine z_iconst (z := -1) C dX10_go_68 rfl ?_
        refine z_put (fs' := mF ad (i) (uZ (uZ F9 33 (nx)) 37 (-1))) C (lt_A0 hN rfl) hay3 hgy8 tyX10 tyX10_ok nmX10 rfl inA_X10 37 (by decide) q_1496 rfl rfl rfl rfl (Nat.le_of_ble_eq_true rfl) rfl dX10_go_69 (fun gy12 egy13 => ?_)
        have hgy14 := up_s egy13
        refine z_aload_n C 1 dX10_go_72 rfl ?_
        refine z_iconst (z := 0) C dX10_go_73 rfl ?_
        refine z_put (fs' := mF ad (i) (uZ (uZ (uZ F9 33 (nx)) 37 (-1)) 36 (0))) C (lt_A0 hN rfl) hay3 hgy14 tyX10 tyX10_ok nmX10 rfl inA_X10 36 (by decide) q_1495 rfl rfl rfl rfl (Nat.le_of_ble_eq_true rfl) rfl dX10_go_74 (fun gy15 egy16 => ?_)
        have hgy17 := up_s egy16
        refine z_aload_n C 1 dX10_go_77 rfl ?_
        refine z_get (v := .int (zI (nx))) C (lt_A0 hN rfl) hay3 hgy17 rfl inA_X10 32 (by decide) q_1491 rfl (fv (F := (uZ (uZ (uZ F9 33 (nx)) 37 (-1)) 36 (0))) (f := 32) (fn (fn (fn fx0 (by decide)) (by decide)) (by decide))) dX10_go_78 ?_
        refine z_aload_n C 1 dX10_go_81 rfl ?_
        refine z_get (v := .int (zI ((n : Int)))) C (lt_A0 hN rfl) hay3 hgy17 rfl inA_X10 34 (by decide) q_1493 rfl (fv (F := (uZ (uZ (uZ F9 33 (nx)) 37 (-1)) 36 (0))) (f := 34) (fn (fn (fn ((f4 34 (by decide)).trans h34) (by decide)) (by decide)) (by decide))) dX10_go_82 ?_
        refine z_icmp_lt (tgt := 96) C dX10_go_85 (by decide) (by omega) (by omega) (fun hby18 => ?_) (fun hby18 => ?_)
        · refine z_iload_n C 0 dX10_go_96 rfl ?_
          refine z_cS (As := [.int (zI (vy9))]) (rest := []) C (c_X10_isLetter l D A cs tt N ad _ (vy9) (by omega)) ms_yX10_isLetter q_1660 hd_yX10_isLetter (by decide) (Nat.le_of_ble_eq_true rfl) (by decide) dX10_go_97 rfl (kI0 fun vy19 gvy19 hvy19 => ?_)
          obtain ⟨hvy19, rfl⟩ := hvy19
          refine z_if_eq (tgt := 154) C dX10_go_100 (by decide) (by omega) (fun hby20 => ?_) (fun hby20 => ?_)
          · refine z_iload_n C 0 dX10_go_154 rfl ?_
            refine z_bipush (z := 48) C dX10_go_155 (by decide) ?_
            refine z_icmp_lt (tgt := 255) C dX10_go_157 (by decide) (by omega) (by omega) (fun hby21 => ?_) (fun hby21 => ?_)
            · refine z_aload_n C 1 dX10_go_255 rfl ?_
              refine z_dup C dX10_go_256 rfl ?_
              refine z_get (v := .int (zI (nx))) C (lt_A0 hN rfl) hay3 hgy17 rfl inA_X10 32 (by decide) q_1491 rfl (fv (F := (uZ (uZ (uZ F9 33 (nx)) 37 (-1)) 36 (0))) (f := 32) (fn (fn (fn fx0 (by decide)) (by decide)) (by decide))) dX10_go_257 ?_
              refine z_iconst (z := 1) C dX10_go_260 rfl ?_
              refine z_iadd C dX10_go_261 ?_
              refine z_put (fs' := mF ad (i) (uZ (uZ (uZ (uZ F9 33 (nx)) 37 (-1)) 36 (0)) 32 (nx + 1))) C (lt_A0 hN rfl) hay3 hgy17 tyX10 tyX10_ok nmX10 rfl inA_X10 32 (by decide) q_1491 rfl rfl rfl rfl (Nat.le_of_ble_eq_true rfl) rfl dX10_go_262 (fun gy22 egy23 => ?_)
              have hgy24 := up_s egy23
              refine z_aload_n C 1 dX10_go_265 rfl ?_
              refine z_iload_n C 0 dX10_go_266 rfl ?_
              refine z_bipush (z := 59) C dX10_go_267 (by decide) ?_
              refine z_icmp_eq (tgt := 278) C dX10_go_269 (by decide) (by omega) (by omega) (fun hby25 => ?_) (fun hby25 => ?_)
              · refine z_iconst (z := 3) C dX10_go_278 rfl ?_
                refine z_goto (tgt := 283) C dX10_go_279 (by decide) ?_
                refine z_put (fs' := mF ad (i) (uZ (uZ (uZ (uZ (uZ F9 33 (nx)) 37 (-1)) 36 (0)) 32 (nx + 1)) 35 (3))) C (lt_A0 hN rfl) hay3 hgy24 tyX10 tyX10_ok nmX10 rfl inA_X10 35 (by decide) q_1494 rfl rfl rfl rfl (Nat.le_of_ble_eq_true rfl) rfl dX10_go_283 (fun gy26 egy27 => ?_)
                have hgy28 := up_s egy27
                refine z_aload_n C 1 dX10_go_286 rfl ?_
                refine z_iload_n C 0 dX10_go_287 rfl ?_
                refine z_put (fs' := mF ad (i) (uZ (uZ (uZ (uZ (uZ (uZ F9 33 (nx)) 37 (-1)) 36 (0)) 32 (nx + 1)) 35 (3)) 36 (vy9))) C (lt_A0 hN rfl) hay3 hgy28 tyX10 tyX10_ok nmX10 rfl inA_X10 36 (by decide) q_1495 rfl rfl rfl rfl (Nat.le_of_ble_eq_true rfl) rfl dX10_go_288 (fun gy29 egy30 => ?_)
                have hgy31 := up_s egy30
                have hFy32 : ∀ f, f ≠ 32 → f ≠ 33 → f ≠ 35 → f ≠ 36 → f ≠ 37 → (uZ (uZ (uZ (uZ (uZ (uZ F9 33 (nx)) 37 (-1)) 36 (0)) 32 (nx + 1)) 35 (3)) 36 (vy9)) f = F f := fun f n32 n33 n35 n36 n37 => ((uZ_n _ _ n36).trans ((uZ_n _ _ n35).trans ((uZ_n _ _ n32).trans ((uZ_n _ _ n36).trans ((uZ_n _ _ n37).trans ((uZ_n _ _ n33).trans (f4 f n32)))))))
                have hey33 : (uZ (uZ (uZ (uZ (uZ (uZ F9 33 (nx)) 37 (-1)) 36 (0)) 32 (nx + 1)) 35 (3)) 36 (vy9)) 32 = nx + 1 := (fn (fn (uZ_s _ _ _) (by decide)) (by decide))
                have hey34 : (uZ (uZ (uZ (uZ (uZ (uZ F9 33 (nx)) 37 (-1)) 36 (0)) 32 (nx + 1)) 35 (3)) 36 (vy9)) 33 = nx := (fn (fn (fn (fn (fn (uZ_s _ _ _) (by decide)) (by decide)) (by decide)) (by decide)) (by decide))
                have hey35 : (uZ (uZ (uZ (uZ (uZ (uZ F9 33 (nx)) 37 (-1)) 36 (0)) 32 (nx + 1)) 35 (3)) 36 (vy9)) 34 = (n : Int) := (fn (fn (fn (fn (fn (fn ((f4 34 (by decide)).trans h34) (by decide)) (by decide)) (by decide)) (by decide)) (by decide)) (by decide))
                have hey36 : (uZ (uZ (uZ (uZ (uZ (uZ F9 33 (nx)) 37 (-1)) 36 (0)) 32 (nx + 1)) 35 (3)) 36 (vy9)) 35 = 3 := (fn (uZ_s _ _ _) (by decide))
                have hey37 : (uZ (uZ (uZ (uZ (uZ (uZ F9 33 (nx)) 37 (-1)) 36 (0)) 32 (nx + 1)) 35 (3)) 36 (vy9)) 36 = vy9 := (uZ_s _ _ _)
                have hey38 : (uZ (uZ (uZ (uZ (uZ (uZ F9 33 (nx)) 37 (-1)) 36 (0)) 32 (nx + 1)) 35 (3)) 36 (vy9)) 37 = -1 := (fn (fn (fn (fn (uZ_s _ _ _) (by decide)) (by decide)) (by decide)) (by decide))
                have hey39 : (uZ (uZ (uZ (uZ (uZ (uZ F9 33 (nx)) 37 (-1)) 36 (0)) 32 (nx + 1)) 35 (3)) 36 (vy9)) 38 = F 38 := (fn (fn (fn (fn (fn (fn (f4 38 (by decide)) (by decide)) (by decide)) (by decide)) (by decide)) (by decide)) (by decide))
                have hat : tk_at T n q = na := hi.symm.trans (tk_rn_end (by first | exact Or.inl (by omega) | exact Or.inr (decide_eq_false (by omega))))
                have hty := tk_ty_c (T na)
                have hsoy : tk_so T n na = tk_ty (T na) := by unfold tk_so; rw [if_neg (by omega)]
                have hsc := srt_c (tk_so T n na)
                have hto : tk_to T n na = na + 1 := by unfold tk_to; rw [if_neg (by omega), if_neg (by omega)]
                have hvl : vlu T n na = T na := by unfold vlu; rw [if_neg (by omega), if_pos (by omega)]
                have hwd : tk_w T n na = -1 := tk_w_let (by omega)
                have htk : tkR T n (uZ (uZ (uZ (uZ (uZ (uZ F9 33 (nx)) 37 (-1)) 36 (0)) 32 (nx + 1)) 35 (3)) 36 (vy9)) na := ⟨by omega, by omega, by omega, by omega, by omega, by omega, by omega, by omega⟩
                exact z_vret C hr hlk dX10_go_291 (by decide) (by decide) ⟨rfl, rfl, rfl, ⟨_, hgy31, by rw [hat]; exact htk, hFy32⟩, fun j j1 => by rw [egy30, va_up_ne _ _ (by omega)]; rw [egy27, va_up_ne _ _ (by omega)]; rw [egy23, va_up_ne _ _ (by omega)]; rw [egy16, va_up_ne _ _ (by omega)]; rw [egy13, va_up_ne _ _ (by omega)]; rw [egy7, va_up_ne _ _ (by omega)]; exact f3 j j1⟩
              · refine z_iload_n C 0 dX10_go_272 rfl ?_
                refine z_bipush (z := 45) C dX10_go_273 (by decide) ?_
                refine z_icmp_ne (tgt := 282) C dX10_go_275 (by decide) (by omega) (by omega) (fun hby40 => ?_) (fun hby40 => ?_)
                · refine z_iconst (z := 4) C dX10_go_282 rfl ?_
                  refine z_put (fs' := mF ad (i) (uZ (uZ (uZ (uZ (uZ F9 33 (nx)) 37 (-1)) 36 (0)) 32 (nx + 1)) 35 (4))) C (lt_A0 hN rfl) hay3 hgy24 tyX10 tyX10_ok nmX10 rfl inA_X10 35 (by decide) q_1494 rfl rfl rfl rfl (Nat.le_of_ble_eq_true rfl) rfl dX10_go_283 (fun gy41 egy42 => ?_)
                  have hgy43 := up_s egy42
                  refine z_aload_n C 1 dX10_go_286 rfl ?_
                  refine z_iload_n C 0 dX10_go_287 rfl ?_
                  refine z_put (fs' := mF ad (i) (uZ (uZ (uZ (uZ (uZ (uZ F9 33 (nx)) 37 (-1)) 36 (0)) 32 (nx + 1)) 35 (4)) 36 (vy9))) C (lt_A0 hN rfl) hay3 hgy43 tyX10 tyX10_ok nmX10 rfl inA_X10 36 (by decide) q_1495 rfl rfl rfl rfl (Nat.le_of_ble_eq_true rfl) rfl dX10_go_288 (fun gy44 egy45 => ?_)
                  have hgy46 := up_s egy45
                  have hFy47 : ∀ f, f ≠ 32 → f ≠ 33 → f ≠ 35 → f ≠ 36 → f ≠ 37 → (uZ (uZ (uZ (uZ (uZ (uZ F9 33 (nx)) 37 (-1)) 36 (0)) 32 (nx + 1)) 35 (4)) 36 (vy9)) f = F f := fun f n32 n33 n35 n36 n37 => ((uZ_n _ _ n36).trans ((uZ_n _ _ n35).trans ((uZ_n _ _ n32).trans ((uZ_n _ _ n36).trans ((uZ_n _ _ n37).trans ((uZ_n _ _ n33).trans (f4 f n32)))))))
                  have hey48 : (uZ (uZ (uZ (uZ (uZ (uZ F9 33 (nx)) 37 (-1)) 36 (0)) 32 (nx + 1)) 35 (4)) 36 (vy9)) 32 = nx + 1 := (fn (fn (uZ_s _ _ _) (by decide)) (by decide))
                  have hey49 : (uZ (uZ (uZ (uZ (uZ (uZ F9 33 (nx)) 37 (-1)) 36 (0)) 32 (nx + 1)) 35 (4)) 36 (vy9)) 33 = nx := (fn (fn (fn (fn (fn (uZ_s _ _ _) (by decide)) (by decide)) (by decide)) (by decide)) (by decide))
                  have hey50 : (uZ (uZ (uZ (uZ (uZ (uZ F9 33 (nx)) 37 (-1)) 36 (0)) 32 (nx + 1)) 35 (4)) 36 (vy9)) 34 = (n : Int) := (fn (fn (fn (fn (fn (fn ((f4 34 (by decide)).trans h34) (by decide)) (by decide)) (by decide)) (by decide)) (by decide)) (by decide))
                  have hey51 : (uZ (uZ (uZ (uZ (uZ (uZ F9 33 (nx)) 37 (-1)) 36 (0)) 32 (nx + 1)) 35 (4)) 36 (vy9)) 35 = 4 := (fn (uZ_s _ _ _) (by decide))
                  have hey52 : (uZ (uZ (uZ (uZ (uZ (uZ F9 33 (nx)) 37 (-1)) 36 (0)) 32 (nx + 1)) 35 (4)) 36 (vy9)) 36 = vy9 := (uZ_s _ _ _)
                  have hey53 : (uZ (uZ (uZ (uZ (uZ (uZ F9 33 (nx)) 37 (-1)) 36 (0)) 32 (nx + 1)) 35 (4)) 36 (vy9)) 37 = -1 := (fn (fn (fn (fn (uZ_s _ _ _) (by decide)) (by decide)) (by decide)) (by decide))
                  have hey54 : (uZ (uZ (uZ (uZ (uZ (uZ F9 33 (nx)) 37 (-1)) 36 (0)) 32 (nx + 1)) 35 (4)) 36 (vy9)) 38 = F 38 := (fn (fn (fn (fn (fn (fn (f4 38 (by decide)) (by decide)) (by decide)) (by decide)) (by decide)) (by decide)) (by decide))
                  have hat : tk_at T n q = na := hi.symm.trans (tk_rn_end (by first | exact Or.inl (by omega) | exact Or.inr (decide_eq_false (by omega))))
                  have hty := tk_ty_c (T na)
                  have hsoy : tk_so T n na = tk_ty (T na) := by unfold tk_so; rw [if_neg (by omega)]
                  have hsc := srt_c (tk_so T n na)
                  have hto : tk_to T n na = na + 1 := by unfold tk_to; rw [if_neg (by omega), if_neg (by omega)]
                  have hvl : vlu T n na = T na := by unfold vlu; rw [if_neg (by omega), if_pos (by omega)]
                  have hwd : tk_w T n na = -1 := tk_w_let (by omega)
                  have htk : tkR T n (uZ (uZ (uZ (uZ (uZ (uZ F9 33 (nx)) 37 (-1)) 36 (0)) 32 (nx + 1)) 35 (4)) 36 (vy9)) na := ⟨by omega, by omega, by omega, by omega, by omega, by omega, by omega, by omega⟩
                  exact z_vret C hr hlk dX10_go_291 (by decide) (by decide) ⟨rfl, rfl, rfl, ⟨_, hgy46, by rw [hat]; exact htk, hFy47⟩, fun j j1 => by rw [egy45, va_up_ne _ _ (by omega)]; rw [egy42, va_up_ne _ _ (by omega)]; rw [egy23, va_up_ne _ _ (by omega)]; rw [egy16, va_up_ne _ _ (by omega)]; rw [egy13, va_up_ne _ _ (by omega)]; rw [egy7, va_up_ne _ _ (by omega)]; exact f3 j j1⟩
                · refine z_iconst (z := 3) C dX10_go_278 rfl ?_
                  refine z_goto (tgt := 283) C dX10_go_279 (by decide) ?_
                  refine z_put (fs' := mF ad (i) (uZ (uZ (uZ (uZ (uZ F9 33 (nx)) 37 (-1)) 36 (0)) 32 (nx + 1)) 35 (3))) C (lt_A0 hN rfl) hay3 hgy24 tyX10 tyX10_ok nmX10 rfl inA_X10 35 (by decide) q_1494 rfl rfl rfl rfl (Nat.le_of_ble_eq_true rfl) rfl dX10_go_283 (fun gy55 egy56 => ?_)
                  have hgy57 := up_s egy56
                  refine z_aload_n C 1 dX10_go_286 rfl ?_
                  refine z_iload_n C 0 dX10_go_287 rfl ?_
                  refine z_put (fs' := mF ad (i) (uZ (uZ (uZ (uZ (uZ (uZ F9 33 (nx)) 37 (-1)) 36 (0)) 32 (nx + 1)) 35 (3)) 36 (vy9))) C (lt_A0 hN rfl) hay3 hgy57 tyX10 tyX10_ok nmX10 rfl inA_X10 36 (by decide) q_1495 rfl rfl rfl rfl (Nat.le_of_ble_eq_true rfl) rfl dX10_go_288 (fun gy58 egy59 => ?_)
                  have hgy60 := up_s egy59
                  have hFy61 : ∀ f, f ≠ 32 → f ≠ 33 → f ≠ 35 → f ≠ 36 → f ≠ 37 → (uZ (uZ (uZ (uZ (uZ (uZ F9 33 (nx)) 37 (-1)) 36 (0)) 32 (nx + 1)) 35 (3)) 36 (vy9)) f = F f := fun f n32 n33 n35 n36 n37 => ((uZ_n _ _ n36).trans ((uZ_n _ _ n35).trans ((uZ_n _ _ n32).trans ((uZ_n _ _ n36).trans ((uZ_n _ _ n37).trans ((uZ_n _ _ n33).trans (f4 f n32)))))))
                  have hey62 : (uZ (uZ (uZ (uZ (uZ (uZ F9 33 (nx)) 37 (-1)) 36 (0)) 32 (nx + 1)) 35 (3)) 36 (vy9)) 32 = nx + 1 := (fn (fn (uZ_s _ _ _) (by decide)) (by decide))
                  have hey63 : (uZ (uZ (uZ (uZ (uZ (uZ F9 33 (nx)) 37 (-1)) 36 (0)) 32 (nx + 1)) 35 (3)) 36 (vy9)) 33 = nx := (fn (fn (fn (fn (fn (uZ_s _ _ _) (by decide)) (by decide)) (by decide)) (by decide)) (by decide))
                  have hey64 : (uZ (uZ (uZ (uZ (uZ (uZ F9 33 (nx)) 37 (-1)) 36 (0)) 32 (nx + 1)) 35 (3)) 36 (vy9)) 34 = (n : Int) := (fn (fn (fn (fn (fn (fn ((f4 34 (by decide)).trans h34) (by decide)) (by decide)) (by decide)) (by decide)) (by decide)) (by decide))
                  have hey65 : (uZ (uZ (uZ (uZ (uZ (uZ F9 33 (nx)) 37 (-1)) 36 (0)) 32 (nx + 1)) 35 (3)) 36 (vy9)) 35 = 3 := (fn (uZ_s _ _ _) (by decide))
                  have hey66 : (uZ (uZ (uZ (uZ (uZ (uZ F9 33 (nx)) 37 (-1)) 36 (0)) 32 (nx + 1)) 35 (3)) 36 (vy9)) 36 = vy9 := (uZ_s _ _ _)
                  have hey67 : (uZ (uZ (uZ (uZ (uZ (uZ F9 33 (nx)) 37 (-1)) 36 (0)) 32 (nx + 1)) 35 (3)) 36 (vy9)) 37 = -1 := (fn (fn (fn (fn (uZ_s _ _ _) (by decide)) (by decide)) (by decide)) (by decide))
                  have hey68 : (uZ (uZ (uZ (uZ (uZ (uZ F9 33 (nx)) 37 (-1)) 36 (0)) 32 (nx + 1)) 35 (3)) 36 (vy9)) 38 = F 38 := (fn (fn (fn (fn (fn (fn (f4 38 (by decide)) (by decide)) (by decide)) (by decide)) (by decide)) (by decide)) (by decide))
                  have hat : tk_at T n q = na := hi.symm.trans (tk_rn_end (by first | exact Or.inl (by omega) | exact Or.inr (decide_eq_false (by omega))))
                  have hty := tk_ty_c (T na)
                  have hsoy : tk_so T n na = tk_ty (T na) := by unfold tk_so; rw [if_neg (by omega)]
                  have hsc := srt_c (tk_so T n na)
                  have hto : tk_to T n na = na + 1 := by unfold tk_to; rw [if_neg (by omega), if_neg (by omega)]
                  have hvl : vlu T n na = T na := by unfold vlu; rw [if_neg (by omega), if_pos (by omega)]
                  have hwd : tk_w T n na = -1 := tk_w_let (by omega)
                  have htk : tkR T n (uZ (uZ (uZ (uZ (uZ (uZ F9 33 (nx)) 37 (-1)) 36 (0)) 32 (nx + 1)) 35 (3)) 36 (vy9)) na := ⟨by omega, by omega, by omega, by omega, by omega, by omega, by omega, by omega⟩
                  exact z_vret C hr hlk dX10_go_291 (by decide) (by decide) ⟨rfl, rfl, rfl, ⟨_, hgy60, by rw [hat]; exact htk, hFy61⟩, fun j j1 => by rw [egy59, va_up_ne _ _ (by omega)]; rw [egy56, va_up_ne _ _ (by omega)]; rw [egy23, va_up_ne _ _ (by omega)]; rw [egy16, va_up_ne _ _ (by omega)]; rw [egy13, va_up_ne _ _ (by omega)]; rw [egy7, va_up_ne _ _ (by omega)]; exact f3 j j1⟩
            · refine z_iload_n C 0 dX10_go_160 rfl ?_
              refine z_bipush (z := 57) C dX10_go_161 (by decide) ?_
              refine z_icmp_gt (tgt := 255) C dX10_go_163 (by decide) (by omega) (by omega) (fun hby69 => ?_) (fun hby69 => ?_)
              · refine z_aload_n C 1 dX10_go_255 rfl ?_
                refine z_dup C dX10_go_256 rfl ?_
                refine z_get (v := .int (zI (nx))) C (lt_A0 hN rfl) hay3 hgy17 rfl inA_X10 32 (by decide) q_1491 rfl (fv (F := (uZ (uZ (uZ F9 33 (nx)) 37 (-1)) 36 (0))) (f := 32) (fn (fn (fn fx0 (by decide)) (by decide)) (by decide))) dX10_go_257 ?_
                refine z_iconst (z := 1) C dX10_go_260 rfl ?_
                refine z_iadd C dX10_go_261 ?_
                refine z_put (fs' := mF ad (i) (uZ (uZ (uZ (uZ F9 33 (nx)) 37 (-1)) 36 (0)) 32 (nx + 1))) C (lt_A0 hN rfl) hay3 hgy17 tyX10 tyX10_ok nmX10 rfl inA_X10 32 (by decide) q_1491 rfl rfl rfl rfl (Nat.le_of_ble_eq_true rfl) rfl dX10_go_262 (fun gy70 egy71 => ?_)
                have hgy72 := up_s egy71
                refine z_aload_n C 1 dX10_go_265 rfl ?_
                refine z_iload_n C 0 dX10_go_266 rfl ?_
                refine z_bipush (z := 59) C dX10_go_267 (by decide) ?_
                refine z_icmp_eq (tgt := 278) C dX10_go_269 (by decide) (by omega) (by omega) (fun hby73 => ?_) (fun hby73 => ?_)
                · refine z_iconst (z := 3) C dX10_go_278 rfl ?_
                  refine z_goto (tgt := 283) C dX10_go_279 (by decide) ?_
                  refine z_put (fs' := mF ad (i) (uZ (uZ (uZ (uZ (uZ F9 33 (nx)) 37 (-1)) 36 (0)) 32 (nx + 1)) 35 (3))) C (lt_A0 hN rfl) hay3 hgy72 tyX10 tyX10_ok nmX10 rfl inA_X10 35 (by decide) q_1494 rfl rfl rfl rfl (Nat.le_of_ble_eq_true rfl) rfl dX10_go_283 (fun gy74 egy75 => ?_)
                  have hgy76 := up_s egy75
                  refine z_aload_n C 1 dX10_go_286 rfl ?_
                  refine z_iload_n C 0 dX10_go_287 rfl ?_
                  refine z_put (fs' := mF ad (i) (uZ (uZ (uZ (uZ (uZ (uZ F9 33 (nx)) 37 (-1)) 36 (0)) 32 (nx + 1)) 35 (3)) 36 (vy9))) C (lt_A0 hN rfl) hay3 hgy76 tyX10 tyX10_ok nmX10 rfl inA_X10 36 (by decide) q_1495 rfl rfl rfl rfl (Nat.le_of_ble_eq_true rfl) rfl dX10_go_288 (fun gy77 egy78 => ?_)
                  have hgy79 := up_s egy78
                  have hFy80 : ∀ f, f ≠ 32 → f ≠ 33 → f ≠ 35 → f ≠ 36 → f ≠ 37 → (uZ (uZ (uZ (uZ (uZ (uZ F9 33 (nx)) 37 (-1)) 36 (0)) 32 (nx + 1)) 35 (3)) 36 (vy9)) f = F f := fun f n32 n33 n35 n36 n37 => ((uZ_n _ _ n36).trans ((uZ_n _ _ n35).trans ((uZ_n _ _ n32).trans ((uZ_n _ _ n36).trans ((uZ_n _ _ n37).trans ((uZ_n _ _ n33).trans (f4 f n32)))))))
                  have hey81 : (uZ (uZ (uZ (uZ (uZ (uZ F9 33 (nx)) 37 (-1)) 36 (0)) 32 (nx + 1)) 35 (3)) 36 (vy9)) 32 = nx + 1 := (fn (fn (uZ_s _ _ _) (by decide)) (by decide))
                  have hey82 : (uZ (uZ (uZ (uZ (uZ (uZ F9 33 (nx)) 37 (-1)) 36 (0)) 32 (nx + 1)) 35 (3)) 36 (vy9)) 33 = nx := (fn (fn (fn (fn (fn (uZ_s _ _ _) (by decide)) (by decide)) (by decide)) (by decide)) (by decide))
                  have hey83 : (uZ (uZ (uZ (uZ (uZ (uZ F9 33 (nx)) 37 (-1)) 36 (0)) 32 (nx + 1)) 35 (3)) 36 (vy9)) 34 = (n : Int) := (fn (fn (fn (fn (fn (fn ((f4 34 (by decide)).trans h34) (by decide)) (by decide)) (by decide)) (by decide)) (by decide)) (by decide))
                  have hey84 : (uZ (uZ (uZ (uZ (uZ (uZ F9 33 (nx)) 37 (-1)) 36 (0)) 32 (nx + 1)) 35 (3)) 36 (vy9)) 35 = 3 := (fn (uZ_s _ _ _) (by decide))
                  have hey85 : (uZ (uZ (uZ (uZ (uZ (uZ F9 33 (nx)) 37 (-1)) 36 (0)) 32 (nx + 1)) 35 (3)) 36 (vy9)) 36 = vy9 := (uZ_s _ _ _)
                  have hey86 : (uZ (uZ (uZ (uZ (uZ (uZ F9 33 (nx)) 37 (-1)) 36 (0)) 32 (nx + 1)) 35 (3)) 36 (vy9)) 37 = -1 := (fn (fn (fn (fn (uZ_s _ _ _) (by decide)) (by decide)) (by decide)) (by decide))
                  have hey87 : (uZ (uZ (uZ (uZ (uZ (uZ F9 33 (nx)) 37 (-1)) 36 (0)) 32 (nx + 1)) 35 (3)) 36 (vy9)) 38 = F 38 := (fn (fn (fn (fn (fn (fn (f4 38 (by decide)) (by decide)) (by decide)) (by decide)) (by decide)) (by decide)) (by decide))
                  have hat : tk_at T n q = na := hi.symm.trans (tk_rn_end (by first | exact Or.inl (by omega) | exact Or.inr (decide_eq_false (by omega))))
                  have hty := tk_ty_c (T na)
                  have hsoy : tk_so T n na = tk_ty (T na) := by unfold tk_so; rw [if_neg (by omega)]
                  have hsc := srt_c (tk_so T n na)
                  have hto : tk_to T n na = na + 1 := by unfold tk_to; rw [if_neg (by omega), if_neg (by omega)]
                  have hvl : vlu T n na = T na := by unfold vlu; rw [if_neg (by omega), if_pos (by omega)]
                  have hwd : tk_w T n na = -1 := tk_w_let (by omega)
                  have htk : tkR T n (uZ (uZ (uZ (uZ (uZ (uZ F9 33 (nx)) 37 (-1)) 36 (0)) 32 (nx + 1)) 35 (3)) 36 (vy9)) na := ⟨by omega, by omega, by omega, by omega, by omega, by omega, by omega, by omega⟩
                  exact z_vret C hr hlk dX10_go_291 (by decide) (by decide) ⟨rfl, rfl, rfl, ⟨_, hgy79, by rw [hat]; exact htk, hFy80⟩, fun j j1 => by rw [egy78, va_up_ne _ _ (by omega)]; rw [egy75, va_up_ne _ _ (by omega)]; rw [egy71, va_up_ne _ _ (by omega)]; rw [egy16, va_up_ne _ _ (by omega)]; rw [egy13, va_up_ne _ _ (by omega)]; rw [egy7, va_up_ne _ _ (by omega)]; exact f3 j j1⟩
                · refine z_iload_n C 0 dX10_go_272 rfl ?_
                  refine z_bipush (z := 45) C dX10_go_273 (by decide) ?_
                  refine z_icmp_ne (tgt := 282) C dX10_go_275 (by decide) (by omega) (by omega) (fun hby88 => ?_) (fun hby88 => ?_)
                  · refine z_iconst (z := 4) C dX10_go_282 rfl ?_
                    refine z_put (fs' := mF ad (i) (uZ (uZ (uZ (uZ (uZ F9 33 (nx)) 37 (-1)) 36 (0)) 32 (nx + 1)) 35 (4))) C (lt_A0 hN rfl) hay3 hgy72 tyX10 tyX10_ok nmX10 rfl inA_X10 35 (by decide) q_1494 rfl rfl rfl rfl (Nat.le_of_ble_eq_true rfl) rfl dX10_go_283 (fun gy89 egy90 => ?_)
                    have hgy91 := up_s egy90
                    refine z_aload_n C 1 dX10_go_286 rfl ?_
                    refine z_iload_n C 0 dX10_go_287 rfl ?_
                    refine z_put (fs' := mF ad (i) (uZ (uZ (uZ (uZ (uZ (uZ F9 33 (nx)) 37 (-1)) 36 (0)) 32 (nx + 1)) 35 (4)) 36 (vy9))) C (lt_A0 hN rfl) hay3 hgy91 tyX10 tyX10_ok nmX10 rfl inA_X10 36 (by decide) q_1495 rfl rfl rfl rfl (Nat.le_of_ble_eq_true rfl) rfl dX10_go_288 (fun gy92 egy93 => ?_)
                    have hgy94 := up_s egy93
                    have hFy95 : ∀ f, f ≠ 32 → f ≠ 33 → f ≠ 35 → f ≠ 36 → f ≠ 37 → (uZ (uZ (uZ (uZ (uZ (uZ F9 33 (nx)) 37 (-1)) 36 (0)) 32 (nx + 1)) 35 (4)) 36 (vy9)) f = F f := fun f n32 n33 n35 n36 n37 => ((uZ_n _ _ n36).trans ((uZ_n _ _ n35).trans ((uZ_n _ _ n32).trans ((uZ_n _ _ n36).trans ((uZ_n _ _ n37).trans ((uZ_n _ _ n33).trans (f4 f n32)))))))
                    have hey96 : (uZ (uZ (uZ (uZ (uZ (uZ F9 33 (nx)) 37 (-1)) 36 (0)) 32 (nx + 1)) 35 (4)) 36 (vy9)) 32 = nx + 1 := (fn (fn (uZ_s _ _ _) (by decide)) (by decide))
                    have hey97 : (uZ (uZ (uZ (uZ (uZ (uZ F9 33 (nx)) 37 (-1)) 36 (0)) 32 (nx + 1)) 35 (4)) 36 (vy9)) 33 = nx := (fn (fn (fn (fn (fn (uZ_s _ _ _) (by decide)) (by decide)) (by decide)) (by decide)) (by decide))
                    have hey98 : (uZ (uZ (uZ (uZ (uZ (uZ F9 33 (nx)) 37 (-1)) 36 (0)) 32 (nx + 1)) 35 (4)) 36 (vy9)) 34 = (n : Int) := (fn (fn (fn (fn (fn (fn ((f4 34 (by decide)).trans h34) (by decide)) (by decide)) (by decide)) (by decide)) (by decide)) (by decide))
                    have hey99 : (uZ (uZ (uZ (uZ (uZ (uZ F9 33 (nx)) 37 (-1)) 36 (0)) 32 (nx + 1)) 35 (4)) 36 (vy9)) 35 = 4 := (fn (uZ_s _ _ _) (by decide))
                    have hey100 : (uZ (uZ (uZ (uZ (uZ (uZ F9 33 (nx)) 37 (-1)) 36 (0)) 32 (nx + 1)) 35 (4)) 36 (vy9)) 36 = vy9 := (uZ_s _ _ _)
                    have hey101 : (uZ (uZ (uZ (uZ (uZ (uZ F9 33 (nx)) 37 (-1)) 36 (0)) 32 (nx + 1)) 35 (4)) 36 (vy9)) 37 = -1 := (fn (fn (fn (fn (uZ_s _ _ _) (by decide)) (by decide)) (by decide)) (by decide))
                    have hey102 : (uZ (uZ (uZ (uZ (uZ (uZ F9 33 (nx)) 37 (-1)) 36 (0)) 32 (nx + 1)) 35 (4)) 36 (vy9)) 38 = F 38 := (fn (fn (fn (fn (fn (fn (f4 38 (by decide)) (by decide)) (by decide)) (by decide)) (by decide)) (by decide)) (by decide))
                    have hat : tk_at T n q = na := hi.symm.trans (tk_rn_end (by first | exact Or.inl (by omega) | exact Or.inr (decide_eq_false (by omega))))
                    have hty := tk_ty_c (T na)
                    have hsoy : tk_so T n na = tk_ty (T na) := by unfold tk_so; rw [if_neg (by omega)]
                    have hsc := srt_c (tk_so T n na)
                    have hto : tk_to T n na = na + 1 := by unfold tk_to; rw [if_neg (by omega), if_neg (by omega)]
                    have hvl : vlu T n na = T na := by unfold vlu; rw [if_neg (by omega), if_pos (by omega)]
                    have hwd : tk_w T n na = -1 := tk_w_let (by omega)
                    have htk : tkR T n (uZ (uZ (uZ (uZ (uZ (uZ F9 33 (nx)) 37 (-1)) 36 (0)) 32 (nx + 1)) 35 (4)) 36 (vy9)) na := ⟨by omega, by omega, by omega, by omega, by omega, by omega, by omega, by omega⟩
                    exact z_vret C hr hlk dX10_go_291 (by decide) (by decide) ⟨rfl, rfl, rfl, ⟨_, hgy94, by rw [hat]; exact htk, hFy95⟩, fun j j1 => by rw [egy93, va_up_ne _ _ (by omega)]; rw [egy90, va_up_ne _ _ (by omega)]; rw [egy71, va_up_ne _ _ (by omega)]; rw [egy16, va_up_ne _ _ (by omega)]; rw [egy13, va_up_ne _ _ (by omega)]; rw [egy7, va_up_ne _ _ (by omega)]; exact f3 j j1⟩
                  · refine z_iconst (z := 3) C dX10_go_278 rfl ?_
                    refine z_goto (tgt := 283) C dX10_go_279 (by decide) ?_
                    refine z_put (fs' := mF ad (i) (uZ (uZ (uZ (uZ (uZ F9 33 (nx)) 37 (-1)) 36 (0)) 32 (nx + 1)) 35 (3))) C (lt_A0 hN rfl) hay3 hgy72 tyX10 tyX10_ok nmX10 rfl inA_X10 35 (by decide) q_1494 rfl rfl rfl rfl (Nat.le_of_ble_eq_true rfl) rfl dX10_go_283 (fun gy103 egy104 => ?_)
                    have hgy105 := up_s egy104
                    refine z_aload_n C 1 dX10_go_286 rfl ?_
                    refine z_iload_n C 0 dX10_go_287 rfl ?_
                    refine z_put (fs' := mF ad (i) (uZ (uZ (uZ (uZ (uZ (uZ F9 33 (nx)) 37 (-1)) 36 (0)) 32 (nx + 1)) 35 (3)) 36 (vy9))) C (lt_A0 hN rfl) hay3 hgy105 tyX10 tyX10_ok nmX10 rfl inA_X10 36 (by decide) q_1495 rfl rfl rfl rfl (Nat.le_of_ble_eq_true rfl) rfl dX10_go_288 (fun gy106 egy107 => ?_)
                    have hgy108 := up_s egy107
                    have hFy109 : ∀ f, f ≠ 32 → f ≠ 33 → f ≠ 35 → f ≠ 36 → f ≠ 37 → (uZ (uZ (uZ (uZ (uZ (uZ F9 33 (nx)) 37 (-1)) 36 (0)) 32 (nx + 1)) 35 (3)) 36 (vy9)) f = F f := fun f n32 n33 n35 n36 n37 => ((uZ_n _ _ n36).trans ((uZ_n _ _ n35).trans ((uZ_n _ _ n32).trans ((uZ_n _ _ n36).trans ((uZ_n _ _ n37).trans ((uZ_n _ _ n33).trans (f4 f n32)))))))
                    have hey110 : (uZ (uZ (uZ (uZ (uZ (uZ F9 33 (nx)) 37 (-1)) 36 (0)) 32 (nx + 1)) 35 (3)) 36 (vy9)) 32 = nx + 1 := (fn (fn (uZ_s _ _ _) (by decide)) (by decide))
                    have hey111 : (uZ (uZ (uZ (uZ (uZ (uZ F9 33 (nx)) 37 (-1)) 36 (0)) 32 (nx + 1)) 35 (3)) 36 (vy9)) 33 = nx := (fn (fn (fn (fn (fn (uZ_s _ _ _) (by decide)) (by decide)) (by decide)) (by decide)) (by decide))
                    have hey112 : (uZ (uZ (uZ (uZ (uZ (uZ F9 33 (nx)) 37 (-1)) 36 (0)) 32 (nx + 1)) 35 (3)) 36 (vy9)) 34 = (n : Int) := (fn (fn (fn (fn (fn (fn ((f4 34 (by decide)).trans h34) (by decide)) (by decide)) (by decide)) (by decide)) (by decide)) (by decide))
                    have hey113 : (uZ (uZ (uZ (uZ (uZ (uZ F9 33 (nx)) 37 (-1)) 36 (0)) 32 (nx + 1)) 35 (3)) 36 (vy9)) 35 = 3 := (fn (uZ_s _ _ _) (by decide))
                    have hey114 : (uZ (uZ (uZ (uZ (uZ (uZ F9 33 (nx)) 37 (-1)) 36 (0)) 32 (nx + 1)) 35 (3)) 36 (vy9)) 36 = vy9 := (uZ_s _ _ _)
                    have hey115 : (uZ (uZ (uZ (uZ (uZ (uZ F9 33 (nx)) 37 (-1)) 36 (0)) 32 (nx + 1)) 35 (3)) 36 (vy9)) 37 = -1 := (fn (fn (fn (fn (uZ_s _ _ _) (by decide)) (by decide)) (by decide)) (by decide))
                    have hey116 : (uZ (uZ (uZ (uZ (uZ (uZ F9 33 (nx)) 37 (-1)) 36 (0)) 32 (nx + 1)) 35 (3)) 36 (vy9)) 38 = F 38 := (fn (fn (fn (fn (fn (fn (f4 38 (by decide)) (by decide)) (by decide)) (by decide)) (by decide)) (by decide)) (by decide))
                    have hat : tk_at T n q = na := hi.symm.trans (tk_rn_end (by first | exact Or.inl (by omega) | exact Or.inr (decide_eq_false (by omega))))
                    have hty := tk_ty_c (T na)
                    have hsoy : tk_so T n na = tk_ty (T na) := by unfold tk_so; rw [if_neg (by omega)]
                    have hsc := srt_c (tk_so T n na)
                    have hto : tk_to T n na = na + 1 := by unfold tk_to; rw [if_neg (by omega), if_neg (by omega)]
                    have hvl : vlu T n na = T na := by unfold vlu; rw [if_neg (by omega), if_pos (by omega)]
                    have hwd : tk_w T n na = -1 := tk_w_let (by omega)
                    have htk : tkR T n (uZ (uZ (uZ (uZ (uZ (uZ F9 33 (nx)) 37 (-1)) 36 (0)) 32 (nx + 1)) 35 (3)) 36 (vy9)) na := ⟨by omega, by omega, by omega, by omega, by omega, by omega, by omega, by omega⟩
                    exact z_vret C hr hlk dX10_go_291 (by decide) (by decide) ⟨rfl, rfl, rfl, ⟨_, hgy108, by rw [hat]; exact htk, hFy109⟩, fun j j1 => by rw [egy107, va_up_ne _ _ (by omega)]; rw [egy104, va_up_ne _ _ (by omega)]; rw [egy71, va_up_ne _ _ (by omega)]; rw [egy16, va_up_ne _ _ (by omega)]; rw [egy13, va_up_ne _ _ (by omega)]; rw [egy7, va_up_ne _ _ (by omega)]; exact f3 j j1⟩
              · have lp166 : ∀ (n9 : Nat) (nz : Int) (nc : Nat) (va : Int) (F8 : Nat → Int) (g1 : Nat → va_E), (900 - nz).toNat = n9 → (g1 i = mC ad i F8) → (∀ j, j ≠ i → g1 j = g j) → (F8 32 = nz) → (F8 33 = nx) → (F8 36 = va) → (F8 37 = -1) → (∀ f, f ≠ 32 → f ≠ 33 → f ≠ 36 → f ≠ 37 → F8 f = F f) → ((nz = (nc : Int) ∧ nx = (na : Int)) ∧ na ≤ nc ∧ nc ≤ n ∧ na < n) → (tk_rn (fun c => decide (tk_ty c = tk_ty (T na))) T n nc = tk_rn (fun c => decide (tk_ty c = tk_ty (T na))) T n na) → (tk_at T n q = na) → (tk_ty (T na) = 2) → (tk_so T n na = 2) → (va = (if nc - na ≤ 4 then tk_dv T na (nc - na) else 99999)) → (0 ≤ va ∧ va ≤ 99999 ∧ (nc - na = 0 → va = 0) ∧ (nc - na = 1 → va ≤ 9) ∧ (nc - na = 2 → va ≤ 99) ∧ (nc - na = 3 → va ≤ 999)) → zV pZ l eZ ({ frames := 3, cells := 0, slots := 0, locals := 180 } : Room) sZ mZ ([.ref (ad i)] : List Value).toArray below meth cZ (MQ below (zPost D A (rV0 N ad fun g' => (∃ F' : Nat → Int, g' i = mC ad i F' ∧ tkR T n F' (tk_at T n q) ∧ (∀ f, f ≠ 32 → f ≠ 33 → f ≠ 35 → f ≠ 36 → f ≠ 37 → F' f = F f)) ∧ ∀ j, j ≠ i → g' j = g j)) ([.ref (ad i)] : List Value).toArray sZ ({ frames := 3, cells := 0, slots := 0, locals := 180 } : Room).cells ({ frames := 3, cells := 0, slots := 0, locals := 180 } : Room).slots A) D A 2 (N) ad g1 (0) (0) 166 [(0, .ref (ad i))] [] := by
                  intro n9
                  induction n9 using Nat.strongRecOn with
                  | ind n9 ih_lp166 =>
                    intro nz nc va F8 g1 hm9 f2b f3b fn2 fp2 fv2 fw2 f4b hv2 hi2 hat hty2 hso2 hva hvb
                    have hay117 : zAt ad (i) (ad i) := rfl
                    have hay118 : zAt ad (i + 13) (ad (i + 13)) := rfl
                    refine z_aload_n C 0 dX10_go_166 rfl ?_
                    refine z_aload_n C 0 dX10_go_167 rfl ?_
                    refine z_get (v := .int (zI (nz))) C (lt_A0 hN rfl) hay117 f2b rfl inA_X10 32 (by decide) q_1491 rfl (fv (F := F8) (f := 32) fn2) dX10_go_168 ?_
                    have h34y120 : F8 34 = (n : Int) := ((f4b 34 (by decide) (by decide) (by decide) (by decide)).trans h34)
                    refine z_cV (As := [.int (zI (nz))]) (rest := []) (ci := 12) C (c_X10_byteAt l D A cs tt N ad _ i hN _ f2b _ ((f3b _ (by omega)).trans ha13) htp (by omega) (nz) (by omega)) (lt_A0 hN rfl) hay117 f2b rfl rfl mv_yX10_byteAt q_1656 hd_yX10_byteAt (by decide) (Nat.le_of_ble_eq_true rfl) (by decide) dX10_go_171 rfl (kI0 fun vy119 gvy119 hvy119 => ?_)
                    rw [h34y120] at hvy119
                    clear h34y120
                    obtain ⟨hrvy119, hpvy119, rfl⟩ := hvy119
                    rw [show (nz).toNat = nc by omega] at hpvy119
                    have hqvy119 : (nz < (n : Int) ∧ vy119 = T nc) ∨ ((n : Int) ≤ nz ∧ vy119 = 0) := by
                      rcases hpvy119 with ⟨a9, b9⟩ | ⟨a9, b9⟩
                      · exact Or.inl ⟨a9, b9.trans (hTt _ (by omega))⟩
                      · exact Or.inr ⟨a9, b9⟩
                    clear hpvy119
                    refine z_bipush (z := 48) C dX10_go_174 (by decide) ?_
                    refine z_icmp_lt (tgt := 247) C dX10_go_176 (by decide) (by omega) (by omega) (fun hby121 => ?_) (fun hby121 => ?_)
                    · have hto : tk_to T n na = nc := by
                        unfold tk_to
                        rw [if_neg (by omega), if_pos (Or.inr hty2)]
                        have e5 : tk_rn (fun c => decide (tk_ty c = tk_ty (T na))) T n na = tk_rn (fun c => decide (tk_ty c = tk_ty (T na))) T n (na + 1) := tk_rn_go (by omega) (decide_eq_true rfl)
                        rw [← e5, ← hi2]
                        exact tk_rn_end (by by_cases e9 : n ≤ nc; exact Or.inl e9; exact Or.inr (decide_eq_false (by have hty9 := tk_ty_c (T nc); omega)))
                      refine z_aload_n C 0 dX10_go_247 rfl ?_
                      refine z_iconst (z := 2) C dX10_go_248 rfl ?_
                      refine z_put (fs' := mF ad (i) (uZ F8 35 (2))) C (lt_A0 hN rfl) hay117 f2b tyX10 tyX10_ok nmX10 rfl inA_X10 35 (by decide) q_1494 rfl rfl rfl rfl (Nat.le_of_ble_eq_true rfl) rfl dX10_go_249 (fun gy122 egy123 => ?_)
                      have hgy124 := up_s egy123
                      refine z_goto (tgt := 291) C dX10_go_252 (by decide) ?_
                      have hFy125 : ∀ f, f ≠ 32 → f ≠ 33 → f ≠ 35 → f ≠ 36 → f ≠ 37 → (uZ F8 35 (2)) f = F f := fun f n32 n33 n35 n36 n37 => ((uZ_n _ _ n35).trans (f4b f n32 n33 n36 n37))
                      have hey126 : (uZ F8 35 (2)) 32 = nz := (fn fn2 (by decide))
                      have hey127 : (uZ F8 35 (2)) 33 = nx := (fn fp2 (by decide))
                      have hey128 : (uZ F8 35 (2)) 34 = (n : Int) := (fn ((f4b 34 (by decide) (by decide) (by decide) (by decide)).trans h34) (by decide))
                      have hey129 : (uZ F8 35 (2)) 35 = 2 := (uZ_s _ _ _)
                      have hey130 : (uZ F8 35 (2)) 36 = va := (fn fv2 (by decide))
                      have hey131 : (uZ F8 35 (2)) 37 = -1 := (fn fw2 (by decide))
                      have hey132 : (uZ F8 35 (2)) 38 = F 38 := (fn (f4b 38 (by decide) (by decide) (by decide) (by decide)) (by decide))
                      have hvl : vlu T n na = va := by rw [vlu2 hso2]; unfold tk_va; rw [hto]; omega
                      have hwd : tk_w T n na = -1 := tk_w_let (by omega)
                      have hsr : srt (tk_so T n na) = 2 := srt2.mpr hso2
                      have htk : tkR T n (uZ F8 35 (2)) na := ⟨by omega, by omega, by omega, by omega, by omega, by omega, by omega, by omega⟩
                      exact z_vret C hr hlk dX10_go_291 (by decide) (by decide) ⟨rfl, rfl, rfl, ⟨_, hgy124, by rw [hat]; exact htk, hFy125⟩, fun j j1 => by rw [egy123, va_up_ne _ _ (by omega)]; exact f3b j j1⟩
                    · refine z_aload_n C 0 dX10_go_179 rfl ?_
                      refine z_aload_n C 0 dX10_go_180 rfl ?_
                      refine z_get (v := .int (zI (nz))) C (lt_A0 hN rfl) hay117 f2b rfl inA_X10 32 (by decide) q_1491 rfl (fv (F := F8) (f := 32) fn2) dX10_go_181 ?_
                      have h34y134 : F8 34 = (n : Int) := ((f4b 34 (by decide) (by decide) (by decide) (by decide)).trans h34)
                      refine z_cV (As := [.int (zI (nz))]) (rest := []) (ci := 12) C (c_X10_byteAt l D A cs tt N ad _ i hN _ f2b _ ((f3b _ (by omega)).trans ha13) htp (by omega) (nz) (by omega)) (lt_A0 hN rfl) hay117 f2b rfl rfl mv_yX10_byteAt q_1656 hd_yX10_byteAt (by decide) (Nat.le_of_ble_eq_true rfl) (by decide) dX10_go_184 rfl (kI0 fun vy133 gvy133 hvy133 => ?_)
                      rw [h34y134] at hvy133
                      clear h34y134
                      obtain ⟨hrvy133, hpvy133, rfl⟩ := hvy133
                      rw [show (nz).toNat = nc by omega] at hpvy133
                      have hqvy133 : (nz < (n : Int) ∧ vy133 = T nc) ∨ ((n : Int) ≤ nz ∧ vy133 = 0) := by
                        rcases hpvy133 with ⟨a9, b9⟩ | ⟨a9, b9⟩
                        · exact Or.inl ⟨a9, b9.trans (hTt _ (by omega))⟩
                        · exact Or.inr ⟨a9, b9⟩
                      clear hpvy133
                      refine z_bipush (z := 57) C dX10_go_187 (by decide) ?_
                      refine z_icmp_gt (tgt := 247) C dX10_go_189 (by decide) (by omega) (by omega) (fun hby135 => ?_) (fun hby135 => ?_)
                      · have hto : tk_to T n na = nc := by
                          unfold tk_to
                          rw [if_neg (by omega), if_pos (Or.inr hty2)]
                          have e5 : tk_rn (fun c => decide (tk_ty c = tk_ty (T na))) T n na = tk_rn (fun c => decide (tk_ty c = tk_ty (T na))) T n (na + 1) := tk_rn_go (by omega) (decide_eq_true rfl)
                          rw [← e5, ← hi2]
                          exact tk_rn_end (by by_cases e9 : n ≤ nc; exact Or.inl e9; exact Or.inr (decide_eq_false (by have hty9 := tk_ty_c (T nc); omega)))
                        refine z_aload_n C 0 dX10_go_247 rfl ?_
                        refine z_iconst (z := 2) C dX10_go_248 rfl ?_
                        refine z_put (fs' := mF ad (i) (uZ F8 35 (2))) C (lt_A0 hN rfl) hay117 f2b tyX10 tyX10_ok nmX10 rfl inA_X10 35 (by decide) q_1494 rfl rfl rfl rfl (Nat.le_of_ble_eq_true rfl) rfl dX10_go_249 (fun gy136 egy137 => ?_)
                        have hgy138 := up_s egy137
                        refine z_goto (tgt := 291) C dX10_go_252 (by decide) ?_
                        have hFy139 : ∀ f, f ≠ 32 → f ≠ 33 → f ≠ 35 → f ≠ 36 → f ≠ 37 → (uZ F8 35 (2)) f = F f := fun f n32 n33 n35 n36 n37 => ((uZ_n _ _ n35).trans (f4b f n32 n33 n36 n37))
                        have hey140 : (uZ F8 35 (2)) 32 = nz := (fn fn2 (by decide))
                        have hey141 : (uZ F8 35 (2)) 33 = nx := (fn fp2 (by decide))
                        have hey142 : (uZ F8 35 (2)) 34 = (n : Int) := (fn ((f4b 34 (by decide) (by decide) (by decide) (by decide)).trans h34) (by decide))
                        have hey143 : (uZ F8 35 (2)) 35 = 2 := (uZ_s _ _ _)
                        have hey144 : (uZ F8 35 (2)) 36 = va := (fn fv2 (by decide))
                        have hey145 : (uZ F8 35 (2)) 37 = -1 := (fn fw2 (by decide))
                        have hey146 : (uZ F8 35 (2)) 38 = F 38 := (fn (f4b 38 (by decide) (by decide) (by decide) (by decide)) (by decide))
                        have hvl : vlu T n na = va := by rw [vlu2 hso2]; unfold tk_va; rw [hto]; omega
                        have hwd : tk_w T n na = -1 := tk_w_let (by omega)
                        have hsr : srt (tk_so T n na) = 2 := srt2.mpr hso2
                        have htk : tkR T n (uZ F8 35 (2)) na := ⟨by omega, by omega, by omega, by omega, by omega, by omega, by omega, by omega⟩
                        exact z_vret C hr hlk dX10_go_291 (by decide) (by decide) ⟨rfl, rfl, rfl, ⟨_, hgy138, by rw [hat]; exact htk, hFy139⟩, fun j j1 => by rw [egy137, va_up_ne _ _ (by omega)]; exact f3b j j1⟩
                      · refine z_aload_n C 0 dX10_go_192 rfl ?_
                        refine z_aload_n C 0 dX10_go_193 rfl ?_
                        refine z_get (v := .int (zI (nz))) C (lt_A0 hN rfl) hay117 f2b rfl inA_X10 32 (by decide) q_1491 rfl (fv (F := F8) (f := 32) fn2) dX10_go_194 ?_
                        refine z_aload_n C 0 dX10_go_197 rfl ?_
                        refine z_get (v := .int (zI (nx))) C (lt_A0 hN rfl) hay117 f2b rfl inA_X10 33 (by decide) q_1492 rfl (fv (F := F8) (f := 33) fp2) dX10_go_198 ?_
                        refine z_isub C dX10_go_201 ?_
                        refine z_iconst (z := 4) C dX10_go_202 rfl ?_
                        refine z_icmp_ge (tgt := 228) C dX10_go_203 (by decide) (by omega) (by omega) (fun hby147 => ?_) (fun hby147 => ?_)
                        · refine z_ldcw (z := 99999) C dX10_go_228 q_1669 (by decide) ?_
                          refine z_put (fs' := mF ad (i) (uZ F8 36 (99999))) C (lt_A0 hN rfl) hay117 f2b tyX10 tyX10_ok nmX10 rfl inA_X10 36 (by decide) q_1495 rfl rfl rfl rfl (Nat.le_of_ble_eq_true rfl) rfl dX10_go_231 (fun gy148 egy149 => ?_)
                          have hgy150 := up_s egy149
                          refine z_aload_n C 0 dX10_go_234 rfl ?_
                          refine z_dup C dX10_go_235 rfl ?_
                          refine z_get (v := .int (zI (nz))) C (lt_A0 hN rfl) hay117 hgy150 rfl inA_X10 32 (by decide) q_1491 rfl (fv (F := (uZ F8 36 (99999))) (f := 32) (fn fn2 (by decide))) dX10_go_236 ?_
                          refine z_iconst (z := 1) C dX10_go_239 rfl ?_
                          refine z_iadd C dX10_go_240 ?_
                          refine z_put (fs' := mF ad (i) (uZ (uZ F8 36 (99999)) 32 (nz + 1))) C (lt_A0 hN rfl) hay117 hgy150 tyX10 tyX10_ok nmX10 rfl inA_X10 32 (by decide) q_1491 rfl rfl rfl rfl (Nat.le_of_ble_eq_true rfl) rfl dX10_go_241 (fun gy151 egy152 => ?_)
                          have hgy153 := up_s egy152
                          refine z_goto (tgt := 166) C dX10_go_244 (by decide) ?_
                          have hFy154 : ∀ f, f ≠ 32 → f ≠ 33 → f ≠ 36 → f ≠ 37 → (uZ (uZ F8 36 (99999)) 32 (nz + 1)) f = F f := fun f n32 n33 n36 n37 => ((uZ_n _ _ n32).trans ((uZ_n _ _ n36).trans (f4b f n32 n33 n36 n37)))
                          refine z_lv (lv' := [(0, .ref (ad i))]) [0] rfl ?_
                          have hty9 := tk_ty_c (T nc)
                          have htyc : tk_ty (T nc) = 2 := by omega
                          have hdc : 48 ≤ T nc ∧ T nc ≤ 57 := by omega
                          clear hty9
                          have hvn : 99999 = (if nc + 1 - na ≤ 4 then tk_dv T na (nc + 1 - na) else 99999) := by
                            by_cases e9 : nc - na < 4
                            · rw [if_pos (by omega)] at hva ⊢; rw [show nc + 1 - na = (nc - na) + 1 by omega]; show _ = 10 * tk_dv T na (nc - na) + T (na + (nc - na)) - 48; rw [← hva, show na + (nc - na) = nc by omega]; omega
                            · rw [if_neg (by omega)]; try omega
                          exact ih_lp166 _ (by omega) (nz + 1) (nc + 1) (99999) _ gy151 rfl hgy153 (fun j j1 => by rw [egy152, va_up_ne _ _ (by omega)]; rw [egy149, va_up_ne _ _ (by omega)]; exact f3b j j1) (uZ_s _ _ _) (fn (fn fp2 (by decide)) (by decide)) (fn (uZ_s _ _ _) (by decide)) (fn (fn fw2 (by decide)) (by decide)) hFy154 (by omega) ((tk_rn_go (by omega) (decide_eq_true (htyc.trans hty2.symm))).symm.trans hi2) hat hty2 hso2 hvn (by omega)
                        · refine z_bipush (z := 10) C dX10_go_206 (by decide) ?_
                          refine z_aload_n C 0 dX10_go_208 rfl ?_
                          refine z_get (v := .int (zI (va))) C (lt_A0 hN rfl) hay117 f2b rfl inA_X10 36 (by decide) q_1495 rfl (fv (F := F8) (f := 36) fv2) dX10_go_209 ?_
                          refine z_imul C dX10_go_212 ?_
                          refine z_aload_n C 0 dX10_go_213 rfl ?_
                          refine z_aload_n C 0 dX10_go_214 rfl ?_
                          refine z_get (v := .int (zI (nz))) C (lt_A0 hN rfl) hay117 f2b rfl inA_X10 32 (by decide) q_1491 rfl (fv (F := F8) (f := 32) fn2) dX10_go_215 ?_
                          have h34y156 : F8 34 = (n : Int) := ((f4b 34 (by decide) (by decide) (by decide) (by decide)).trans h34)
                          refine z_cV (As := [.int (zI (nz))]) (rest := [.int (zI (10 * va)), .ref (ad i)]) (ci := 12) C (c_X10_byteAt l D A cs tt N ad _ i hN _ f2b _ ((f3b _ (by omega)).trans ha13) htp (by omega) (nz) (by omega)) (lt_A0 hN rfl) hay117 f2b rfl rfl mv_yX10_byteAt q_1656 hd_yX10_byteAt (by decide) (Nat.le_of_ble_eq_true rfl) (by decide) dX10_go_218 rfl (kI0 fun vy155 gvy155 hvy155 => ?_)
                          rw [h34y156] at hvy155
                          clear h34y156
                          obtain ⟨hrvy155, hpvy155, rfl⟩ := hvy155
                          rw [show (nz).toNat = nc by omega] at hpvy155
                          have hqvy155 : (nz < (n : Int) ∧ vy155 = T nc) ∨ ((n : Int) ≤ nz ∧ vy155 = 0) := by
                            rcases hpvy155 with ⟨a9, b9⟩ | ⟨a9, b9⟩
                            · exact Or.inl ⟨a9, b9.trans (hTt _ (by omega))⟩
                            · exact Or.inr ⟨a9, b9⟩
                          clear hpvy155
                          refine z_iadd C dX10_go_221 ?_
                          refine z_bipush (z := 48) C dX10_go_222 (by decide) ?_
                          refine z_isub C dX10_go_224 ?_
                          refine z_goto (tgt := 231) C dX10_go_225 (by decide) ?_
                          refine z_put (fs' := mF ad (i) (uZ F8 36 (((10 * va) + vy155) - 48))) C (lt_A0 hN rfl) hay117 f2b tyX10 tyX10_ok nmX10 rfl inA_X10 36 (by decide) q_1495 rfl rfl rfl rfl (Nat.le_of_ble_eq_true rfl) rfl dX10_go_231 (fun gy157 egy158 => ?_)
                          have hgy159 := up_s egy158
                          refine z_aload_n C 0 dX10_go_234 rfl ?_
                          refine z_dup C dX10_go_235 rfl ?_
                          refine z_get (v := .int (zI (nz))) C (lt_A0 hN rfl) hay117 hgy159 rfl inA_X10 32 (by decide) q_1491 rfl (fv (F := (uZ F8 36 (((10 * va) + vy155) - 48))) (f := 32) (fn fn2 (by decide))) dX10_go_236 ?_
                          refine z_iconst (z := 1) C dX10_go_239 rfl ?_
                          refine z_iadd C dX10_go_240 ?_
                          refine z_put (fs' := mF ad (i) (uZ (uZ F8 36 (((10 * va) + vy155) - 48)) 32 (nz + 1))) C (lt_A0 hN rfl) hay117 hgy159 tyX10 tyX10_ok nmX10 rfl inA_X10 32 (by decide) q_1491 rfl rfl rfl rfl (Nat.le_of_ble_eq_true rfl) rfl dX10_go_241 (fun gy160 egy161 => ?_)
                          have hgy162 := up_s egy161
                          refine z_goto (tgt := 166) C dX10_go_244 (by decide) ?_
                          have hFy163 : ∀ f, f ≠ 32 → f ≠ 33 → f ≠ 36 → f ≠ 37 → (uZ (uZ F8 36 (((10 * va) + vy155) - 48)) 32 (nz + 1)) f = F f := fun f n32 n33 n36 n37 => ((uZ_n _ _ n32).trans ((uZ_n _ _ n36).trans (f4b f n32 n33 n36 n37)))
                          refine z_lv (lv' := [(0, .ref (ad i))]) [0] rfl ?_
                          have hty9 := tk_ty_c (T nc)
                          have htyc : tk_ty (T nc) = 2 := by omega
                          have hdc : 48 ≤ T nc ∧ T nc ≤ 57 := by omega
                          clear hty9
                          have hvn : ((10 * va) + vy155) - 48 = (if nc + 1 - na ≤ 4 then tk_dv T na (nc + 1 - na) else 99999) := by
                            by_cases e9 : nc - na < 4
                            · rw [if_pos (by omega)] at hva ⊢; rw [show nc + 1 - na = (nc - na) + 1 by omega]; show _ = 10 * tk_dv T na (nc - na) + T (na + (nc - na)) - 48; rw [← hva, show na + (nc - na) = nc by omega]; omega
                            · rw [if_neg (by omega)]; try omega
                          exact ih_lp166 _ (by omega) (nz + 1) (nc + 1) (((10 * va) + vy155) - 48) _ gy160 rfl hgy162 (fun j j1 => by rw [egy161, va_up_ne _ _ (by omega)]; rw [egy158, va_up_ne _ _ (by omega)]; exact f3b j j1) (uZ_s _ _ _) (fn (fn fp2 (by decide)) (by decide)) (fn (uZ_s _ _ _) (by decide)) (fn (fn fw2 (by decide)) (by decide)) hFy163 (by omega) ((tk_rn_go (by omega) (decide_eq_true (htyc.trans hty2.symm))).symm.trans hi2) hat hty2 hso2 hvn (by omega)
                have hFy164 : ∀ f, f ≠ 32 → f ≠ 33 → f ≠ 36 → f ≠ 37 → (uZ (uZ (uZ F9 33 (nx)) 37 (-1)) 36 (0)) f = F f := fun f n32 n33 n36 n37 => ((uZ_n _ _ n36).trans ((uZ_n _ _ n37).trans ((uZ_n _ _ n33).trans (f4 f n32))))
                have hat : tk_at T n q = na := hi.symm.trans (tk_rn_end (Or.inr (decide_eq_false (by omega))))
                have hty := tk_ty_c (T na)
                have hty2 : tk_ty (T na) = 2 := by omega
                have hso2 : tk_so T n na = 2 := by unfold tk_so; rw [if_neg (by omega)]; exact hty2
                refine z_lv (lv' := [(0, .ref (ad i))]) [1] rfl ?_
                exact lp166 _ (nx) na (0) _ gy15 rfl hgy17 (fun j j1 => by rw [egy16, va_up_ne _ _ (by omega)]; rw [egy13, va_up_ne _ _ (by omega)]; rw [egy7, va_up_ne _ _ (by omega)]; exact f3 j j1) (fn (fn (fn fx0 (by decide)) (by decide)) (by decide)) (fn (fn (uZ_s _ _ _) (by decide)) (by decide)) (uZ_s _ _ _) (fn (uZ_s _ _ _) (by decide)) hFy164 (by omega) rfl hat hty2 hso2 (by rw [if_pos (by omega), show na - na = 0 by omega]; rfl) (by omega)
          · have lp103 : ∀ (n9 : Nat) (ny : Int) (nb : Nat) (F8 : Nat → Int) (g1 : Nat → va_E), (900 - ny).toNat = n9 → (g1 i = mC ad i F8) → (∀ j, j ≠ i → g1 j = g j) → (F8 32 = ny) → (F8 33 = nx) → (F8 36 = 0) → (F8 37 = -1) → (∀ f, f ≠ 32 → f ≠ 33 → f ≠ 36 → f ≠ 37 → F8 f = F f) → ((ny = (nb : Int) ∧ nx = (na : Int)) ∧ na ≤ nb ∧ nb ≤ n ∧ na < n) → (tk_rn (fun c => decide (tk_ty c = tk_ty (T na))) T n nb = tk_rn (fun c => decide (tk_ty c = tk_ty (T na))) T n na) → (tk_at T n q = na) → (tk_ty (T na) = 1) → (tk_so T n na = 1) → zV pZ l eZ ({ frames := 3, cells := 0, slots := 0, locals := 180 } : Room) sZ mZ ([.ref (ad i)] : List Value).toArray below meth cZ (MQ below (zPost D A (rV0 N ad fun g' => (∃ F' : Nat → Int, g' i = mC ad i F' ∧ tkR T n F' (tk_at T n q) ∧ (∀ f, f ≠ 32 → f ≠ 33 → f ≠ 35 → f ≠ 36 → f ≠ 37 → F' f = F f)) ∧ ∀ j, j ≠ i → g' j = g j)) ([.ref (ad i)] : List Value).toArray sZ ({ frames := 3, cells := 0, slots := 0, locals := 180 } : Room).cells ({ frames := 3, cells := 0, slots := 0, locals := 180 } : Room).slots A) D A 2 (N) ad g1 (0) (0) 103 [(0, .ref (ad i))] [] := by
              intro n9
              induction n9 using Nat.strongRecOn with
              | ind n9 ih_lp103 =>
                intro ny nb F8 g1 hm9 f2b f3b fn2 fp2 fv2 fw2 f4b hv2 hi2 hat hty1 hso1
                have hay165 : zAt ad (i) (ad i) := rfl
                have hay166 : zAt ad (i + 13) (ad (i + 13)) := rfl
                refine z_aload_n C 0 dX10_go_103 rfl ?_
                refine z_aload_n C 0 dX10_go_104 rfl ?_
                refine z_get (v := .int (zI (ny))) C (lt_A0 hN rfl) hay165 f2b rfl inA_X10 32 (by decide) q_1491 rfl (fv (F := F8) (f := 32) fn2) dX10_go_105 ?_
                have h34y168 : F8 34 = (n : Int) := ((f4b 34 (by decide) (by decide) (by decide) (by decide)).trans h34)
                refine z_cV (As := [.int (zI (ny))]) (rest := []) (ci := 12) C (c_X10_byteAt l D A cs tt N ad _ i hN _ f2b _ ((f3b _ (by omega)).trans ha13) htp (by omega) (ny) (by omega)) (lt_A0 hN rfl) hay165 f2b rfl rfl mv_yX10_byteAt q_1656 hd_yX10_byteAt (by decide) (Nat.le_of_ble_eq_true rfl) (by decide) dX10_go_108 rfl (kI0 fun vy167 gvy167 hvy167 => ?_)
                rw [h34y168] at hvy167
                clear h34y168
                obtain ⟨hrvy167, hpvy167, rfl⟩ := hvy167
                rw [show (ny).toNat = nb by omega] at hpvy167
                have hqvy167 : (ny < (n : Int) ∧ vy167 = T nb) ∨ ((n : Int) ≤ ny ∧ vy167 = 0) := by
                  rcases hpvy167 with ⟨a9, b9⟩ | ⟨a9, b9⟩
                  · exact Or.inl ⟨a9, b9.trans (hTt _ (by omega))⟩
                  · exact Or.inr ⟨a9, b9⟩
                clear hpvy167
                refine z_cS (As := [.int (zI (vy167))]) (rest := []) C (c_X10_isLetter l D A cs tt N ad _ (vy167) (by omega)) ms_yX10_isLetter q_1660 hd_yX10_isLetter (by decide) (Nat.le_of_ble_eq_true rfl) (by decide) dX10_go_111 rfl (kI0 fun vy169 gvy169 hvy169 => ?_)
                obtain ⟨hvy169, rfl⟩ := hvy169
                refine z_if_eq (tgt := 130) C dX10_go_114 (by decide) (by omega) (fun hby170 => ?_) (fun hby170 => ?_)
                · refine z_aload_n C 0 dX10_go_130 rfl ?_
                  refine z_iconst (z := 1) C dX10_go_131 rfl ?_
                  refine z_put (fs' := mF ad (i) (uZ F8 35 (1))) C (lt_A0 hN rfl) hay165 f2b tyX10 tyX10_ok nmX10 rfl inA_X10 35 (by decide) q_1494 rfl rfl rfl rfl (Nat.le_of_ble_eq_true rfl) rfl dX10_go_132 (fun gy171 egy172 => ?_)
                  have hgy173 := up_s egy172
                  refine z_aload_n C 0 dX10_go_135 rfl ?_
                  refine z_aload_n C 0 dX10_go_136 rfl ?_
                  refine z_aload_n C 0 dX10_go_137 rfl ?_
                  refine z_get (v := .int (zI (nx))) C (lt_A0 hN rfl) hay165 hgy173 rfl inA_X10 33 (by decide) q_1492 rfl (fv (F := (uZ F8 35 (1))) (f := 33) (fn fp2 (by decide))) dX10_go_138 ?_
                  refine z_aload_n C 0 dX10_go_141 rfl ?_
                  refine z_get (v := .int (zI (ny))) C (lt_A0 hN rfl) hay165 hgy173 rfl inA_X10 32 (by decide) q_1491 rfl (fv (F := (uZ F8 35 (1))) (f := 32) (fn fn2 (by decide))) dX10_go_142 ?_
                  have hto : tk_to T n na = nb := by
                    unfold tk_to
                    rw [if_neg (by omega), if_pos (Or.inl hty1)]
                    have e5 : tk_rn (fun c => decide (tk_ty c = tk_ty (T na))) T n na = tk_rn (fun c => decide (tk_ty c = tk_ty (T na))) T n (na + 1) := tk_rn_go (by omega) (decide_eq_true rfl)
                    rw [← e5, ← hi2]
                    exact tk_rn_end (by by_cases e9 : n ≤ nb; exact Or.inl e9; exact Or.inr (decide_eq_false (by have hty9 := tk_ty_c (T nb); omega)))
                  have hgy175 := up_n egy172 ((f3b _ (by omega)).trans ha13) (ne_o (i := i) (c := 13) (d := 0) rfl)
                  have h34y176 : (uZ F8 35 (1)) 34 = (n : Int) := (fn ((f4b 34 (by decide) (by decide) (by decide) (by decide)).trans h34) (by decide))
                  rw [show nx = (na : Int) by omega, show ny = ((tk_to T n na : Nat) : Int) by omega]
                  refine z_cV (As := [.int (zI ((na : Int))), .int (zI (((tk_to T n na : Nat) : Int)))]) (rest := [.ref (ad i)]) (ci := 12) C (c_yWord l D A cs tt N ad _ i hN _ hgy173 _ hgy175 T n hn hTb hTt htp h34y176 na (by omega) hso1) (lt_A0 hN rfl) hay165 hgy173 rfl rfl mv_yX10_wordFrom q_1663 hd_yX10_wordFrom (by decide) (Nat.le_of_ble_eq_true rfl) (by decide) dX10_go_145 rfl (kI0 fun vy174 gvy174 hvy174 => ?_)
                  obtain ⟨rfl, rfl⟩ := hvy174
                  refine z_put (fs' := mF ad (i) (uZ (uZ F8 35 (1)) 37 (tk_w T n na))) C (lt_A0 hN rfl) hay165 hgy173 tyX10 tyX10_ok nmX10 rfl inA_X10 37 (by decide) q_1496 rfl rfl rfl rfl (Nat.le_of_ble_eq_true rfl) rfl dX10_go_148 (fun gy177 egy178 => ?_)
                  have hgy179 := up_s egy178
                  refine z_goto (tgt := 291) C dX10_go_151 (by decide) ?_
                  have hFy180 : ∀ f, f ≠ 32 → f ≠ 33 → f ≠ 35 → f ≠ 36 → f ≠ 37 → (uZ (uZ F8 35 (1)) 37 (tk_w T n na)) f = F f := fun f n32 n33 n35 n36 n37 => ((uZ_n _ _ n37).trans ((uZ_n _ _ n35).trans (f4b f n32 n33 n36 n37)))
                  have hey181 : (uZ (uZ F8 35 (1)) 37 (tk_w T n na)) 32 = ny := (fn (fn fn2 (by decide)) (by decide))
                  have hey182 : (uZ (uZ F8 35 (1)) 37 (tk_w T n na)) 33 = nx := (fn (fn fp2 (by decide)) (by decide))
                  have hey183 : (uZ (uZ F8 35 (1)) 37 (tk_w T n na)) 34 = (n : Int) := (fn (fn ((f4b 34 (by decide) (by decide) (by decide) (by decide)).trans h34) (by decide)) (by decide))
                  have hey184 : (uZ (uZ F8 35 (1)) 37 (tk_w T n na)) 35 = 1 := (fn (uZ_s _ _ _) (by decide))
                  have hey185 : (uZ (uZ F8 35 (1)) 37 (tk_w T n na)) 36 = 0 := (fn (fn fv2 (by decide)) (by decide))
                  have hey186 : (uZ (uZ F8 35 (1)) 37 (tk_w T n na)) 37 = tk_w T n na := (uZ_s _ _ _)
                  have hey187 : (uZ (uZ F8 35 (1)) 37 (tk_w T n na)) 38 = F 38 := (fn (fn (f4b 38 (by decide) (by decide) (by decide) (by decide)) (by decide)) (by decide))
                  have hvl : vlu T n na = 0 := by unfold vlu; rw [if_neg (by omega), if_neg (by omega)]
                  have hsr : srt (tk_so T n na) = 1 := srt1.mpr hso1
                  have hwd : tk_w T n na = tk_w T n na := rfl
                  have htk : tkR T n (uZ (uZ F8 35 (1)) 37 (tk_w T n na)) na := ⟨by omega, by omega, by omega, by omega, by omega, by omega, by omega, by omega⟩
                  exact z_vret C hr hlk dX10_go_291 (by decide) (by decide) ⟨rfl, rfl, rfl, ⟨_, hgy179, by rw [hat]; exact htk, hFy180⟩, fun j j1 => by rw [egy178, va_up_ne _ _ (by omega)]; rw [egy172, va_up_ne _ _ (by omega)]; exact f3b j j1⟩
                · refine z_aload_n C 0 dX10_go_117 rfl ?_
                  refine z_dup C dX10_go_118 rfl ?_
                  refine z_get (v := .int (zI (ny))) C (lt_A0 hN rfl) hay165 f2b rfl inA_X10 32 (by decide) q_1491 rfl (fv (F := F8) (f := 32) fn2) dX10_go_119 ?_
                  refine z_iconst (z := 1) C dX10_go_122 rfl ?_
                  refine z_iadd C dX10_go_123 ?_
                  refine z_put (fs' := mF ad (i) (uZ F8 32 (ny + 1))) C (lt_A0 hN rfl) hay165 f2b tyX10 tyX10_ok nmX10 rfl inA_X10 32 (by decide) q_1491 rfl rfl rfl rfl (Nat.le_of_ble_eq_true rfl) rfl dX10_go_124 (fun gy188 egy189 => ?_)
                  have hgy190 := up_s egy189
                  refine z_goto (tgt := 103) C dX10_go_127 (by decide) ?_
                  have hFy191 : ∀ f, f ≠ 32 → f ≠ 33 → f ≠ 36 → f ≠ 37 → (uZ F8 32 (ny + 1)) f = F f := fun f n32 n33 n36 n37 => ((uZ_n _ _ n32).trans (f4b f n32 n33 n36 n37))
                  refine z_lv (lv' := [(0, .ref (ad i))]) [0] rfl ?_
                  exact ih_lp103 _ (by omega) (ny + 1) (nb + 1) _ gy188 rfl hgy190 (fun j j1 => by rw [egy189, va_up_ne _ _ (by omega)]; exact f3b j j1) (uZ_s _ _ _) (fn fp2 (by decide)) (fn fv2 (by decide)) (fn fw2 (by decide)) hFy191 (by omega) ((tk_rn_go (by omega) (decide_eq_true (by have hty9 := tk_ty_c (T nb); omega))).symm.trans hi2) hat hty1 hso1
            have hFy192 : ∀ f, f ≠ 32 → f ≠ 33 → f ≠ 36 → f ≠ 37 → (uZ (uZ (uZ F9 33 (nx)) 37 (-1)) 36 (0)) f = F f := fun f n32 n33 n36 n37 => ((uZ_n _ _ n36).trans ((uZ_n _ _ n37).trans ((uZ_n _ _ n33).trans (f4 f n32))))
            have hat : tk_at T n q = na := hi.symm.trans (tk_rn_end (Or.inr (decide_eq_false (by omega))))
            have hty := tk_ty_c (T na)
            have hty1 : tk_ty (T na) = 1 := by omega
            have hso1 : tk_so T n na = 1 := by unfold tk_so; rw [if_neg (by omega)]; exact hty1
            refine z_lv (lv' := [(0, .ref (ad i))]) [1] rfl ?_
            exact lp103 _ (nx) na _ gy15 rfl hgy17 (fun j j1 => by rw [egy16, va_up_ne _ _ (by omega)]; rw [egy13, va_up_ne _ _ (by omega)]; rw [egy7, va_up_ne _ _ (by omega)]; exact f3 j j1) (fn (fn (fn fx0 (by decide)) (by decide)) (by decide)) (fn (fn (uZ_s _ _ _) (by decide)) (by decide)) (uZ_s _ _ _) (fn (uZ_s _ _ _) (by decide)) hFy192 (by omega) rfl hat hty1 hso1
        · refine z_aload_n C 1 dX10_go_88 rfl ?_
          refine z_iconst (z := 0) C dX10_go_89 rfl ?_
          refine z_put (fs' := mF ad (i) (uZ (uZ (uZ (uZ F9 33 (nx)) 37 (-1)) 36 (0)) 35 (0))) C (lt_A0 hN rfl) hay3 hgy17 tyX10 tyX10_ok nmX10 rfl inA_X10 35 (by decide) q_1494 rfl rfl rfl rfl (Nat.le_of_ble_eq_true rfl) rfl dX10_go_90 (fun gy193 egy194 => ?_)
          have hgy195 := up_s egy194
          refine z_goto (tgt := 291) C dX10_go_93 (by decide) ?_
          have hFy196 : ∀ f, f ≠ 32 → f ≠ 33 → f ≠ 35 → f ≠ 36 → f ≠ 37 → (uZ (uZ (uZ (uZ F9 33 (nx)) 37 (-1)) 36 (0)) 35 (0)) f = F f := fun f n32 n33 n35 n36 n37 => ((uZ_n _ _ n35).trans ((uZ_n _ _ n36).trans ((uZ_n _ _ n37).trans ((uZ_n _ _ n33).trans (f4 f n32)))))
          have hey197 : (uZ (uZ (uZ (uZ F9 33 (nx)) 37 (-1)) 36 (0)) 35 (0)) 32 = nx := (fn (fn (fn (fn fx0 (by decide)) (by decide)) (by decide)) (by decide))
          have hey198 : (uZ (uZ (uZ (uZ F9 33 (nx)) 37 (-1)) 36 (0)) 35 (0)) 33 = nx := (fn (fn (fn (uZ_s _ _ _) (by decide)) (by decide)) (by decide))
          have hey199 : (uZ (uZ (uZ (uZ F9 33 (nx)) 37 (-1)) 36 (0)) 35 (0)) 34 = (n : Int) := (fn (fn (fn (fn ((f4 34 (by decide)).trans h34) (by decide)) (by decide)) (by decide)) (by decide))
          have hey200 : (uZ (uZ (uZ (uZ F9 33 (nx)) 37 (-1)) 36 (0)) 35 (0)) 35 = 0 := (uZ_s _ _ _)
          have hey201 : (uZ (uZ (uZ (uZ F9 33 (nx)) 37 (-1)) 36 (0)) 35 (0)) 36 = 0 := (fn (uZ_s _ _ _) (by decide))
          have hey202 : (uZ (uZ (uZ (uZ F9 33 (nx)) 37 (-1)) 36 (0)) 35 (0)) 37 = -1 := (fn (fn (uZ_s _ _ _) (by decide)) (by decide))
          have hey203 : (uZ (uZ (uZ (uZ F9 33 (nx)) 37 (-1)) 36 (0)) 35 (0)) 38 = F 38 := (fn (fn (fn (fn (f4 38 (by decide)) (by decide)) (by decide)) (by decide)) (by decide))
          have hat : tk_at T n q = na := hi.symm.trans (tk_rn_end (by first | exact Or.inl (by omega) | exact Or.inr (decide_eq_false (by omega))))
          have hso0 : tk_so T n na = 0 := tk_so_0.mpr (by omega)
          have hto : tk_to T n na = na := by unfold tk_to; rw [if_pos (by omega)]
          have hvl : vlu T n na = 0 := by unfold vlu; rw [if_neg (by omega), if_neg (by omega)]
          have hwd : tk_w T n na = -1 := tk_w_let (by omega)
          have hsr : srt (tk_so T n na) = 0 := srt0.mpr hso0
          have htk : tkR T n (uZ (uZ (uZ (uZ F9 33 (nx)) 37 (-1)) 36 (0)) 35 (0)) na := ⟨by omega, by omega, by omega, by omega, by omega, by omega, by omega, by omega⟩
          exact z_vret C hr hlk dX10_go_291 (by decide) (by decide) ⟨rfl, rfl, rfl, ⟨_, hgy195, by rw [hat]; exact htk, hFy196⟩, fun j j1 => by rw [egy194, va_up_ne _ _ (by omega)]; rw [egy16, va_up_ne _ _ (by omega)]; rw [egy13, va_up_ne _ _ (by omega)]; rw [egy7, va_up_ne _ _ (by omega)]; exact f3 j j1⟩
      · refine z_aload_n C 0 dX10_go_11 rfl ?_
        refine z_aload_n C 0 dX10_go_12 rfl ?_
        refine z_get (v := .int (zI (nx))) C (lt_A0 hN rfl) hay3 f2 rfl inA_X10 32 (by decide) q_1491 rfl (fv (F := F9) (f := 32) fx0) dX10_go_13 ?_
        have h34y205 : F9 34 = (n : Int) := ((f4 34 (by decide)).trans h34)
        refine z_cV (As := [.int (zI (nx))]) (rest := []) (ci := 12) C (c_X10_byteAt l D A cs tt N ad _ i hN _ f2 _ ((f3 _ (by omega)).trans ha13) htp (by omega) (nx) (by omega)) (lt_A0 hN rfl) hay3 f2 rfl rfl mv_yX10_byteAt q_1656 hd_yX10_byteAt (by decide) (Nat.le_of_ble_eq_true rfl) (by decide) dX10_go_16 rfl (kI0 fun vy204 gvy204 hvy204 => ?_)
        rw [h34y205] at hvy204
        clear h34y205
        obtain ⟨hrvy204, hpvy204, rfl⟩ := hvy204
        rw [show (nx).toNat = na by omega] at hpvy204
        have hqvy204 : (nx < (n : Int) ∧ vy204 = T na) ∨ ((n : Int) ≤ nx ∧ vy204 = 0) := by
          rcases hpvy204 with ⟨a9, b9⟩ | ⟨a9, b9⟩
          · exact Or.inl ⟨a9, b9.trans (hTt _ (by omega))⟩
          · exact Or.inr ⟨a9, b9⟩
        clear hpvy204
        refine z_bipush (z := 32) C dX10_go_19 (by decide) ?_
        refine z_icmp_eq (tgt := 37) C dX10_go_21 (by decide) (by omega) (by omega) (fun hby206 => ?_) (fun hby206 => ?_)
        · refine z_aload_n C 0 dX10_go_37 rfl ?_
          refine z_dup C dX10_go_38 rfl ?_
          refine z_get (v := .int (zI (nx))) C (lt_A0 hN rfl) hay3 f2 rfl inA_X10 32 (by decide) q_1491 rfl (fv (F := F9) (f := 32) fx0) dX10_go_39 ?_
          refine z_iconst (z := 1) C dX10_go_42 rfl ?_
          refine z_iadd C dX10_go_43 ?_
          refine z_put (fs' := mF ad (i) (uZ F9 32 (nx + 1))) C (lt_A0 hN rfl) hay3 f2 tyX10 tyX10_ok nmX10 rfl inA_X10 32 (by decide) q_1491 rfl rfl rfl rfl (Nat.le_of_ble_eq_true rfl) rfl dX10_go_44 (fun gy207 egy208 => ?_)
          have hgy209 := up_s egy208
          refine z_goto (tgt := 0) C dX10_go_47 (by decide) ?_
          have hFy210 : ∀ f, f ≠ 32 → (uZ F9 32 (nx + 1)) f = F f := fun f n32 => ((uZ_n _ _ n32).trans (f4 f n32))
          refine z_lv (lv' := [(0, .ref (ad i))]) [0] rfl ?_
          exact ih_lp0 _ (by omega) (nx + 1) (na + 1) _ gy207 rfl hgy209 (fun j j1 => by rw [egy208, va_up_ne _ _ (by omega)]; exact f3 j j1) (uZ_s _ _ _) hFy210 (by omega) ((tk_rn_go (by omega) (decide_eq_true (by omega))).symm.trans hi)
        · refine z_aload_n C 0 dX10_go_24 rfl ?_
          refine z_aload_n C 0 dX10_go_25 rfl ?_
          refine z_get (v := .int (zI (nx))) C (lt_A0 hN rfl) hay3 f2 rfl inA_X10 32 (by decide) q_1491 rfl (fv (F := F9) (f := 32) fx0) dX10_go_26 ?_
          have h34y212 : F9 34 = (n : Int) := ((f4 34 (by decide)).trans h34)
          refine z_cV (As := [.int (zI (nx))]) (rest := []) (ci := 12) C (c_X10_byteAt l D A cs tt N ad _ i hN _ f2 _ ((f3 _ (by omega)).trans ha13) htp (by omega) (nx) (by omega)) (lt_A0 hN rfl) hay3 f2 rfl rfl mv_yX10_byteAt q_1656 hd_yX10_byteAt (by decide) (Nat.le_of_ble_eq_true rfl) (by decide) dX10_go_29 rfl (kI0 fun vy211 gvy211 hvy211 => ?_)
          rw [h34y212] at hvy211
          clear h34y212
          obtain ⟨hrvy211, hpvy211, rfl⟩ := hvy211
          rw [show (nx).toNat = na by omega] at hpvy211
          have hqvy211 : (nx < (n : Int) ∧ vy211 = T na) ∨ ((n : Int) ≤ nx ∧ vy211 = 0) := by
            rcases hpvy211 with ⟨a9, b9⟩ | ⟨a9, b9⟩
            · exact Or.inl ⟨a9, b9.trans (hTt _ (by omega))⟩
            · exact Or.inr ⟨a9, b9⟩
          clear hpvy211
          refine z_bipush (z := 10) C dX10_go_32 (by decide) ?_
          refine z_icmp_ne (tgt := 50) C dX10_go_34 (by decide) (by omega) (by omega) (fun hby213 => ?_) (fun hby213 => ?_)
          · refine z_aload_n C 0 dX10_go_50 rfl ?_
            refine z_aload_n C 0 dX10_go_51 rfl ?_
            refine z_get (v := .int (zI (nx))) C (lt_A0 hN rfl) hay3 f2 rfl inA_X10 32 (by decide) q_1491 rfl (fv (F := F9) (f := 32) fx0) dX10_go_52 ?_
            refine z_put (fs' := mF ad (i) (uZ F9 33 (nx))) C (lt_A0 hN rfl) hay3 f2 tyX10 tyX10_ok nmX10 rfl inA_X10 33 (by decide) q_1492 rfl rfl rfl rfl (Nat.le_of_ble_eq_true rfl) rfl dX10_go_55 (fun gy214 egy215 => ?_)
            have hgy216 := up_s egy215
            refine z_aload_n C 0 dX10_go_58 rfl ?_
            refine z_aload_n C 0 dX10_go_59 rfl ?_
            refine z_get (v := .int (zI (nx))) C (lt_A0 hN rfl) hay3 hgy216 rfl inA_X10 32 (by decide) q_1491 rfl (fv (F := (uZ F9 33 (nx))) (f := 32) (fn fx0 (by decide))) dX10_go_60 ?_
            have hgy218 := up_n egy215 ((f3 _ (by omega)).trans ha13) (ne_o (i := i) (c := 13) (d := 0) rfl)
            have h34y219 : (uZ F9 33 (nx)) 34 = (n : Int) := (fn ((f4 34 (by decide)).trans h34) (by decide))
            refine z_cV (As := [.int (zI (nx))]) (rest := []) (ci := 12) C (c_X10_byteAt l D A cs tt N ad _ i hN _ hgy216 _ hgy218 htp (by omega) (nx) (by omega)) (lt_A0 hN rfl) hay3 hgy216 rfl rfl mv_yX10_byteAt q_1656 hd_yX10_byteAt (by decide) (Nat.le_of_ble_eq_true rfl) (by decide) dX10_go_63 rfl (kI0 fun vy217 gvy217 hvy217 => ?_)
            rw [h34y219] at hvy217
            clear h34y219
            obtain ⟨hrvy217, hpvy217, rfl⟩ := hvy217
            rw [show (nx).toNat = na by omega] at hpvy217
            have hqvy217 : (nx < (n : Int) ∧ vy217 = T na) ∨ ((n : Int) ≤ nx ∧ vy217 = 0) := by
              rcases hpvy217 with ⟨a9, b9⟩ | ⟨a9, b9⟩
              · exact Or.inl ⟨a9, b9.trans (hTt _ (by omega))⟩
              · exact Or.inr ⟨a9, b9⟩
            clear hpvy217
            refine z_istore_n (lv' := [(1, .int (zI (vy217))), (0, .ref (ad i))]) C dX10_go_66 rfl (by decide) rfl ?_
            refine z_aload_n C 1 dX10_go_67 rfl ?_
            refine z_iconst (z := -1) C dX10_go_68 rfl ?_
            refine z_put (fs' := mF ad (i) (uZ (uZ F9 33 (nx)) 37 (-1))) C (lt_A0 hN rfl) hay3 hgy216 tyX10 tyX10_ok nmX10 rfl inA_X10 37 (by decide) q_1496 rfl rfl rfl rfl (Nat.le_of_ble_eq_true rfl) rfl dX10_go_69 (fun gy220 egy221 => ?_)
            have hgy222 := up_s egy221
            refine z_aload_n C 1 dX10_go_72 rfl ?_
            refine z_iconst (z := 0) C dX10_go_73 rfl ?_
            refine z_put (fs' := mF ad (i) (uZ (uZ (uZ F9 33 (nx)) 37 (-1)) 36 (0))) C (lt_A0 hN rfl) hay3 hgy222 tyX10 tyX10_ok nmX10 rfl inA_X10 36 (by decide) q_1495 rfl rfl rfl rfl (Nat.le_of_ble_eq_true rfl) rfl dX10_go_74 (fun gy223 egy224 => ?_)
            have hgy225 := up_s egy224
            refine z_aload_n C 1 dX10_go_77 rfl ?_
            refine z_get (v := .int (zI (nx))) C (lt_A0 hN rfl) hay3 hgy225 rfl inA_X10 32 (by decide) q_1491 rfl (fv (F := (uZ (uZ (uZ F9 33 (nx)) 37 (-1)) 36 (0))) (f := 32) (fn (fn (fn fx0 (by decide)) (by decide)) (by decide))) dX10_go_78 ?_
            refine z_aload_n C 1 dX10_go_81 rfl ?_
            refine z_get (v := .int (zI ((n : Int)))) C (lt_A0 hN rfl) hay3 hgy225 rfl inA_X10 34 (by decide) q_1493 rfl (fv (F := (uZ (uZ (uZ F9 33 (nx)) 37 (-1)) 36 (0))) (f := 34) (fn (fn (fn ((f4 34 (by decide)).trans h34) (by decide)) (by decide)) (by decide))) dX10_go_82 ?_
            refine z_icmp_lt (tgt := 96) C dX10_go_85 (by decide) (by omega) (by omega) (fun hby226 => ?_) (fun hby226 => ?_)
            · refine z_iload_n C 0 dX10_go_96 rfl ?_
              refine z_cS (As := [.int (zI (vy217))]) (rest := []) C (c_X10_isLetter l D A cs tt N ad _ (vy217) (by omega)) ms_yX10_isLetter q_1660 hd_yX10_isLetter (by decide) (Nat.le_of_ble_eq_true rfl) (by decide) dX10_go_97 rfl (kI0 fun vy227 gvy227 hvy227 => ?_)
              obtain ⟨hvy227, rfl⟩ := hvy227
              refine z_if_eq (tgt := 154) C dX10_go_100 (by decide) (by omega) (fun hby228 => ?_) (fun hby228 => ?_)
              · refine z_iload_n C 0 dX10_go_154 rfl ?_
                refine z_bipush (z := 48) C dX10_go_155 (by decide) ?_
                refine z_icmp_lt (tgt := 255) C dX10_go_157 (by decide) (by omega) (by omega) (fun hby229 => ?_) (fun hby229 => ?_)
                · refine z_aload_n C 1 dX10_go_255 rfl ?_
                  refine z_dup C dX10_go_256 rfl ?_
                  refine z_get (v := .int (zI (nx))) C (lt_A0 hN rfl) hay3 hgy225 rfl inA_X10 32 (by decide) q_1491 rfl (fv (F := (uZ (uZ (uZ F9 33 (nx)) 37 (-1)) 36 (0))) (f := 32) (fn (fn (fn fx0 (by decide)) (by decide)) (by decide))) dX10_go_257 ?_
                  refine z_iconst (z := 1) C dX10_go_260 rfl ?_
                  refine z_iadd C dX10_go_261 ?_
                  refine z_put (fs' := mF ad (i) (uZ (uZ (uZ (uZ F9 33 (nx)) 37 (-1)) 36 (0)) 32 (nx + 1))) C (lt_A0 hN rfl) hay3 hgy225 tyX10 tyX10_ok nmX10 rfl inA_X10 32 (by decide) q_1491 rfl rfl rfl rfl (Nat.le_of_ble_eq_true rfl) rfl dX10_go_262 (fun gy230 egy231 => ?_)
                  have hgy232 := up_s egy231
                  refine z_aload_n C 1 dX10_go_265 rfl ?_
                  refine z_iload_n C 0 dX10_go_266 rfl ?_
                  refine z_bipush (z := 59) C dX10_go_267 (by decide) ?_
                  refine z_icmp_eq (tgt := 278) C dX10_go_269 (by decide) (by omega) (by omega) (fun hby233 => ?_) (fun hby233 => ?_)
                  · refine z_iconst (z := 3) C dX10_go_278 rfl ?_
                    refine z_goto (tgt := 283) C dX10_go_279 (by decide) ?_
                    refine z_put (fs' := mF ad (i) (uZ (uZ (uZ (uZ (uZ F9 33 (nx)) 37 (-1)) 36 (0)) 32 (nx + 1)) 35 (3))) C (lt_A0 hN rfl) hay3 hgy232 tyX10 tyX10_ok nmX10 rfl inA_X10 35 (by decide) q_1494 rfl rfl rfl rfl (Nat.le_of_ble_eq_true rfl) rfl dX10_go_283 (fun gy234 egy235 => ?_)
                    have hgy236 := up_s egy235
                    refine z_aload_n C 1 dX10_go_286 rfl ?_
                    refine z_iload_n C 0 dX10_go_287 rfl ?_
                    refine z_put (fs' := mF ad (i) (uZ (uZ (uZ (uZ (uZ (uZ F9 33 (nx)) 37 (-1)) 36 (0)) 32 (nx + 1)) 35 (3)) 36 (vy217))) C (lt_A0 hN rfl) hay3 hgy236 tyX10 tyX10_ok nmX10 rfl inA_X10 36 (by decide) q_1495 rfl rfl rfl rfl (Nat.le_of_ble_eq_true rfl) rfl dX10_go_288 (fun gy237 egy238 => ?_)
                    have hgy239 := up_s egy238
                    have hFy240 : ∀ f, f ≠ 32 → f ≠ 33 → f ≠ 35 → f ≠ 36 → f ≠ 37 → (uZ (uZ (uZ (uZ (uZ (uZ F9 33 (nx)) 37 (-1)) 36 (0)) 32 (nx + 1)) 35 (3)) 36 (vy217)) f = F f := fun f n32 n33 n35 n36 n37 => ((uZ_n _ _ n36).trans ((uZ_n _ _ n35).trans ((uZ_n _ _ n32).trans ((uZ_n _ _ n36).trans ((uZ_n _ _ n37).trans ((uZ_n _ _ n33).trans (f4 f n32)))))))
                    have hey241 : (uZ (uZ (uZ (uZ (uZ (uZ F9 33 (nx)) 37 (-1)) 36 (0)) 32 (nx + 1)) 35 (3)) 36 (vy217)) 32 = nx + 1 := (fn (fn (uZ_s _ _ _) (by decide)) (by decide))
                    have hey242 : (uZ (uZ (uZ (uZ (uZ (uZ F9 33 (nx)) 37 (-1)) 36 (0)) 32 (nx + 1)) 35 (3)) 36 (vy217)) 33 = nx := (fn (fn (fn (fn (fn (uZ_s _ _ _) (by decide)) (by decide)) (by decide)) (by decide)) (by decide))
                    have hey243 : (uZ (uZ (uZ (uZ (uZ (uZ F9 33 (nx)) 37 (-1)) 36 (0)) 32 (nx + 1)) 35 (3)) 36 (vy217)) 34 = (n : Int) := (fn (fn (fn (fn (fn (fn ((f4 34 (by decide)).trans h34) (by decide)) (by decide)) (by decide)) (by decide)) (by decide)) (by decide))
                    have hey244 : (uZ (uZ (uZ (uZ (uZ (uZ F9 33 (nx)) 37 (-1)) 36 (0)) 32 (nx + 1)) 35 (3)) 36 (vy217)) 35 = 3 := (fn (uZ_s _ _ _) (by decide))
                    have hey245 : (uZ (uZ (uZ (uZ (uZ (uZ F9 33 (nx)) 37 (-1)) 36 (0)) 32 (nx + 1)) 35 (3)) 36 (vy217)) 36 = vy217 := (uZ_s _ _ _)
                    have hey246 : (uZ (uZ (uZ (uZ (uZ (uZ F9 33 (nx)) 37 (-1)) 36 (0)) 32 (nx + 1)) 35 (3)) 36 (vy217)) 37 = -1 := (fn (fn (fn (fn (uZ_s _ _ _) (by decide)) (by decide)) (by decide)) (by decide))
                    have hey247 : (uZ (uZ (uZ (uZ (uZ (uZ F9 33 (nx)) 37 (-1)) 36 (0)) 32 (nx + 1)) 35 (3)) 36 (vy217)) 38 = F 38 := (fn (fn (fn (fn (fn (fn (f4 38 (by decide)) (by decide)) (by decide)) (by decide)) (by decide)) (by decide)) (by decide))
                    have hat : tk_at T n q = na := hi.symm.trans (tk_rn_end (by first | exact Or.inl (by omega) | exact Or.inr (decide_eq_false (by omega))))
                    have hty := tk_ty_c (T na)
                    have hsoy : tk_so T n na = tk_ty (T na) := by unfold tk_so; rw [if_neg (by omega)]
                    have hsc := srt_c (tk_so T n na)
                    have hto : tk_to T n na = na + 1 := by unfold tk_to; rw [if_neg (by omega), if_neg (by omega)]
                    have hvl : vlu T n na = T na := by unfold vlu; rw [if_neg (by omega), if_pos (by omega)]
                    have hwd : tk_w T n na = -1 := tk_w_let (by omega)
                    have htk : tkR T n (uZ (uZ (uZ (uZ (uZ (uZ F9 33 (nx)) 37 (-1)) 36 (0)) 32 (nx + 1)) 35 (3)) 36 (vy217)) na := ⟨by omega, by omega, by omega, by omega, by omega, by omega, by omega, by omega⟩
                    exact z_vret C hr hlk dX10_go_291 (by decide) (by decide) ⟨rfl, rfl, rfl, ⟨_, hgy239, by rw [hat]; exact htk, hFy240⟩, fun j j1 => by rw [egy238, va_up_ne _ _ (by omega)]; rw [egy235, va_up_ne _ _ (by omega)]; rw [egy231, va_up_ne _ _ (by omega)]; rw [egy224, va_up_ne _ _ (by omega)]; rw [egy221, va_up_ne _ _ (by omega)]; rw [egy215, va_up_ne _ _ (by omega)]; exact f3 j j1⟩
                  · refine z_iload_n C 0 dX10_go_272 rfl ?_
                    refine z_bipush (z := 45) C dX10_go_273 (by decide) ?_
                    refine z_icmp_ne (tgt := 282) C dX10_go_275 (by decide) (by omega) (by omega) (fun hby248 => ?_) (fun hby248 => ?_)
                    · refine z_iconst (z := 4) C dX10_go_282 rfl ?_
                      refine z_put (fs' := mF ad (i) (uZ (uZ (uZ (uZ (uZ F9 33 (nx)) 37 (-1)) 36 (0)) 32 (nx + 1)) 35 (4))) C (lt_A0 hN rfl) hay3 hgy232 tyX10 tyX10_ok nmX10 rfl inA_X10 35 (by decide) q_1494 rfl rfl rfl rfl (Nat.le_of_ble_eq_true rfl) rfl dX10_go_283 (fun gy249 egy250 => ?_)
                      have hgy251 := up_s egy250
                      refine z_aload_n C 1 dX10_go_286 rfl ?_
                      refine z_iload_n C 0 dX10_go_287 rfl ?_
                      refine z_put (fs' := mF ad (i) (uZ (uZ (uZ (uZ (uZ (uZ F9 33 (nx)) 37 (-1)) 36 (0)) 32 (nx + 1)) 35 (4)) 36 (vy217))) C (lt_A0 hN rfl) hay3 hgy251 tyX10 tyX10_ok nmX10 rfl inA_X10 36 (by decide) q_1495 rfl rfl rfl rfl (Nat.le_of_ble_eq_true rfl) rfl dX10_go_288 (fun gy252 egy253 => ?_)
                      have hgy254 := up_s egy253
                      have hFy255 : ∀ f, f ≠ 32 → f ≠ 33 → f ≠ 35 → f ≠ 36 → f ≠ 37 → (uZ (uZ (uZ (uZ (uZ (uZ F9 33 (nx)) 37 (-1)) 36 (0)) 32 (nx + 1)) 35 (4)) 36 (vy217)) f = F f := fun f n32 n33 n35 n36 n37 => ((uZ_n _ _ n36).trans ((uZ_n _ _ n35).trans ((uZ_n _ _ n32).trans ((uZ_n _ _ n36).trans ((uZ_n _ _ n37).trans ((uZ_n _ _ n33).trans (f4 f n32)))))))
                      have hey256 : (uZ (uZ (uZ (uZ (uZ (uZ F9 33 (nx)) 37 (-1)) 36 (0)) 32 (nx + 1)) 35 (4)) 36 (vy217)) 32 = nx + 1 := (fn (fn (uZ_s _ _ _) (by decide)) (by decide))
                      have hey257 : (uZ (uZ (uZ (uZ (uZ (uZ F9 33 (nx)) 37 (-1)) 36 (0)) 32 (nx + 1)) 35 (4)) 36 (vy217)) 33 = nx := (fn (fn (fn (fn (fn (uZ_s _ _ _) (by decide)) (by decide)) (by decide)) (by decide)) (by decide))
                      have hey258 : (uZ (uZ (uZ (uZ (uZ (uZ F9 33 (nx)) 37 (-1)) 36 (0)) 32 (nx + 1)) 35 (4)) 36 (vy217)) 34 = (n : Int) := (fn (fn (fn (fn (fn (fn ((f4 34 (by decide)).trans h34) (by decide)) (by decide)) (by decide)) (by decide)) (by decide)) (by decide))
                      have hey259 : (uZ (uZ (uZ (uZ (uZ (uZ F9 33 (nx)) 37 (-1)) 36 (0)) 32 (nx + 1)) 35 (4)) 36 (vy217)) 35 = 4 := (fn (uZ_s _ _ _) (by decide))
                      have hey260 : (uZ (uZ (uZ (uZ (uZ (uZ F9 33 (nx)) 37 (-1)) 36 (0)) 32 (nx + 1)) 35 (4)) 36 (vy217)) 36 = vy217 := (uZ_s _ _ _)
                      have hey261 : (uZ (uZ (uZ (uZ (uZ (uZ F9 33 (nx)) 37 (-1)) 36 (0)) 32 (nx + 1)) 35 (4)) 36 (vy217)) 37 = -1 := (fn (fn (fn (fn (uZ_s _ _ _) (by decide)) (by decide)) (by decide)) (by decide))
                      have hey262 : (uZ (uZ (uZ (uZ (uZ (uZ F9 33 (nx)) 37 (-1)) 36 (0)) 32 (nx + 1)) 35 (4)) 36 (vy217)) 38 = F 38 := (fn (fn (fn (fn (fn (fn (f4 38 (by decide)) (by decide)) (by decide)) (by decide)) (by decide)) (by decide)) (by decide))
                      have hat : tk_at T n q = na := hi.symm.trans (tk_rn_end (by first | exact Or.inl (by omega) | exact Or.inr (decide_eq_false (by omega))))
                      have hty := tk_ty_c (T na)
                      have hsoy : tk_so T n na = tk_ty (T na) := by unfold tk_so; rw [if_neg (by omega)]
                      have hsc := srt_c (tk_so T n na)
                      have hto : tk_to T n na = na + 1 := by unfold tk_to; rw [if_neg (by omega), if_neg (by omega)]
                      have hvl : vlu T n na = T na := by unfold vlu; rw [if_neg (by omega), if_pos (by omega)]
                      have hwd : tk_w T n na = -1 := tk_w_let (by omega)
                      have htk : tkR T n (uZ (uZ (uZ (uZ (uZ (uZ F9 33 (nx)) 37 (-1)) 36 (0)) 32 (nx + 1)) 35 (4)) 36 (vy217)) na := ⟨by omega, by omega, by omega, by omega, by omega, by omega, by omega, by omega⟩
                      exact z_vret C hr hlk dX10_go_291 (by decide) (by decide) ⟨rfl, rfl, rfl, ⟨_, hgy254, by rw [hat]; exact htk, hFy255⟩, fun j j1 => by rw [egy253, va_up_ne _ _ (by omega)]; rw [egy250, va_up_ne _ _ (by omega)]; rw [egy231, va_up_ne _ _ (by omega)]; rw [egy224, va_up_ne _ _ (by omega)]; rw [egy221, va_up_ne _ _ (by omega)]; rw [egy215, va_up_ne _ _ (by omega)]; exact f3 j j1⟩
                    · refine z_iconst (z := 3) C dX10_go_278 rfl ?_
                      refine z_goto (tgt := 283) C dX10_go_279 (by decide) ?_
                      refine z_put (fs' := mF ad (i) (uZ (uZ (uZ (uZ (uZ F9 33 (nx)) 37 (-1)) 36 (0)) 32 (nx + 1)) 35 (3))) C (lt_A0 hN rfl) hay3 hgy232 tyX10 tyX10_ok nmX10 rfl inA_X10 35 (by decide) q_1494 rfl rfl rfl rfl (Nat.le_of_ble_eq_true rfl) rfl dX10_go_283 (fun gy263 egy264 => ?_)
                      have hgy265 := up_s egy264
                      refine z_aload_n C 1 dX10_go_286 rfl ?_
                      refine z_iload_n C 0 dX10_go_287 rfl ?_
                      refine z_put (fs' := mF ad (i) (uZ (uZ (uZ (uZ (uZ (uZ F9 33 (nx)) 37 (-1)) 36 (0)) 32 (nx + 1)) 35 (3)) 36 (vy217))) C (lt_A0 hN rfl) hay3 hgy265 tyX10 tyX10_ok nmX10 rfl inA_X10 36 (by decide) q_1495 rfl rfl rfl rfl (Nat.le_of_ble_eq_true rfl) rfl dX10_go_288 (fun gy266 egy267 => ?_)
                      have hgy268 := up_s egy267
                      have hFy269 : ∀ f, f ≠ 32 → f ≠ 33 → f ≠ 35 → f ≠ 36 → f ≠ 37 → (uZ (uZ (uZ (uZ (uZ (uZ F9 33 (nx)) 37 (-1)) 36 (0)) 32 (nx + 1)) 35 (3)) 36 (vy217)) f = F f := fun f n32 n33 n35 n36 n37 => ((uZ_n _ _ n36).trans ((uZ_n _ _ n35).trans ((uZ_n _ _ n32).trans ((uZ_n _ _ n36).trans ((uZ_n _ _ n37).trans ((uZ_n _ _ n33).trans (f4 f n32)))))))
                      have hey270 : (uZ (uZ (uZ (uZ (uZ (uZ F9 33 (nx)) 37 (-1)) 36 (0)) 32 (nx + 1)) 35 (3)) 36 (vy217)) 32 = nx + 1 := (fn (fn (uZ_s _ _ _) (by decide)) (by decide))
                      have hey271 : (uZ (uZ (uZ (uZ (uZ (uZ F9 33 (nx)) 37 (-1)) 36 (0)) 32 (nx + 1)) 35 (3)) 36 (vy217)) 33 = nx := (fn (fn (fn (fn (fn (uZ_s _ _ _) (by decide)) (by decide)) (by decide)) (by decide)) (by decide))
                      have hey272 : (uZ (uZ (uZ (uZ (uZ (uZ F9 33 (nx)) 37 (-1)) 36 (0)) 32 (nx + 1)) 35 (3)) 36 (vy217)) 34 = (n : Int) := (fn (fn (fn (fn (fn (fn ((f4 34 (by decide)).trans h34) (by decide)) (by decide)) (by decide)) (by decide)) (by decide)) (by decide))
                      have hey273 : (uZ (uZ (uZ (uZ (uZ (uZ F9 33 (nx)) 37 (-1)) 36 (0)) 32 (nx + 1)) 35 (3)) 36 (vy217)) 35 = 3 := (fn (uZ_s _ _ _) (by decide))
                      have hey274 : (uZ (uZ (uZ (uZ (uZ (uZ F9 33 (nx)) 37 (-1)) 36 (0)) 32 (nx + 1)) 35 (3)) 36 (vy217)) 36 = vy217 := (uZ_s _ _ _)
                      have hey275 : (uZ (uZ (uZ (uZ (uZ (uZ F9 33 (nx)) 37 (-1)) 36 (0)) 32 (nx + 1)) 35 (3)) 36 (vy217)) 37 = -1 := (fn (fn (fn (fn (uZ_s _ _ _) (by decide)) (by decide)) (by decide)) (by decide))
                      have hey276 : (uZ (uZ (uZ (uZ (uZ (uZ F9 33 (nx)) 37 (-1)) 36 (0)) 32 (nx + 1)) 35 (3)) 36 (vy217)) 38 = F 38 := (fn (fn (fn (fn (fn (fn (f4 38 (by decide)) (by decide)) (by decide)) (by decide)) (by decide)) (by decide)) (by decide))
                      have hat : tk_at T n q = na := hi.symm.trans (tk_rn_end (by first | exact Or.inl (by omega) | exact Or.inr (decide_eq_false (by omega))))
                      have hty := tk_ty_c (T na)
                      have hsoy : tk_so T n na = tk_ty (T na) := by unfold tk_so; rw [if_neg (by omega)]
                      have hsc := srt_c (tk_so T n na)
                      have hto : tk_to T n na = na + 1 := by unfold tk_to; rw [if_neg (by omega), if_neg (by omega)]
                      have hvl : vlu T n na = T na := by unfold vlu; rw [if_neg (by omega), if_pos (by omega)]
                      have hwd : tk_w T n na = -1 := tk_w_let (by omega)
                      have htk : tkR T n (uZ (uZ (uZ (uZ (uZ (uZ F9 33 (nx)) 37 (-1)) 36 (0)) 32 (nx + 1)) 35 (3)) 36 (vy217)) na := ⟨by omega, by omega, by omega, by omega, by omega, by omega, by omega, by omega⟩
                      exact z_vret C hr hlk dX10_go_291 (by decide) (by decide) ⟨rfl, rfl, rfl, ⟨_, hgy268, by rw [hat]; exact htk, hFy269⟩, fun j j1 => by rw [egy267, va_up_ne _ _ (by omega)]; rw [egy264, va_up_ne _ _ (by omega)]; rw [egy231, va_up_ne _ _ (by omega)]; rw [egy224, va_up_ne _ _ (by omega)]; rw [egy221, va_up_ne _ _ (by omega)]; rw [egy215, va_up_ne _ _ (by omega)]; exact f3 j j1⟩
                · refine z_iload_n C 0 dX10_go_160 rfl ?_
                  refine z_bipush (z := 57) C dX10_go_161 (by decide) ?_
                  refine z_icmp_gt (tgt := 255) C dX10_go_163 (by decide) (by omega) (by omega) (fun hby277 => ?_) (fun hby277 => ?_)
                  · refine z_aload_n C 1 dX10_go_255 rfl ?_
                    refine z_dup C dX10_go_256 rfl ?_
                    refine z_get (v := .int (zI (nx))) C (lt_A0 hN rfl) hay3 hgy225 rfl inA_X10 32 (by decide) q_1491 rfl (fv (F := (uZ (uZ (uZ F9 33 (nx)) 37 (-1)) 36 (0))) (f := 32) (fn (fn (fn fx0 (by decide)) (by decide)) (by decide))) dX10_go_257 ?_
                    refine z_iconst (z := 1) C dX10_go_260 rfl ?_
                    refine z_iadd C dX10_go_261 ?_
                    refine z_put (fs' := mF ad (i) (uZ (uZ (uZ (uZ F9 33 (nx)) 37 (-1)) 36 (0)) 32 (nx + 1))) C (lt_A0 hN rfl) hay3 hgy225 tyX10 tyX10_ok nmX10 rfl inA_X10 32 (by decide) q_1491 rfl rfl rfl rfl (Nat.le_of_ble_eq_true rfl) rfl dX10_go_262 (fun gy278 egy279 => ?_)
                    have hgy280 := up_s egy279
                    refine z_aload_n C 1 dX10_go_265 rfl ?_
                    refine z_iload_n C 0 dX10_go_266 rfl ?_
                    refine z_bipush (z := 59) C dX10_go_267 (by decide) ?_
                    refine z_icmp_eq (tgt := 278) C dX10_go_269 (by decide) (by omega) (by omega) (fun hby281 => ?_) (fun hby281 => ?_)
                    · refine z_iconst (z := 3) C dX10_go_278 rfl ?_
                      refine z_goto (tgt := 283) C dX10_go_279 (by decide) ?_
                      refine z_put (fs' := mF ad (i) (uZ (uZ (uZ (uZ (uZ F9 33 (nx)) 37 (-1)) 36 (0)) 32 (nx + 1)) 35 (3))) C (lt_A0 hN rfl) hay3 hgy280 tyX10 tyX10_ok nmX10 rfl inA_X10 35 (by decide) q_1494 rfl rfl rfl rfl (Nat.le_of_ble_eq_true rfl) rfl dX10_go_283 (fun gy282 egy283 => ?_)
                      have hgy284 := up_s egy283
                      refine z_aload_n C 1 dX10_go_286 rfl ?_
                      refine z_iload_n C 0 dX10_go_287 rfl ?_
                      refine z_put (fs' := mF ad (i) (uZ (uZ (uZ (uZ (uZ (uZ F9 33 (nx)) 37 (-1)) 36 (0)) 32 (nx + 1)) 35 (3)) 36 (vy217))) C (lt_A0 hN rfl) hay3 hgy284 tyX10 tyX10_ok nmX10 rfl inA_X10 36 (by decide) q_1495 rfl rfl rfl rfl (Nat.le_of_ble_eq_true rfl) rfl dX10_go_288 (fun gy285 egy286 => ?_)
                      have hgy287 := up_s egy286
                      have hFy288 : ∀ f, f ≠ 32 → f ≠ 33 → f ≠ 35 → f ≠ 36 → f ≠ 37 → (uZ (uZ (uZ (uZ (uZ (uZ F9 33 (nx)) 37 (-1)) 36 (0)) 32 (nx + 1)) 35 (3)) 36 (vy217)) f = F f := fun f n32 n33 n35 n36 n37 => ((uZ_n _ _ n36).trans ((uZ_n _ _ n35).trans ((uZ_n _ _ n32).trans ((uZ_n _ _ n36).trans ((uZ_n _ _ n37).trans ((uZ_n _ _ n33).trans (f4 f n32)))))))
                      have hey289 : (uZ (uZ (uZ (uZ (uZ (uZ F9 33 (nx)) 37 (-1)) 36 (0)) 32 (nx + 1)) 35 (3)) 36 (vy217)) 32 = nx + 1 := (fn (fn (uZ_s _ _ _) (by decide)) (by decide))
                      have hey290 : (uZ (uZ (uZ (uZ (uZ (uZ F9 33 (nx)) 37 (-1)) 36 (0)) 32 (nx + 1)) 35 (3)) 36 (vy217)) 33 = nx := (fn (fn (fn (fn (fn (uZ_s _ _ _) (by decide)) (by decide)) (by decide)) (by decide)) (by decide))
                      have hey291 : (uZ (uZ (uZ (uZ (uZ (uZ F9 33 (nx)) 37 (-1)) 36 (0)) 32 (nx + 1)) 35 (3)) 36 (vy217)) 34 = (n : Int) := (fn (fn (fn (fn (fn (fn ((f4 34 (by decide)).trans h34) (by decide)) (by decide)) (by decide)) (by decide)) (by decide)) (by decide))
                      have hey292 : (uZ (uZ (uZ (uZ (uZ (uZ F9 33 (nx)) 37 (-1)) 36 (0)) 32 (nx + 1)) 35 (3)) 36 (vy217)) 35 = 3 := (fn (uZ_s _ _ _) (by decide))
                      have hey293 : (uZ (uZ (uZ (uZ (uZ (uZ F9 33 (nx)) 37 (-1)) 36 (0)) 32 (nx + 1)) 35 (3)) 36 (vy217)) 36 = vy217 := (uZ_s _ _ _)
                      have hey294 : (uZ (uZ (uZ (uZ (uZ (uZ F9 33 (nx)) 37 (-1)) 36 (0)) 32 (nx + 1)) 35 (3)) 36 (vy217)) 37 = -1 := (fn (fn (fn (fn (uZ_s _ _ _) (by decide)) (by decide)) (by decide)) (by decide))
                      have hey295 : (uZ (uZ (uZ (uZ (uZ (uZ F9 33 (nx)) 37 (-1)) 36 (0)) 32 (nx + 1)) 35 (3)) 36 (vy217)) 38 = F 38 := (fn (fn (fn (fn (fn (fn (f4 38 (by decide)) (by decide)) (by decide)) (by decide)) (by decide)) (by decide)) (by decide))
                      have hat : tk_at T n q = na := hi.symm.trans (tk_rn_end (by first | exact Or.inl (by omega) | exact Or.inr (decide_eq_false (by omega))))
                      have hty := tk_ty_c (T na)
                      have hsoy : tk_so T n na = tk_ty (T na) := by unfold tk_so; rw [if_neg (by omega)]
                      have hsc := srt_c (tk_so T n na)
                      have hto : tk_to T n na = na + 1 := by unfold tk_to; rw [if_neg (by omega), if_neg (by omega)]
                      have hvl : vlu T n na = T na := by unfold vlu; rw [if_neg (by omega), if_pos (by omega)]
                      have hwd : tk_w T n na = -1 := tk_w_let (by omega)
                      have htk : tkR T n (uZ (uZ (uZ (uZ (uZ (uZ F9 33 (nx)) 37 (-1)) 36 (0)) 32 (nx + 1)) 35 (3)) 36 (vy217)) na := ⟨by omega, by omega, by omega, by omega, by omega, by omega, by omega, by omega⟩
                      exact z_vret C hr hlk dX10_go_291 (by decide) (by decide) ⟨rfl, rfl, rfl, ⟨_, hgy287, by rw [hat]; exact htk, hFy288⟩, fun j j1 => by rw [egy286, va_up_ne _ _ (by omega)]; rw [egy283, va_up_ne _ _ (by omega)]; rw [egy279, va_up_ne _ _ (by omega)]; rw [egy224, va_up_ne _ _ (by omega)]; rw [egy221, va_up_ne _ _ (by omega)]; rw [egy215, va_up_ne _ _ (by omega)]; exact f3 j j1⟩
                    · refine z_iload_n C 0 dX10_go_272 rfl ?_
                      refine z_bipush (z := 45) C dX10_go_273 (by decide) ?_
                      refine z_icmp_ne (tgt := 282) C dX10_go_275 (by decide) (by omega) (by omega) (fun hby296 => ?_) (fun hby296 => ?_)
                      · refine z_iconst (z := 4) C dX10_go_282 rfl ?_
                        refine z_put (fs' := mF ad (i) (uZ (uZ (uZ (uZ (uZ F9 33 (nx)) 37 (-1)) 36 (0)) 32 (nx + 1)) 35 (4))) C (lt_A0 hN rfl) hay3 hgy280 tyX10 tyX10_ok nmX10 rfl inA_X10 35 (by decide) q_1494 rfl rfl rfl rfl (Nat.le_of_ble_eq_true rfl) rfl dX10_go_283 (fun gy297 egy298 => ?_)
                        have hgy299 := up_s egy298
                        refine z_aload_n C 1 dX10_go_286 rfl ?_
                        refine z_iload_n C 0 dX10_go_287 rfl ?_
                        refine z_put (fs' := mF ad (i) (uZ (uZ (uZ (uZ (uZ (uZ F9 33 (nx)) 37 (-1)) 36 (0)) 32 (nx + 1)) 35 (4)) 36 (vy217))) C (lt_A0 hN rfl) hay3 hgy299 tyX10 tyX10_ok nmX10 rfl inA_X10 36 (by decide) q_1495 rfl rfl rfl rfl (Nat.le_of_ble_eq_true rfl) rfl dX10_go_288 (fun gy300 egy301 => ?_)
                        have hgy302 := up_s egy301
                        have hFy303 : ∀ f, f ≠ 32 → f ≠ 33 → f ≠ 35 → f ≠ 36 → f ≠ 37 → (uZ (uZ (uZ (uZ (uZ (uZ F9 33 (nx)) 37 (-1)) 36 (0)) 32 (nx + 1)) 35 (4)) 36 (vy217)) f = F f := fun f n32 n33 n35 n36 n37 => ((uZ_n _ _ n36).trans ((uZ_n _ _ n35).trans ((uZ_n _ _ n32).trans ((uZ_n _ _ n36).trans ((uZ_n _ _ n37).trans ((uZ_n _ _ n33).trans (f4 f n32)))))))
                        have hey304 : (uZ (uZ (uZ (uZ (uZ (uZ F9 33 (nx)) 37 (-1)) 36 (0)) 32 (nx + 1)) 35 (4)) 36 (vy217)) 32 = nx + 1 := (fn (fn (uZ_s _ _ _) (by decide)) (by decide))
                        have hey305 : (uZ (uZ (uZ (uZ (uZ (uZ F9 33 (nx)) 37 (-1)) 36 (0)) 32 (nx + 1)) 35 (4)) 36 (vy217)) 33 = nx := (fn (fn (fn (fn (fn (uZ_s _ _ _) (by decide)) (by decide)) (by decide)) (by decide)) (by decide))
                        have hey306 : (uZ (uZ (uZ (uZ (uZ (uZ F9 33 (nx)) 37 (-1)) 36 (0)) 32 (nx + 1)) 35 (4)) 36 (vy217)) 34 = (n : Int) := (fn (fn (fn (fn (fn (fn ((f4 34 (by decide)).trans h34) (by decide)) (by decide)) (by decide)) (by decide)) (by decide)) (by decide))
                        have hey307 : (uZ (uZ (uZ (uZ (uZ (uZ F9 33 (nx)) 37 (-1)) 36 (0)) 32 (nx + 1)) 35 (4)) 36 (vy217)) 35 = 4 := (fn (uZ_s _ _ _) (by decide))
                        have hey308 : (uZ (uZ (uZ (uZ (uZ (uZ F9 33 (nx)) 37 (-1)) 36 (0)) 32 (nx + 1)) 35 (4)) 36 (vy217)) 36 = vy217 := (uZ_s _ _ _)
                        have hey309 : (uZ (uZ (uZ (uZ (uZ (uZ F9 33 (nx)) 37 (-1)) 36 (0)) 32 (nx + 1)) 35 (4)) 36 (vy217)) 37 = -1 := (fn (fn (fn (fn (uZ_s _ _ _) (by decide)) (by decide)) (by decide)) (by decide))
                        have hey310 : (uZ (uZ (uZ (uZ (uZ (uZ F9 33 (nx)) 37 (-1)) 36 (0)) 32 (nx + 1)) 35 (4)) 36 (vy217)) 38 = F 38 := (fn (fn (fn (fn (fn (fn (f4 38 (by decide)) (by decide)) (by decide)) (by decide)) (by decide)) (by decide)) (by decide))
                        have hat : tk_at T n q = na := hi.symm.trans (tk_rn_end (by first | exact Or.inl (by omega) | exact Or.inr (decide_eq_false (by omega))))
                        have hty := tk_ty_c (T na)
                        have hsoy : tk_so T n na = tk_ty (T na) := by unfold tk_so; rw [if_neg (by omega)]
                        have hsc := srt_c (tk_so T n na)
                        have hto : tk_to T n na = na + 1 := by unfold tk_to; rw [if_neg (by omega), if_neg (by omega)]
                        have hvl : vlu T n na = T na := by unfold vlu; rw [if_neg (by omega), if_pos (by omega)]
                        have hwd : tk_w T n na = -1 := tk_w_let (by omega)
                        have htk : tkR T n (uZ (uZ (uZ (uZ (uZ (uZ F9 33 (nx)) 37 (-1)) 36 (0)) 32 (nx + 1)) 35 (4)) 36 (vy217)) na := ⟨by omega, by omega, by omega, by omega, by omega, by omega, by omega, by omega⟩
                        exact z_vret C hr hlk dX10_go_291 (by decide) (by decide) ⟨rfl, rfl, rfl, ⟨_, hgy302, by rw [hat]; exact htk, hFy303⟩, fun j j1 => by rw [egy301, va_up_ne _ _ (by omega)]; rw [egy298, va_up_ne _ _ (by omega)]; rw [egy279, va_up_ne _ _ (by omega)]; rw [egy224, va_up_ne _ _ (by omega)]; rw [egy221, va_up_ne _ _ (by omega)]; rw [egy215, va_up_ne _ _ (by omega)]; exact f3 j j1⟩
                      · refine z_iconst (z := 3) C dX10_go_278 rfl ?_
                        refine z_goto (tgt := 283) C dX10_go_279 (by decide) ?_
                        refine z_put (fs' := mF ad (i) (uZ (uZ (uZ (uZ (uZ F9 33 (nx)) 37 (-1)) 36 (0)) 32 (nx + 1)) 35 (3))) C (lt_A0 hN rfl) hay3 hgy280 tyX10 tyX10_ok nmX10 rfl inA_X10 35 (by decide) q_1494 rfl rfl rfl rfl (Nat.le_of_ble_eq_true rfl) rfl dX10_go_283 (fun gy311 egy312 => ?_)
                        have hgy313 := up_s egy312
                        refine z_aload_n C 1 dX10_go_286 rfl ?_
                        refine z_iload_n C 0 dX10_go_287 rfl ?_
                        refine z_put (fs' := mF ad (i) (uZ (uZ (uZ (uZ (uZ (uZ F9 33 (nx)) 37 (-1)) 36 (0)) 32 (nx + 1)) 35 (3)) 36 (vy217))) C (lt_A0 hN rfl) hay3 hgy313 tyX10 tyX10_ok nmX10 rfl inA_X10 36 (by decide) q_1495 rfl rfl rfl rfl (Nat.le_of_ble_eq_true rfl) rfl dX10_go_288 (fun gy314 egy315 => ?_)
                        have hgy316 := up_s egy315
                        have hFy317 : ∀ f, f ≠ 32 → f ≠ 33 → f ≠ 35 → f ≠ 36 → f ≠ 37 → (uZ (uZ (uZ (uZ (uZ (uZ F9 33 (nx)) 37 (-1)) 36 (0)) 32 (nx + 1)) 35 (3)) 36 (vy217)) f = F f := fun f n32 n33 n35 n36 n37 => ((uZ_n _ _ n36).trans ((uZ_n _ _ n35).trans ((uZ_n _ _ n32).trans ((uZ_n _ _ n36).trans ((uZ_n _ _ n37).trans ((uZ_n _ _ n33).trans (f4 f n32)))))))
                        have hey318 : (uZ (uZ (uZ (uZ (uZ (uZ F9 33 (nx)) 37 (-1)) 36 (0)) 32 (nx + 1)) 35 (3)) 36 (vy217)) 32 = nx + 1 := (fn (fn (uZ_s _ _ _) (by decide)) (by decide))
                        have hey319 : (uZ (uZ (uZ (uZ (uZ (uZ F9 33 (nx)) 37 (-1)) 36 (0)) 32 (nx + 1)) 35 (3)) 36 (vy217)) 33 = nx := (fn (fn (fn (fn (fn (uZ_s _ _ _) (by decide)) (by decide)) (by decide)) (by decide)) (by decide))
                        have hey320 : (uZ (uZ (uZ (uZ (uZ (uZ F9 33 (nx)) 37 (-1)) 36 (0)) 32 (nx + 1)) 35 (3)) 36 (vy217)) 34 = (n : Int) := (fn (fn (fn (fn (fn (fn ((f4 34 (by decide)).trans h34) (by decide)) (by decide)) (by decide)) (by decide)) (by decide)) (by decide))
                        have hey321 : (uZ (uZ (uZ (uZ (uZ (uZ F9 33 (nx)) 37 (-1)) 36 (0)) 32 (nx + 1)) 35 (3)) 36 (vy217)) 35 = 3 := (fn (uZ_s _ _ _) (by decide))
                        have hey322 : (uZ (uZ (uZ (uZ (uZ (uZ F9 33 (nx)) 37 (-1)) 36 (0)) 32 (nx + 1)) 35 (3)) 36 (vy217)) 36 = vy217 := (uZ_s _ _ _)
                        have hey323 : (uZ (uZ (uZ (uZ (uZ (uZ F9 33 (nx)) 37 (-1)) 36 (0)) 32 (nx + 1)) 35 (3)) 36 (vy217)) 37 = -1 := (fn (fn (fn (fn (uZ_s _ _ _) (by decide)) (by decide)) (by decide)) (by decide))
                        have hey324 : (uZ (uZ (uZ (uZ (uZ (uZ F9 33 (nx)) 37 (-1)) 36 (0)) 32 (nx + 1)) 35 (3)) 36 (vy217)) 38 = F 38 := (fn (fn (fn (fn (fn (fn (f4 38 (by decide)) (by decide)) (by decide)) (by decide)) (by decide)) (by decide)) (by decide))
                        have hat : tk_at T n q = na := hi.symm.trans (tk_rn_end (by first | exact Or.inl (by omega) | exact Or.inr (decide_eq_false (by omega))))
                        have hty := tk_ty_c (T na)
                        have hsoy : tk_so T n na = tk_ty (T na) := by unfold tk_so; rw [if_neg (by omega)]
                        have hsc := srt_c (tk_so T n na)
                        have hto : tk_to T n na = na + 1 := by unfold tk_to; rw [if_neg (by omega), if_neg (by omega)]
                        have hvl : vlu T n na = T na := by unfold vlu; rw [if_neg (by omega), if_pos (by omega)]
                        have hwd : tk_w T n na = -1 := tk_w_let (by omega)
                        have htk : tkR T n (uZ (uZ (uZ (uZ (uZ (uZ F9 33 (nx)) 37 (-1)) 36 (0)) 32 (nx + 1)) 35 (3)) 36 (vy217)) na := ⟨by omega, by omega, by omega, by omega, by omega, by omega, by omega, by omega⟩
                        exact z_vret C hr hlk dX10_go_291 (by decide) (by decide) ⟨rfl, rfl, rfl, ⟨_, hgy316, by rw [hat]; exact htk, hFy317⟩, fun j j1 => by rw [egy315, va_up_ne _ _ (by omega)]; rw [egy312, va_up_ne _ _ (by omega)]; rw [egy279, va_up_ne _ _ (by omega)]; rw [egy224, va_up_ne _ _ (by omega)]; rw [egy221, va_up_ne _ _ (by omega)]; rw [egy215, va_up_ne _ _ (by omega)]; exact f3 j j1⟩
                  · have lp166 : ∀ (n9 : Nat) (nz : Int) (nc : Nat) (va : Int) (F8 : Nat → Int) (g1 : Nat → va_E), (900 - nz).toNat = n9 → (g1 i = mC ad i F8) → (∀ j, j ≠ i → g1 j = g j) → (F8 32 = nz) → (F8 33 = nx) → (F8 36 = va) → (F8 37 = -1) → (∀ f, f ≠ 32 → f ≠ 33 → f ≠ 36 → f ≠ 37 → F8 f = F f) → ((nz = (nc : Int) ∧ nx = (na : Int)) ∧ na ≤ nc ∧ nc ≤ n ∧ na < n) → (tk_rn (fun c => decide (tk_ty c = tk_ty (T na))) T n nc = tk_rn (fun c => decide (tk_ty c = tk_ty (T na))) T n na) → (tk_at T n q = na) → (tk_ty (T na) = 2) → (tk_so T n na = 2) → (va = (if nc - na ≤ 4 then tk_dv T na (nc - na) else 99999)) → (0 ≤ va ∧ va ≤ 99999 ∧ (nc - na = 0 → va = 0) ∧ (nc - na = 1 → va ≤ 9) ∧ (nc - na = 2 → va ≤ 99) ∧ (nc - na = 3 → va ≤ 999)) → zV pZ l eZ ({ frames := 3, cells := 0, slots := 0, locals := 180 } : Room) sZ mZ ([.ref (ad i)] : List Value).toArray below meth cZ (MQ below (zPost D A (rV0 N ad fun g' => (∃ F' : Nat → Int, g' i = mC ad i F' ∧ tkR T n F' (tk_at T n q) ∧ (∀ f, f ≠ 32 → f ≠ 33 → f ≠ 35 → f ≠ 36 → f ≠ 37 → F' f = F f)) ∧ ∀ j, j ≠ i → g' j = g j)) ([.ref (ad i)] : List Value).toArray sZ ({ frames := 3, cells := 0, slots := 0, locals := 180 } : Room).cells ({ frames := 3, cells := 0, slots := 0, locals := 180 } : Room).slots A) D A 2 (N) ad g1 (0) (0) 166 [(0, .ref (ad i))] [] := by
                      intro n9
                      induction n9 using Nat.strongRecOn with
                      | ind n9 ih_lp166 =>
                        intro nz nc va F8 g1 hm9 f2b f3b fn2 fp2 fv2 fw2 f4b hv2 hi2 hat hty2 hso2 hva hvb
                        have hay325 : zAt ad (i) (ad i) := rfl
                        have hay326 : zAt ad (i + 13) (ad (i + 13)) := rfl
                        refine z_aload_n C 0 dX10_go_166 rfl ?_
                        refine z_aload_n C 0 dX10_go_167 rfl ?_
                        refine z_get (v := .int (zI (nz))) C (lt_A0 hN rfl) hay325 f2b rfl inA_X10 32 (by decide) q_1491 rfl (fv (F := F8) (f := 32) fn2) dX10_go_168 ?_
                        have h34y328 : F8 34 = (n : Int) := ((f4b 34 (by decide) (by decide) (by decide) (by decide)).trans h34)
                        refine z_cV (As := [.int (zI (nz))]) (rest := []) (ci := 12) C (c_X10_byteAt l D A cs tt N ad _ i hN _ f2b _ ((f3b _ (by omega)).trans ha13) htp (by omega) (nz) (by omega)) (lt_A0 hN rfl) hay325 f2b rfl rfl mv_yX10_byteAt q_1656 hd_yX10_byteAt (by decide) (Nat.le_of_ble_eq_true rfl) (by decide) dX10_go_171 rfl (kI0 fun vy327 gvy327 hvy327 => ?_)
                        rw [h34y328] at hvy327
                        clear h34y328
                        obtain ⟨hrvy327, hpvy327, rfl⟩ := hvy327
                        rw [show (nz).toNat = nc by omega] at hpvy327
                        have hqvy327 : (nz < (n : Int) ∧ vy327 = T nc) ∨ ((n : Int) ≤ nz ∧ vy327 = 0) := by
                          rcases hpvy327 with ⟨a9, b9⟩ | ⟨a9, b9⟩
                          · exact Or.inl ⟨a9, b9.trans (hTt _ (by omega))⟩
                          · exact Or.inr ⟨a9, b9⟩
                        clear hpvy327
                        refine z_bipush (z := 48) C dX10_go_174 (by decide) ?_
                        refine z_icmp_lt (tgt := 247) C dX10_go_176 (by decide) (by omega) (by omega) (fun hby329 => ?_) (fun hby329 => ?_)
                        · have hto : tk_to T n na = nc := by
                            unfold tk_to
                            rw [if_neg (by omega), if_pos (Or.inr hty2)]
                            have e5 : tk_rn (fun c => decide (tk_ty c = tk_ty (T na))) T n na = tk_rn (fun c => decide (tk_ty c = tk_ty (T na))) T n (na + 1) := tk_rn_go (by omega) (decide_eq_true rfl)
                            rw [← e5, ← hi2]
                            exact tk_rn_end (by by_cases e9 : n ≤ nc; exact Or.inl e9; exact Or.inr (decide_eq_false (by have hty9 := tk_ty_c (T nc); omega)))
                          refine z_aload_n C 0 dX10_go_247 rfl ?_
                          refine z_iconst (z := 2) C dX10_go_248 rfl ?_
                          refine z_put (fs' := mF ad (i) (uZ F8 35 (2))) C (lt_A0 hN rfl) hay325 f2b tyX10 tyX10_ok nmX10 rfl inA_X10 35 (by decide) q_1494 rfl rfl rfl rfl (Nat.le_of_ble_eq_true rfl) rfl dX10_go_249 (fun gy330 egy331 => ?_)
                          have hgy332 := up_s egy331
                          refine z_goto (tgt := 291) C dX10_go_252 (by decide) ?_
                          have hFy333 : ∀ f, f ≠ 32 → f ≠ 33 → f ≠ 35 → f ≠ 36 → f ≠ 37 → (uZ F8 35 (2)) f = F f := fun f n32 n33 n35 n36 n37 => ((uZ_n _ _ n35).trans (f4b f n32 n33 n36 n37))
                          have hey334 : (uZ F8 35 (2)) 32 = nz := (fn fn2 (by decide))
                          have hey335 : (uZ F8 35 (2)) 33 = nx := (fn fp2 (by decide))
                          have hey336 : (uZ F8 35 (2)) 34 = (n : Int) := (fn ((f4b 34 (by decide) (by decide) (by decide) (by decide)).trans h34) (by decide))
                          have hey337 : (uZ F8 35 (2)) 35 = 2 := (uZ_s _ _ _)
                          have hey338 : (uZ F8 35 (2)) 36 = va := (fn fv2 (by decide))
                          have hey339 : (uZ F8 35 (2)) 37 = -1 := (fn fw2 (by decide))
                          have hey340 : (uZ F8 35 (2)) 38 = F 38 := (fn (f4b 38 (by decide) (by decide) (by decide) (by decide)) (by decide))
                          have hvl : vlu T n na = va := by rw [vlu2 hso2]; unfold tk_va; rw [hto]; omega
                          have hwd : tk_w T n na = -1 := tk_w_let (by omega)
                          have hsr : srt (tk_so T n na) = 2 := srt2.mpr hso2
                          have htk : tkR T n (uZ F8 35 (2)) na := ⟨by omega, by omega, by omega, by omega, by omega, by omega, by omega, by omega⟩
                          exact z_vret C hr hlk dX10_go_291 (by decide) (by decide) ⟨rfl, rfl, rfl, ⟨_, hgy332, by rw [hat]; exact htk, hFy333⟩, fun j j1 => by rw [egy331, va_up_ne _ _ (by omega)]; exact f3b j j1⟩
                        · refine z_aload_n C 0 dX10_go_179 rfl ?_
                          refine z_aload_n C 0 dX10_go_180 rfl ?_
                          refine z_get (v := .int (zI (nz))) C (lt_A0 hN rfl) hay325 f2b rfl inA_X10 32 (by decide) q_1491 rfl (fv (F := F8) (f := 32) fn2) dX10_go_181 ?_
                          have h34y342 : F8 34 = (n : Int) := ((f4b 34 (by decide) (by decide) (by decide) (by decide)).trans h34)
                          refine z_cV (As := [.int (zI (nz))]) (rest := []) (ci := 12) C (c_X10_byteAt l D A cs tt N ad _ i hN _ f2b _ ((f3b _ (by omega)).trans ha13) htp (by omega) (nz) (by omega)) (lt_A0 hN rfl) hay325 f2b rfl rfl mv_yX10_byteAt q_1656 hd_yX10_byteAt (by decide) (Nat.le_of_ble_eq_true rfl) (by decide) dX10_go_184 rfl (kI0 fun vy341 gvy341 hvy341 => ?_)
                          rw [h34y342] at hvy341
                          clear h34y342
                          obtain ⟨hrvy341, hpvy341, rfl⟩ := hvy341
                          rw [show (nz).toNat = nc by omega] at hpvy341
                          have hqvy341 : (nz < (n : Int) ∧ vy341 = T nc) ∨ ((n : Int) ≤ nz ∧ vy341 = 0) := by
                            rcases hpvy341 with ⟨a9, b9⟩ | ⟨a9, b9⟩
                            · exact Or.inl ⟨a9, b9.trans (hTt _ (by omega))⟩
                            · exact Or.inr ⟨a9, b9⟩
                          clear hpvy341
                          refine z_bipush (z := 57) C dX10_go_187 (by decide) ?_
                          refine z_icmp_gt (tgt := 247) C dX10_go_189 (by decide) (by omega) (by omega) (fun hby343 => ?_) (fun hby343 => ?_)
                          · have hto : tk_to T n na = nc := by
                              unfold tk_to
                              rw [if_neg (by omega), if_pos (Or.inr hty2)]
                              have e5 : tk_rn (fun c => decide (tk_ty c = tk_ty (T na))) T n na = tk_rn (fun c => decide (tk_ty c = tk_ty (T na))) T n (na + 1) := tk_rn_go (by omega) (decide_eq_true rfl)
                              rw [← e5, ← hi2]
                              exact tk_rn_end (by by_cases e9 : n ≤ nc; exact Or.inl e9; exact Or.inr (decide_eq_false (by have hty9 := tk_ty_c (T nc); omega)))
                            refine z_aload_n C 0 dX10_go_247 rfl ?_
                            refine z_iconst (z := 2) C dX10_go_248 rfl ?_
                            refine z_put (fs' := mF ad (i) (uZ F8 35 (2))) C (lt_A0 hN rfl) hay325 f2b tyX10 tyX10_ok nmX10 rfl inA_X10 35 (by decide) q_1494 rfl rfl rfl rfl (Nat.le_of_ble_eq_true rfl) rfl dX10_go_249 (fun gy344 egy345 => ?_)
                            have hgy346 := up_s egy345
                            refine z_goto (tgt := 291) C dX10_go_252 (by decide) ?_
                            have hFy347 : ∀ f, f ≠ 32 → f ≠ 33 → f ≠ 35 → f ≠ 36 → f ≠ 37 → (uZ F8 35 (2)) f = F f := fun f n32 n33 n35 n36 n37 => ((uZ_n _ _ n35).trans (f4b f n32 n33 n36 n37))
                            have hey348 : (uZ F8 35 (2)) 32 = nz := (fn fn2 (by decide))
                            have hey349 : (uZ F8 35 (2)) 33 = nx := (fn fp2 (by decide))
                            have hey350 : (uZ F8 35 (2)) 34 = (n : Int) := (fn ((f4b 34 (by decide) (by decide) (by decide) (by decide)).trans h34) (by decide))
                            have hey351 : (uZ F8 35 (2)) 35 = 2 := (uZ_s _ _ _)
                            have hey352 : (uZ F8 35 (2)) 36 = va := (fn fv2 (by decide))
                            have hey353 : (uZ F8 35 (2)) 37 = -1 := (fn fw2 (by decide))
                            have hey354 : (uZ F8 35 (2)) 38 = F 38 := (fn (f4b 38 (by decide) (by decide) (by decide) (by decide)) (by decide))
                            have hvl : vlu T n na = va := by rw [vlu2 hso2]; unfold tk_va; rw [hto]; omega
                            have hwd : tk_w T n na = -1 := tk_w_let (by omega)
                            have hsr : srt (tk_so T n na) = 2 := srt2.mpr hso2
                            have htk : tkR T n (uZ F8 35 (2)) na := ⟨by omega, by omega, by omega, by omega, by omega, by omega, by omega, by omega⟩
                            exact z_vret C hr hlk dX10_go_291 (by decide) (by decide) ⟨rfl, rfl, rfl, ⟨_, hgy346, by rw [hat]; exact htk, hFy347⟩, fun j j1 => by rw [egy345, va_up_ne _ _ (by omega)]; exact f3b j j1⟩
                          · refine z_aload_n C 0 dX10_go_192 rfl ?_
                            refine z_aload_n C 0 dX10_go_193 rfl ?_
                            refine z_get (v := .int (zI (nz))) C (lt_A0 hN rfl) hay325 f2b rfl inA_X10 32 (by decide) q_1491 rfl (fv (F := F8) (f := 32) fn2) dX10_go_194 ?_
                            refine z_aload_n C 0 dX10_go_197 rfl ?_
                            refine z_get (v := .int (zI (nx))) C (lt_A0 hN rfl) hay325 f2b rfl inA_X10 33 (by decide) q_1492 rfl (fv (F := F8) (f := 33) fp2) dX10_go_198 ?_
                            refine z_isub C dX10_go_201 ?_
                            refine z_iconst (z := 4) C dX10_go_202 rfl ?_
                            refine z_icmp_ge (tgt := 228) C dX10_go_203 (by decide) (by omega) (by omega) (fun hby355 => ?_) (fun hby355 => ?_)
                            · refine z_ldcw (z := 99999) C dX10_go_228 q_1669 (by decide) ?_
                              refine z_put (fs' := mF ad (i) (uZ F8 36 (99999))) C (lt_A0 hN rfl) hay325 f2b tyX10 tyX10_ok nmX10 rfl inA_X10 36 (by decide) q_1495 rfl rfl rfl rfl (Nat.le_of_ble_eq_true rfl) rfl dX10_go_231 (fun gy356 egy357 => ?_)
                              have hgy358 := up_s egy357
                              refine z_aload_n C 0 dX10_go_234 rfl ?_
                              refine z_dup C dX10_go_235 rfl ?_
                              refine z_get (v := .int (zI (nz))) C (lt_A0 hN rfl) hay325 hgy358 rfl inA_X10 32 (by decide) q_1491 rfl (fv (F := (uZ F8 36 (99999))) (f := 32) (fn fn2 (by decide))) dX10_go_236 ?_
                              refine z_iconst (z := 1) C dX10_go_239 rfl ?_
                              refine z_iadd C dX10_go_240 ?_
                              refine z_put (fs' := mF ad (i) (uZ (uZ F8 36 (99999)) 32 (nz + 1))) C (lt_A0 hN rfl) hay325 hgy358 tyX10 tyX10_ok nmX10 rfl inA_X10 32 (by decide) q_1491 rfl rfl rfl rfl (Nat.le_of_ble_eq_true rfl) rfl dX10_go_241 (fun gy359 egy360 => ?_)
                              have hgy361 := up_s egy360
                              refine z_goto (tgt := 166) C dX10_go_244 (by decide) ?_
                              have hFy362 : ∀ f, f ≠ 32 → f ≠ 33 → f ≠ 36 → f ≠ 37 → (uZ (uZ F8 36 (99999)) 32 (nz + 1)) f = F f := fun f n32 n33 n36 n37 => ((uZ_n _ _ n32).trans ((uZ_n _ _ n36).trans (f4b f n32 n33 n36 n37)))
                              refine z_lv (lv' := [(0, .ref (ad i))]) [0] rfl ?_
                              have hty9 := tk_ty_c (T nc)
                              have htyc : tk_ty (T nc) = 2 := by omega
                              have hdc : 48 ≤ T nc ∧ T nc ≤ 57 := by omega
                              clear hty9
                              have hvn : 99999 = (if nc + 1 - na ≤ 4 then tk_dv T na (nc + 1 - na) else 99999) := by
                                by_cases e9 : nc - na < 4
                                · rw [if_pos (by omega)] at hva ⊢; rw [show nc + 1 - na = (nc - na) + 1 by omega]; show _ = 10 * tk_dv T na (nc - na) + T (na + (nc - na)) - 48; rw [← hva, show na + (nc - na) = nc by omega]; omega
                                · rw [if_neg (by omega)]; try omega
                              exact ih_lp166 _ (by omega) (nz + 1) (nc + 1) (99999) _ gy359 rfl hgy361 (fun j j1 => by rw [egy360, va_up_ne _ _ (by omega)]; rw [egy357, va_up_ne _ _ (by omega)]; exact f3b j j1) (uZ_s _ _ _) (fn (fn fp2 (by decide)) (by decide)) (fn (uZ_s _ _ _) (by decide)) (fn (fn fw2 (by decide)) (by decide)) hFy362 (by omega) ((tk_rn_go (by omega) (decide_eq_true (htyc.trans hty2.symm))).symm.trans hi2) hat hty2 hso2 hvn (by omega)
                            · refine z_bipush (z := 10) C dX10_go_206 (by decide) ?_
                              refine z_aload_n C 0 dX10_go_208 rfl ?_
                              refine z_get (v := .int (zI (va))) C (lt_A0 hN rfl) hay325 f2b rfl inA_X10 36 (by decide) q_1495 rfl (fv (F := F8) (f := 36) fv2) dX10_go_209 ?_
                              refine z_imul C dX10_go_212 ?_
                              refine z_aload_n C 0 dX10_go_213 rfl ?_
                              refine z_aload_n C 0 dX10_go_214 rfl ?_
                              refine z_get (v := .int (zI (nz))) C (lt_A0 hN rfl) hay325 f2b rfl inA_X10 32 (by decide) q_1491 rfl (fv (F := F8) (f := 32) fn2) dX10_go_215 ?_
                              have h34y364 : F8 34 = (n : Int) := ((f4b 34 (by decide) (by decide) (by decide) (by decide)).trans h34)
                              refine z_cV (As := [.int (zI (nz))]) (rest := [.int (zI (10 * va)), .ref (ad i)]) (ci := 12) C (c_X10_byteAt l D A cs tt N ad _ i hN _ f2b _ ((f3b _ (by omega)).trans ha13) htp (by omega) (nz) (by omega)) (lt_A0 hN rfl) hay325 f2b rfl rfl mv_yX10_byteAt q_1656 hd_yX10_byteAt (by decide) (Nat.le_of_ble_eq_true rfl) (by decide) dX10_go_218 rfl (kI0 fun vy363 gvy363 hvy363 => ?_)
                              rw [h34y364] at hvy363
                              clear h34y364
                              obtain ⟨hrvy363, hpvy363, rfl⟩ := hvy363
                              rw [show (nz).toNat = nc by omega] at hpvy363
                              have hqvy363 : (nz < (n : Int) ∧ vy363 = T nc) ∨ ((n : Int) ≤ nz ∧ vy363 = 0) := by
                                rcases hpvy363 with ⟨a9, b9⟩ | ⟨a9, b9⟩
                                · exact Or.inl ⟨a9, b9.trans (hTt _ (by omega))⟩
                                · exact Or.inr ⟨a9, b9⟩
                              clear hpvy363
                              refine z_iadd C dX10_go_221 ?_
                              refine z_bipush (z := 48) C dX10_go_222 (by decide) ?_
                              refine z_isub C dX10_go_224 ?_
                              refine z_goto (tgt := 231) C dX10_go_225 (by decide) ?_
                              refine z_put (fs' := mF ad (i) (uZ F8 36 (((10 * va) + vy363) - 48))) C (lt_A0 hN rfl) hay325 f2b tyX10 tyX10_ok nmX10 rfl inA_X10 36 (by decide) q_1495 rfl rfl rfl rfl (Nat.le_of_ble_eq_true rfl) rfl dX10_go_231 (fun gy365 egy366 => ?_)
                              have hgy367 := up_s egy366
                              refine z_aload_n C 0 dX10_go_234 rfl ?_
                              refine z_dup C dX10_go_235 rfl ?_
                              refine z_get (v := .int (zI (nz))) C (lt_A0 hN rfl) hay325 hgy367 rfl inA_X10 32 (by decide) q_1491 rfl (fv (F := (uZ F8 36 (((10 * va) + vy363) - 48))) (f := 32) (fn fn2 (by decide))) dX10_go_236 ?_
                              refine z_iconst (z := 1) C dX10_go_239 rfl ?_
                              refine z_iadd C dX10_go_240 ?_
                              refine z_put (fs' := mF ad (i) (uZ (uZ F8 36 (((10 * va) + vy363) - 48)) 32 (nz + 1))) C (lt_A0 hN rfl) hay325 hgy367 tyX10 tyX10_ok nmX10 rfl inA_X10 32 (by decide) q_1491 rfl rfl rfl rfl (Nat.le_of_ble_eq_true rfl) rfl dX10_go_241 (fun gy368 egy369 => ?_)
                              have hgy370 := up_s egy369
                              refine z_goto (tgt := 166) C dX10_go_244 (by decide) ?_
                              have hFy371 : ∀ f, f ≠ 32 → f ≠ 33 → f ≠ 36 → f ≠ 37 → (uZ (uZ F8 36 (((10 * va) + vy363) - 48)) 32 (nz + 1)) f = F f := fun f n32 n33 n36 n37 => ((uZ_n _ _ n32).trans ((uZ_n _ _ n36).trans (f4b f n32 n33 n36 n37)))
                              refine z_lv (lv' := [(0, .ref (ad i))]) [0] rfl ?_
                              have hty9 := tk_ty_c (T nc)
                              have htyc : tk_ty (T nc) = 2 := by omega
                              have hdc : 48 ≤ T nc ∧ T nc ≤ 57 := by omega
                              clear hty9
                              have hvn : ((10 * va) + vy363) - 48 = (if nc + 1 - na ≤ 4 then tk_dv T na (nc + 1 - na) else 99999) := by
                                by_cases e9 : nc - na < 4
                                · rw [if_pos (by omega)] at hva ⊢; rw [show nc + 1 - na = (nc - na) + 1 by omega]; show _ = 10 * tk_dv T na (nc - na) + T (na + (nc - na)) - 48; rw [← hva, show na + (nc - na) = nc by omega]; omega
                                · rw [if_neg (by omega)]; try omega
                              exact ih_lp166 _ (by omega) (nz + 1) (nc + 1) (((10 * va) + vy363) - 48) _ gy368 rfl hgy370 (fun j j1 => by rw [egy369, va_up_ne _ _ (by omega)]; rw [egy366, va_up_ne _ _ (by omega)]; exact f3b j j1) (uZ_s _ _ _) (fn (fn fp2 (by decide)) (by decide)) (fn (uZ_s _ _ _) (by decide)) (fn (fn fw2 (by decide)) (by decide)) hFy371 (by omega) ((tk_rn_go (by omega) (decide_eq_true (htyc.trans hty2.symm))).symm.trans hi2) hat hty2 hso2 hvn (by omega)
                    have hFy372 : ∀ f, f ≠ 32 → f ≠ 33 → f ≠ 36 → f ≠ 37 → (uZ (uZ (uZ F9 33 (nx)) 37 (-1)) 36 (0)) f = F f := fun f n32 n33 n36 n37 => ((uZ_n _ _ n36).trans ((uZ_n _ _ n37).trans ((uZ_n _ _ n33).trans (f4 f n32))))
                    have hat : tk_at T n q = na := hi.symm.trans (tk_rn_end (Or.inr (decide_eq_false (by omega))))
                    have hty := tk_ty_c (T na)
                    have hty2 : tk_ty (T na) = 2 := by omega
                    have hso2 : tk_so T n na = 2 := by unfold tk_so; rw [if_neg (by omega)]; exact hty2
                    refine z_lv (lv' := [(0, .ref (ad i))]) [1] rfl ?_
                    exact lp166 _ (nx) na (0) _ gy223 rfl hgy225 (fun j j1 => by rw [egy224, va_up_ne _ _ (by omega)]; rw [egy221, va_up_ne _ _ (by omega)]; rw [egy215, va_up_ne _ _ (by omega)]; exact f3 j j1) (fn (fn (fn fx0 (by decide)) (by decide)) (by decide)) (fn (fn (uZ_s _ _ _) (by decide)) (by decide)) (uZ_s _ _ _) (fn (uZ_s _ _ _) (by decide)) hFy372 (by omega) rfl hat hty2 hso2 (by rw [if_pos (by omega), show na - na = 0 by omega]; rfl) (by omega)
              · have lp103 : ∀ (n9 : Nat) (ny : Int) (nb : Nat) (F8 : Nat → Int) (g1 : Nat → va_E), (900 - ny).toNat = n9 → (g1 i = mC ad i F8) → (∀ j, j ≠ i → g1 j = g j) → (F8 32 = ny) → (F8 33 = nx) → (F8 36 = 0) → (F8 37 = -1) → (∀ f, f ≠ 32 → f ≠ 33 → f ≠ 36 → f ≠ 37 → F8 f = F f) → ((ny = (nb : Int) ∧ nx = (na : Int)) ∧ na ≤ nb ∧ nb ≤ n ∧ na < n) → (tk_rn (fun c => decide (tk_ty c = tk_ty (T na))) T n nb = tk_rn (fun c => decide (tk_ty c = tk_ty (T na))) T n na) → (tk_at T n q = na) → (tk_ty (T na) = 1) → (tk_so T n na = 1) → zV pZ l eZ ({ frames := 3, cells := 0, slots := 0, locals := 180 } : Room) sZ mZ ([.ref (ad i)] : List Value).toArray below meth cZ (MQ below (zPost D A (rV0 N ad fun g' => (∃ F' : Nat → Int, g' i = mC ad i F' ∧ tkR T n F' (tk_at T n q) ∧ (∀ f, f ≠ 32 → f ≠ 33 → f ≠ 35 → f ≠ 36 → f ≠ 37 → F' f = F f)) ∧ ∀ j, j ≠ i → g' j = g j)) ([.ref (ad i)] : List Value).toArray sZ ({ frames := 3, cells := 0, slots := 0, locals := 180 } : Room).cells ({ frames := 3, cells := 0, slots := 0, locals := 180 } : Room).slots A) D A 2 (N) ad g1 (0) (0) 103 [(0, .ref (ad i))] [] := by
                  intro n9
                  induction n9 using Nat.strongRecOn with
                  | ind n9 ih_lp103 =>
                    intro ny nb F8 g1 hm9 f2b f3b fn2 fp2 fv2 fw2 f4b hv2 hi2 hat hty1 hso1
                    have hay373 : zAt ad (i) (ad i) := rfl
                    have hay374 : zAt ad (i + 13) (ad (i + 13)) := rfl
                    refine z_aload_n C 0 dX10_go_103 rfl ?_
                    refine z_aload_n C 0 dX10_go_104 rfl ?_
                    refine z_get (v := .int (zI (ny))) C (lt_A0 hN rfl) hay373 f2b rfl inA_X10 32 (by decide) q_1491 rfl (fv (F := F8) (f := 32) fn2) dX10_go_105 ?_
                    have h34y376 : F8 34 = (n : Int) := ((f4b 34 (by decide) (by decide) (by decide) (by decide)).trans h34)
                    refine z_cV (As := [.int (zI (ny))]) (rest := []) (ci := 12) C (c_X10_byteAt l D A cs tt N ad _ i hN _ f2b _ ((f3b _ (by omega)).trans ha13) htp (by omega) (ny) (by omega)) (lt_A0 hN rfl) hay373 f2b rfl rfl mv_yX10_byteAt q_1656 hd_yX10_byteAt (by decide) (Nat.le_of_ble_eq_true rfl) (by decide) dX10_go_108 rfl (kI0 fun vy375 gvy375 hvy375 => ?_)
                    rw [h34y376] at hvy375
                    clear h34y376
                    obtain ⟨hrvy375, hpvy375, rfl⟩ := hvy375
                    rw [show (ny).toNat = nb by omega] at hpvy375
                    have hqvy375 : (ny < (n : Int) ∧ vy375 = T nb) ∨ ((n : Int) ≤ ny ∧ vy375 = 0) := by
                      rcases hpvy375 with ⟨a9, b9⟩ | ⟨a9, b9⟩
                      · exact Or.inl ⟨a9, b9.trans (hTt _ (by omega))⟩
                      · exact Or.inr ⟨a9, b9⟩
                    clear hpvy375
                    refine z_cS (As := [.int (zI (vy375))]) (rest := []) C (c_X10_isLetter l D A cs tt N ad _ (vy375) (by omega)) ms_yX10_isLetter q_1660 hd_yX10_isLetter (by decide) (Nat.le_of_ble_eq_true rfl) (by decide) dX10_go_111 rfl (kI0 fun vy377 gvy377 hvy377 => ?_)
                    obtain ⟨hvy377, rfl⟩ := hvy377
                    refine z_if_eq (tgt := 130) C dX10_go_114 (by decide) (by omega) (fun hby378 => ?_) (fun hby378 => ?_)
                    · refine z_aload_n C 0 dX10_go_130 rfl ?_
                      refine z_iconst (z := 1) C dX10_go_131 rfl ?_
                      refine z_put (fs' := mF ad (i) (uZ F8 35 (1))) C (lt_A0 hN rfl) hay373 f2b tyX10 tyX10_ok nmX10 rfl inA_X10 35 (by decide) q_1494 rfl rfl rfl rfl (Nat.le_of_ble_eq_true rfl) rfl dX10_go_132 (fun gy379 egy380 => ?_)
                      have hgy381 := up_s egy380
                      refine z_aload_n C 0 dX10_go_135 rfl ?_
                      refine z_aload_n C 0 dX10_go_136 rfl ?_
                      refine z_aload_n C 0 dX10_go_137 rfl ?_
                      refine z_get (v := .int (zI (nx))) C (lt_A0 hN rfl) hay373 hgy381 rfl inA_X10 33 (by decide) q_1492 rfl (fv (F := (uZ F8 35 (1))) (f := 33) (fn fp2 (by decide))) dX10_go_138 ?_
                      refine z_aload_n C 0 dX10_go_141 rfl ?_
                      refine z_get (v := .int (zI (ny))) C (lt_A0 hN rfl) hay373 hgy381 rfl inA_X10 32 (by decide) q_1491 rfl (fv (F := (uZ F8 35 (1))) (f := 32) (fn fn2 (by decide))) dX10_go_142 ?_
                      have hto : tk_to T n na = nb := by
                        unfold tk_to
                        rw [if_neg (by omega), if_pos (Or.inl hty1)]
                        have e5 : tk_rn (fun c => decide (tk_ty c = tk_ty (T na))) T n na = tk_rn (fun c => decide (tk_ty c = tk_ty (T na))) T n (na + 1) := tk_rn_go (by omega) (decide_eq_true rfl)
                        rw [← e5, ← hi2]
                        exact tk_rn_end (by by_cases e9 : n ≤ nb; exact Or.inl e9; exact Or.inr (decide_eq_false (by have hty9 := tk_ty_c (T nb); omega)))
                      have hgy383 := up_n egy380 ((f3b _ (by omega)).trans ha13) (ne_o (i := i) (c := 13) (d := 0) rfl)
                      have h34y384 : (uZ F8 35 (1)) 34 = (n : Int) := (fn ((f4b 34 (by decide) (by decide) (by decide) (by decide)).trans h34) (by decide))
                      rw [show nx = (na : Int) by omega, show ny = ((tk_to T n na : Nat) : Int) by omega]
                      refine z_cV (As := [.int (zI ((na : Int))), .int (zI (((tk_to T n na : Nat) : Int)))]) (rest := [.ref (ad i)]) (ci := 12) C (c_yWord l D A cs tt N ad _ i hN _ hgy381 _ hgy383 T n hn hTb hTt htp h34y384 na (by omega) hso1) (lt_A0 hN rfl) hay373 hgy381 rfl rfl mv_yX10_wordFrom q_1663 hd_yX10_wordFrom (by decide) (Nat.le_of_ble_eq_true rfl) (by decide) dX10_go_145 rfl (kI0 fun vy382 gvy382 hvy382 => ?_)
                      obtain ⟨rfl, rfl⟩ := hvy382
                      refine z_put (fs' := mF ad (i) (uZ (uZ F8 35 (1)) 37 (tk_w T n na))) C (lt_A0 hN rfl) hay373 hgy381 tyX10 tyX10_ok nmX10 rfl inA_X10 37 (by decide) q_1496 rfl rfl rfl rfl (Nat.le_of_ble_eq_true rfl) rfl dX10_go_148 (fun gy385 egy386 => ?_)
                      have hgy387 := up_s egy386
                      refine z_goto (tgt := 291) C dX10_go_151 (by decide) ?_
                      have hFy388 : ∀ f, f ≠ 32 → f ≠ 33 → f ≠ 35 → f ≠ 36 → f ≠ 37 → (uZ (uZ F8 35 (1)) 37 (tk_w T n na)) f = F f := fun f n32 n33 n35 n36 n37 => ((uZ_n _ _ n37).trans ((uZ_n _ _ n35).trans (f4b f n32 n33 n36 n37)))
                      have hey389 : (uZ (uZ F8 35 (1)) 37 (tk_w T n na)) 32 = ny := (fn (fn fn2 (by decide)) (by decide))
                      have hey390 : (uZ (uZ F8 35 (1)) 37 (tk_w T n na)) 33 = nx := (fn (fn fp2 (by decide)) (by decide))
                      have hey391 : (uZ (uZ F8 35 (1)) 37 (tk_w T n na)) 34 = (n : Int) := (fn (fn ((f4b 34 (by decide) (by decide) (by decide) (by decide)).trans h34) (by decide)) (by decide))
                      have hey392 : (uZ (uZ F8 35 (1)) 37 (tk_w T n na)) 35 = 1 := (fn (uZ_s _ _ _) (by decide))
                      have hey393 : (uZ (uZ F8 35 (1)) 37 (tk_w T n na)) 36 = 0 := (fn (fn fv2 (by decide)) (by decide))
                      have hey394 : (uZ (uZ F8 35 (1)) 37 (tk_w T n na)) 37 = tk_w T n na := (uZ_s _ _ _)
                      have hey395 : (uZ (uZ F8 35 (1)) 37 (tk_w T n na)) 38 = F 38 := (fn (fn (f4b 38 (by decide) (by decide) (by decide) (by decide)) (by decide)) (by decide))
                      have hvl : vlu T n na = 0 := by unfold vlu; rw [if_neg (by omega), if_neg (by omega)]
                      have hsr : srt (tk_so T n na) = 1 := srt1.mpr hso1
                      have hwd : tk_w T n na = tk_w T n na := rfl
                      have htk : tkR T n (uZ (uZ F8 35 (1)) 37 (tk_w T n na)) na := ⟨by omega, by omega, by omega, by omega, by omega, by omega, by omega, by omega⟩
                      exact z_vret C hr hlk dX10_go_291 (by decide) (by decide) ⟨rfl, rfl, rfl, ⟨_, hgy387, by rw [hat]; exact htk, hFy388⟩, fun j j1 => by rw [egy386, va_up_ne _ _ (by omega)]; rw [egy380, va_up_ne _ _ (by omega)]; exact f3b j j1⟩
                    · refine z_aload_n C 0 dX10_go_117 rfl ?_
                      refine z_dup C dX10_go_118 rfl ?_
                      refine z_get (v := .int (zI (ny))) C (lt_A0 hN rfl) hay373 f2b rfl inA_X10 32 (by decide) q_1491 rfl (fv (F := F8) (f := 32) fn2) dX10_go_119 ?_
                      refine z_iconst (z := 1) C dX10_go_122 rfl ?_
                      refine z_iadd C dX10_go_123 ?_
                      refine z_put (fs' := mF ad (i) (uZ F8 32 (ny + 1))) C (lt_A0 hN rfl) hay373 f2b tyX10 tyX10_ok nmX10 rfl inA_X10 32 (by decide) q_1491 rfl rfl rfl rfl (Nat.le_of_ble_eq_true rfl) rfl dX10_go_124 (fun gy396 egy397 => ?_)
                      have hgy398 := up_s egy397
                      refine z_goto (tgt := 103) C dX10_go_127 (by decide) ?_
                      have hFy399 : ∀ f, f ≠ 32 → f ≠ 33 → f ≠ 36 → f ≠ 37 → (uZ F8 32 (ny + 1)) f = F f := fun f n32 n33 n36 n37 => ((uZ_n _ _ n32).trans (f4b f n32 n33 n36 n37))
                      refine z_lv (lv' := [(0, .ref (ad i))]) [0] rfl ?_
                      exact ih_lp103 _ (by omega) (ny + 1) (nb + 1) _ gy396 rfl hgy398 (fun j j1 => by rw [egy397, va_up_ne _ _ (by omega)]; exact f3b j j1) (uZ_s _ _ _) (fn fp2 (by decide)) (fn fv2 (by decide)) (fn fw2 (by decide)) hFy399 (by omega) ((tk_rn_go (by omega) (decide_eq_true (by have hty9 := tk_ty_c (T nb); omega))).symm.trans hi2) hat hty1 hso1
                have hFy400 : ∀ f, f ≠ 32 → f ≠ 33 → f ≠ 36 → f ≠ 37 → (uZ (uZ (uZ F9 33 (nx)) 37 (-1)) 36 (0)) f = F f := fun f n32 n33 n36 n37 => ((uZ_n _ _ n36).trans ((uZ_n _ _ n37).trans ((uZ_n _ _ n33).trans (f4 f n32))))
                have hat : tk_at T n q = na := hi.symm.trans (tk_rn_end (Or.inr (decide_eq_false (by omega))))
                have hty := tk_ty_c (T na)
                have hty1 : tk_ty (T na) = 1 := by omega
                have hso1 : tk_so T n na = 1 := by unfold tk_so; rw [if_neg (by omega)]; exact hty1
                refine z_lv (lv' := [(0, .ref (ad i))]) [1] rfl ?_
                exact lp103 _ (nx) na _ gy223 rfl hgy225 (fun j j1 => by rw [egy224, va_up_ne _ _ (by omega)]; rw [egy221, va_up_ne _ _ (by omega)]; rw [egy215, va_up_ne _ _ (by omega)]; exact f3 j j1) (fn (fn (fn fx0 (by decide)) (by decide)) (by decide)) (fn (fn (uZ_s _ _ _) (by decide)) (by decide)) (uZ_s _ _ _) (fn (uZ_s _ _ _) (by decide)) hFy400 (by omega) rfl hat hty1 hso1
            · refine z_aload_n C 1 dX10_go_88 rfl ?_
              refine z_iconst (z := 0) C dX10_go_89 rfl ?_
              refine z_put (fs' := mF ad (i) (uZ (uZ (uZ (uZ F9 33 (nx)) 37 (-1)) 36 (0)) 35 (0))) C (lt_A0 hN rfl) hay3 hgy225 tyX10 tyX10_ok nmX10 rfl inA_X10 35 (by decide) q_1494 rfl rfl rfl rfl (Nat.le_of_ble_eq_true rfl) rfl dX10_go_90 (fun gy401 egy402 => ?_)
              have hgy403 := up_s egy402
              refine z_goto (tgt := 291) C dX10_go_93 (by decide) ?_
              have hFy404 : ∀ f, f ≠ 32 → f ≠ 33 → f ≠ 35 → f ≠ 36 → f ≠ 37 → (uZ (uZ (uZ (uZ F9 33 (nx)) 37 (-1)) 36 (0)) 35 (0)) f = F f := fun f n32 n33 n35 n36 n37 => ((uZ_n _ _ n35).trans ((uZ_n _ _ n36).trans ((uZ_n _ _ n37).trans ((uZ_n _ _ n33).trans (f4 f n32)))))
              have hey405 : (uZ (uZ (uZ (uZ F9 33 (nx)) 37 (-1)) 36 (0)) 35 (0)) 32 = nx := (fn (fn (fn (fn fx0 (by decide)) (by decide)) (by decide)) (by decide))
              have hey406 : (uZ (uZ (uZ (uZ F9 33 (nx)) 37 (-1)) 36 (0)) 35 (0)) 33 = nx := (fn (fn (fn (uZ_s _ _ _) (by decide)) (by decide)) (by decide))
              have hey407 : (uZ (uZ (uZ (uZ F9 33 (nx)) 37 (-1)) 36 (0)) 35 (0)) 34 = (n : Int) := (fn (fn (fn (fn ((f4 34 (by decide)).trans h34) (by decide)) (by decide)) (by decide)) (by decide))
              have hey408 : (uZ (uZ (uZ (uZ F9 33 (nx)) 37 (-1)) 36 (0)) 35 (0)) 35 = 0 := (uZ_s _ _ _)
              have hey409 : (uZ (uZ (uZ (uZ F9 33 (nx)) 37 (-1)) 36 (0)) 35 (0)) 36 = 0 := (fn (uZ_s _ _ _) (by decide))
              have hey410 : (uZ (uZ (uZ (uZ F9 33 (nx)) 37 (-1)) 36 (0)) 35 (0)) 37 = -1 := (fn (fn (uZ_s _ _ _) (by decide)) (by decide))
              have hey411 : (uZ (uZ (uZ (uZ F9 33 (nx)) 37 (-1)) 36 (0)) 35 (0)) 38 = F 38 := (fn (fn (fn (fn (f4 38 (by decide)) (by decide)) (by decide)) (by decide)) (by decide))
              have hat : tk_at T n q = na := hi.symm.trans (tk_rn_end (by first | exact Or.inl (by omega) | exact Or.inr (decide_eq_false (by omega))))
              have hso0 : tk_so T n na = 0 := tk_so_0.mpr (by omega)
              have hto : tk_to T n na = na := by unfold tk_to; rw [if_pos (by omega)]
              have hvl : vlu T n na = 0 := by unfold vlu; rw [if_neg (by omega), if_neg (by omega)]
              have hwd : tk_w T n na = -1 := tk_w_let (by omega)
              have hsr : srt (tk_so T n na) = 0 := srt0.mpr hso0
              have htk : tkR T n (uZ (uZ (uZ (uZ F9 33 (nx)) 37 (-1)) 36 (0)) 35 (0)) na := ⟨by omega, by omega, by omega, by omega, by omega, by omega, by omega, by omega⟩
              exact z_vret C hr hlk dX10_go_291 (by decide) (by decide) ⟨rfl, rfl, rfl, ⟨_, hgy403, by rw [hat]; exact htk, hFy404⟩, fun j j1 => by rw [egy402, va_up_ne _ _ (by omega)]; rw [egy224, va_up_ne _ _ (by omega)]; rw [egy221, va_up_ne _ _ (by omega)]; rw [egy215, va_up_ne _ _ (by omega)]; exact f3 j j1⟩
          · refine z_aload_n C 0 dX10_go_37 rfl ?_
            refine z_dup C dX10_go_38 rfl ?_
            refine z_get (v := .int (zI (nx))) C (lt_A0 hN rfl) hay3 f2 rfl inA_X10 32 (by decide) q_1491 rfl (fv (F := F9) (f := 32) fx0) dX10_go_39 ?_
            refine z_iconst (z := 1) C dX10_go_42 rfl ?_
            refine z_iadd C dX10_go_43 ?_
            refine z_put (fs' := mF ad (i) (uZ F9 32 (nx + 1))) C (lt_A0 hN rfl) hay3 f2 tyX10 tyX10_ok nmX10 rfl inA_X10 32 (by decide) q_1491 rfl rfl rfl rfl (Nat.le_of_ble_eq_true rfl) rfl dX10_go_44 (fun gy412 egy413 => ?_)
            have hgy414 := up_s egy413
            refine z_goto (tgt := 0) C dX10_go_47 (by decide) ?_
            have hFy415 : ∀ f, f ≠ 32 → (uZ F9 32 (nx + 1)) f = F f := fun f n32 => ((uZ_n _ _ n32).trans (f4 f n32))
            refine z_lv (lv' := [(0, .ref (ad i))]) [0] rfl ?_
            exact ih_lp0 _ (by omega) (nx + 1) (na + 1) _ gy412 rfl hgy414 (fun j j1 => by rw [egy413, va_up_ne _ _ (by omega)]; exact f3 j j1) (uZ_s _ _ _) hFy415 (by omega) ((tk_rn_go (by omega) (decide_eq_true (by omega))).symm.trans hi)
  have hFy416 : ∀ f, f ≠ 32 → F f = F f := fun f n32 => rfl
  refine z_lv (lv' := [(0, .ref (ad i))]) [0] rfl ?_
  exact lp0 _ ((q : Int)) q _ g rfl hg (fun j j1 => by rfl) h32 hFy416 (by omega) rfl

set_option maxRecDepth 100000 in
set_option maxHeartbeats 4000000 in
theorem c_yWants (l : Launch) (D : va_G) (A : Nat → Prop) (cs : Nat → ClassId) (tt : Nat) (N : Nat) (ad : Nat → Nat) (g : Nat → va_E) (i : Nat) (hN : i + 30 ≤ N) (F : Nat → Int) (hg : g i = mC ad i F) (h38 : F 38 = 0) (z : Int) (hz : 0 ≤ z ∧ z ≤ 1) (z1 : Int) (hz1 : 1 ≤ z1 ∧ z1 ≤ 5) : zM l yX10_wants cX10_wants 3 (some .boolean) ({ frames := 1, cells := 0, slots := 0, locals := 60 } : Room) D A cs tt N ad g [.ref (ad i), .int (zI (z)), .int (zI (z1))] (rI0 N ad fun r g' => (∃ F' : Nat → Int, g' i = mC ad i F' ∧ ((r = 1 ∧ z ≠ 0 ∧ F' 38 = 0 ∧ F' 24 = F 24) ∨ (r = 0 ∧ z = 0 ∧ F' 38 = z1 ∧ F' 24 = F 33)) ∧ (∀ f, f ≠ 24 → f ≠ 38 → F' f = F f)) ∧ ∀ j, j ≠ i → g' j = g j) := by
  have hay1 : zAt ad (i) (ad i) := rfl
  refine z_of (by decide) (Nat.le_of_ble_eq_true rfl) ?_
  intro pZ eZ sZ mZ below meth cZ C hr hlk hnm
  refine z_lv (lv' := [(0, .ref (ad i)), (1, .int (zI (z))), (2, .int (zI (z1)))]) [0, 1, 2] rfl ?_
  refine z_aload_n C 0 dX10_wants_0 rfl ?_
  refine z_get (v := .int (zI (0))) C (lt_A0 hN rfl) hay1 hg rfl inA_X10 38 (by decide) q_1497 rfl (fv (F := F) (f := 38) h38) dX10_wants_1 ?_
  refine z_if_ne (tgt := 24) C dX10_wants_4 (by decide) (by omega) (fun h => absurd h (by omega)) (fun _ => ?_)
  refine z_iload_n C 1 dX10_wants_7 rfl ?_
  refine z_if_ne (tgt := 24) C dX10_wants_8 (by decide) (by omega) (fun hby2 => ?_) (fun hby2 => ?_)
  · refine z_aload_n C 0 dX10_wants_24 rfl ?_
    refine z_get (v := .int (zI (0))) C (lt_A0 hN rfl) hay1 hg rfl inA_X10 38 (by decide) q_1497 rfl (fv (F := F) (f := 38) h38) dX10_wants_25 ?_
    refine z_if_ne (tgt := 35) C dX10_wants_28 (by decide) (by omega) (fun h => absurd h (by omega)) (fun _ => ?_)
    refine z_iconst (z := 1) C dX10_wants_31 rfl ?_
    refine z_goto (tgt := 36) C dX10_wants_32 (by decide) ?_
    have hFy3 : ∀ f, f ≠ 24 → f ≠ 38 → F f = F f := fun f n24 n38 => rfl
    have hey4 : F 24 = F 24 := rfl
    have hey5 : F 38 = 0 := h38
    have hey6 : F 33 = F 33 := rfl
    exact z_zret C hr hlk dX10_wants_36 (by decide) (by decide) (by decide) ⟨1, rfl, rfl, rfl, ⟨_, hg, by omega, hFy3⟩, fun j j1 => by rfl⟩
  · refine z_aload_n C 0 dX10_wants_11 rfl ?_
    refine z_iload_n C 2 dX10_wants_12 rfl ?_
    refine z_put (fs' := mF ad (i) (uZ F 38 (z1))) C (lt_A0 hN rfl) hay1 hg tyX10 tyX10_ok nmX10 rfl inA_X10 38 (by decide) q_1497 rfl rfl rfl rfl (Nat.le_of_ble_eq_true rfl) rfl dX10_wants_13 (fun gy7 egy8 => ?_)
    have hgy9 := up_s egy8
    refine z_aload_n C 0 dX10_wants_16 rfl ?_
    refine z_aload_n C 0 dX10_wants_17 rfl ?_
    refine z_get (v := .int (zI (F 33))) C (lt_A0 hN rfl) hay1 hgy9 rfl inA_X10 33 (by decide) q_1492 rfl (fv (F := (uZ F 38 (z1))) (f := 33) (fn rfl (by decide))) dX10_wants_18 ?_
    refine z_put (fs' := mF ad (i) (uZ (uZ F 38 (z1)) 24 (F 33))) C (lt_A0 hN rfl) hay1 hgy9 tyX10 tyX10_ok nmX10 rfl inA_X10 24 (by decide) q_1483 rfl rfl rfl rfl (Nat.le_of_ble_eq_true rfl) rfl dX10_wants_21 (fun gy10 egy11 => ?_)
    have hgy12 := up_s egy11
    refine z_aload_n C 0 dX10_wants_24 rfl ?_
    refine z_get (v := .int (zI (z1))) C (lt_A0 hN rfl) hay1 hgy12 rfl inA_X10 38 (by decide) q_1497 rfl (fv (F := (uZ (uZ F 38 (z1)) 24 (F 33))) (f := 38) (fn (uZ_s _ _ _) (by decide))) dX10_wants_25 ?_
    refine z_if_ne (tgt := 35) C dX10_wants_28 (by decide) (by omega) (fun hby13 => ?_) (fun hby13 => ?_)
    · refine z_iconst (z := 0) C dX10_wants_35 rfl ?_
      have hFy14 : ∀ f, f ≠ 24 → f ≠ 38 → (uZ (uZ F 38 (z1)) 24 (F 33)) f = F f := fun f n24 n38 => ((uZ_n _ _ n24).trans ((uZ_n _ _ n38).trans rfl))
      have hey15 : (uZ (uZ F 38 (z1)) 24 (F 33)) 24 = F 33 := (uZ_s _ _ _)
      have hey16 : (uZ (uZ F 38 (z1)) 24 (F 33)) 38 = z1 := (fn (uZ_s _ _ _) (by decide))
      have hey17 : (uZ (uZ F 38 (z1)) 24 (F 33)) 33 = F 33 := (fn (fn rfl (by decide)) (by decide))
      exact z_zret C hr hlk dX10_wants_36 (by decide) (by decide) (by decide) ⟨0, rfl, rfl, rfl, ⟨_, hgy12, by omega, hFy14⟩, fun j j1 => by rw [egy11, va_up_ne _ _ (by omega)]; rw [egy8, va_up_ne _ _ (by omega)]⟩
    · refine z_iconst (z := 1) C dX10_wants_31 rfl ?_
      refine z_goto (tgt := 36) C dX10_wants_32 (by decide) ?_
      have hFy18 : ∀ f, f ≠ 24 → f ≠ 38 → (uZ (uZ F 38 (z1)) 24 (F 33)) f = F f := fun f n24 n38 => ((uZ_n _ _ n24).trans ((uZ_n _ _ n38).trans rfl))
      have hey19 : (uZ (uZ F 38 (z1)) 24 (F 33)) 24 = F 33 := (uZ_s _ _ _)
      have hey20 : (uZ (uZ F 38 (z1)) 24 (F 33)) 38 = z1 := (fn (uZ_s _ _ _) (by decide))
      have hey21 : (uZ (uZ F 38 (z1)) 24 (F 33)) 33 = F 33 := (fn (fn rfl (by decide)) (by decide))
      exact z_zret C hr hlk dX10_wants_36 (by decide) (by decide) (by decide) ⟨1, rfl, rfl, rfl, ⟨_, hgy12, by omega, hFy18⟩, fun j j1 => by rw [egy11, va_up_ne _ _ (by omega)]; rw [egy8, va_up_ne _ _ (by omega)]⟩

theorem tk_kd_c (T : Nat → Int) (n f : Nat) : (tk_w T n f = 5 ∧ tk_kd T n f = 4) ∨ ((9 ≤ tk_w T n f ∧ tk_w T n f ≤ 12) ∧ tk_kd T n f = tk_w T n f - 9) ∨ (tk_w T n f ≠ 5 ∧ tk_w T n f < 9 ∧ tk_kd T n f = -1) := by
  have h := tk_w_b T n f
  unfold tk_kd
  by_cases h1 : tk_w T n f = 5
  · rw [if_pos h1]; exact Or.inl ⟨h1, rfl⟩
  · rw [if_neg h1]
    by_cases h2 : 9 ≤ tk_w T n f
    · rw [if_pos h2]; exact Or.inr (Or.inl ⟨⟨h2, h.2⟩, rfl⟩)
    · rw [if_neg h2]; exact Or.inr (Or.inr ⟨h1, by omega, rfl⟩)
theorem tk_fa_c (T : Nat → Int) (n f : Nat) : ((3 ≤ tk_w T n f ∧ tk_w T n f ≤ 5) ∧ tk_fa T n f = tk_w T n f - 2) ∨ (¬ (3 ≤ tk_w T n f ∧ tk_w T n f ≤ 5) ∧ tk_fa T n f = 0) := by
  unfold tk_fa
  by_cases h1 : 3 ≤ tk_w T n f ∧ tk_w T n f ≤ 5
  · rw [if_pos h1]; exact Or.inl ⟨h1, rfl⟩
  · rw [if_neg h1]; exact Or.inr ⟨h1, rfl⟩

set_option maxRecDepth 100000 in
set_option maxHeartbeats 4000000 in
theorem c_yNumber (l : Launch) (D : va_G) (A : Nat → Prop) (cs : Nat → ClassId) (tt : Nat) (N : Nat) (ad : Nat → Nat) (g : Nat → va_E) (i : Nat) (hN : i + 30 ≤ N) (F : Nat → Int) (hg : g i = mC ad i F) (tp : Nat → Int) (ha13 : g (i + 13) = iA cs 900 tp) (T : Nat → Int) (n : Nat) (hn : n ≤ 900) (hTb : ∀ k, k < n → 0 ≤ T k ∧ T k ≤ 255) (hTt : ∀ k, k < n → tp k = T k) (htp : ∀ k, k < 900 → 0 ≤ tp k ∧ tp k ≤ 255) (f : Nat) (hk : tkR T n F f) (h38 : F 38 = 0) (z : Int) (hz : 0 ≤ z ∧ z ≤ 9999) (z1 : Int) (hz1 : z ≤ z1 ∧ z1 ≤ 9999) : zM l yX10_number cX10_number 4 (some .int) ({ frames := 4, cells := 0, slots := 0, locals := 240 } : Room) D A cs tt N ad g [.ref (ad i), .int (zI (z)), .int (zI (z1))] (rI0 N ad fun r g' => (∃ F' : Nat → Int, g' i = mC ad i F' ∧ ((tk_nu T n z z1 f = .ok (r, tk_nx T n f) ∧ (z ≤ r ∧ r ≤ z1) ∧ f < n ∧ F' 38 = 0 ∧ F' 24 = F 24 ∧ tkR T n F' (tk_nx T n f)) ∨ (r = z ∧ ∃ c9 : Int, (c9 = 1 ∨ c9 = 2) ∧ tk_nu T n z z1 f = .error (c9, f) ∧ F' 38 = c9 ∧ F' 24 = (f : Int) ∧ tkR T n F' f)) ∧ (∀ f, f ≠ 24 → f ≠ 32 → f ≠ 33 → f ≠ 35 → f ≠ 36 → f ≠ 37 → f ≠ 38 → F' f = F f)) ∧ ∀ j, j ≠ i → g' j = g j) := by
  have hay1 : zAt ad (i) (ad i) := rfl
  have hay2 : zAt ad (i + 13) (ad (i + 13)) := rfl
  have hsry3 := srt_b T n f
  have hvly4 := vlu_b hTb f
  have hwby5 := tk_w_b T n f
  have hfny6 := hk.1
  refine z_of (by decide) (Nat.le_of_ble_eq_true rfl) ?_
  intro pZ eZ sZ mZ below meth cZ C hr hlk hnm
  refine z_lv (lv' := [(0, .ref (ad i)), (1, .int (zI (z))), (2, .int (zI (z1)))]) [0, 1, 2] rfl ?_
  refine z_aload_n C 0 dX10_number_0 rfl ?_
  refine z_aload_n C 0 dX10_number_1 rfl ?_
  refine z_get (v := .int (zI (srt (tk_so T n f)))) C (lt_A0 hN rfl) hay1 hg rfl inA_X10 35 (by decide) q_1494 rfl (fv (F := F) (f := 35) hk.2.2.2.2.1) dX10_number_2 ?_
  refine z_iconst (z := 2) C dX10_number_5 rfl ?_
  refine z_icmp_ne (tgt := 13) C dX10_number_6 (by decide) (by omega) (by omega) (fun hby7 => ?_) (fun hby7 => ?_)
  · have hso9 : tk_so T n f ≠ 2 := fun e9 => by have := srt2.mpr e9; omega
    refine z_iconst (z := 0) C dX10_number_13 rfl ?_
    refine z_iconst (z := 1) C dX10_number_14 rfl ?_
    have h33vy8 : F 33 = (f : Int) := hk.2.2.1
    have h24vy8 : F 24 = F 24 := rfl
    have htvy8 : tkR T n F f := hk
    refine z_cV (As := [.int (zI (0)), .int (zI (1))]) (rest := []) (ci := 12) C (c_yWants l D A cs tt N ad _ i hN _ hg h38 (0) (by omega) (1) (by omega)) (lt_A0 hN rfl) hay1 hg rfl rfl mv_yX10_wants q_1678 hd_yX10_wants (by decide) (Nat.le_of_ble_eq_true rfl) (by decide) dX10_number_15 rfl (kI0 fun vy8 gvy8 hvy8 => ?_)
    obtain ⟨⟨Fvy8, hcvy8, hqvy8, hFvy8⟩, hfvy8⟩ := hvy8
    obtain ⟨rfl, hevy8, hbvy8⟩ : vy8 = 0 ∧ Fvy8 38 = 1 ∧ Fvy8 24 = (f : Int) := by omega
    clear hqvy8 h33vy8 h24vy8
    have hkvy8 : tkR T n Fvy8 f := tkR.w htvy8 hFvy8 (by omega)
    refine z_if_eq (tgt := 38) C dX10_number_18 (by decide) (by omega) (fun _ => ?_) (fun h => absurd h (by omega))
    refine z_iload_n C 1 dX10_number_38 rfl ?_
    have hFy9 : ∀ f, f ≠ 24 → f ≠ 32 → f ≠ 33 → f ≠ 35 → f ≠ 36 → f ≠ 37 → f ≠ 38 → Fvy8 f = F f := fun f n24 n32 n33 n35 n36 n37 n38 => (hFvy8 f n24 n38)
    have hey10 : Fvy8 24 = (f : Int) := hbvy8
    have hey11 : Fvy8 38 = 1 := hevy8
    exact z_iret C hr hlk dX10_number_39 (by decide) (by decide) ⟨z, rfl, rfl, rfl, ⟨_, hcvy8, Or.inr ⟨rfl, 1, Or.inl rfl, by unfold tk_nu; rw [if_pos hso9], by omega, by omega, hkvy8⟩, hFy9⟩, fun j j1 => by rw [hfvy8 _ (by omega)]⟩
  · have hso9 : tk_so T n f = 2 := srt2.mp (by omega)
    refine z_iconst (z := 1) C dX10_number_9 rfl ?_
    refine z_goto (tgt := 14) C dX10_number_10 (by decide) ?_
    refine z_iconst (z := 1) C dX10_number_14 rfl ?_
    have h33vy12 : F 33 = (f : Int) := hk.2.2.1
    have h24vy12 : F 24 = F 24 := rfl
    have htvy12 : tkR T n F f := hk
    refine z_cV (As := [.int (zI (1)), .int (zI (1))]) (rest := []) (ci := 12) C (c_yWants l D A cs tt N ad _ i hN _ hg h38 (1) (by omega) (1) (by omega)) (lt_A0 hN rfl) hay1 hg rfl rfl mv_yX10_wants q_1678 hd_yX10_wants (by decide) (Nat.le_of_ble_eq_true rfl) (by decide) dX10_number_15 rfl (kI0 fun vy12 gvy12 hvy12 => ?_)
    obtain ⟨⟨Fvy12, hcvy12, hqvy12, hFvy12⟩, hfvy12⟩ := hvy12
    obtain ⟨rfl, hevy12, hbvy12⟩ : vy12 = 1 ∧ Fvy12 38 = 0 ∧ Fvy12 24 = F 24 := by omega
    clear hqvy12 h33vy12 h24vy12
    have hkvy12 : tkR T n Fvy12 f := tkR.w htvy12 hFvy12 (by omega)
    refine z_if_eq (tgt := 38) C dX10_number_18 (by decide) (by omega) (fun h => absurd h (by omega)) (fun _ => ?_)
    refine z_aload_n C 0 dX10_number_21 rfl ?_
    refine z_aload_n C 0 dX10_number_22 rfl ?_
    refine z_get (v := .int (zI (vlu T n f))) C (lt_A0 hN rfl) hay1 hcvy12 rfl inA_X10 36 (by decide) q_1495 rfl (fv (F := Fvy12) (f := 36) ((hFvy12 36 (by decide) (by decide)).trans hk.2.2.2.2.2.1)) dX10_number_23 ?_
    refine z_iload_n C 1 dX10_number_26 rfl ?_
    refine z_iload_n C 2 dX10_number_27 rfl ?_
    refine z_cS (As := [.int (zI (vlu T n f)), .int (zI (z)), .int (zI (z1))]) (rest := [.ref (ad i)]) C (c_X10_within l D A cs tt N ad _ (vlu T n f) (by omega) (z) (by omega) (z1) (by omega)) ms_yX10_within q_1686 hd_yX10_within (by decide) (Nat.le_of_ble_eq_true rfl) (by decide) dX10_number_28 rfl (kI0 fun vy13 gvy13 hvy13 => ?_)
    obtain ⟨hvy13, rfl⟩ := hvy13
    rcases hvy13 with ⟨rfl, hxvy13⟩ | ⟨rfl, hxvy13⟩
    · refine z_iconst (z := 2) C dX10_number_31 rfl ?_
      have h33vy14 : Fvy12 33 = (f : Int) := ((hFvy12 33 (by decide) (by decide)).trans hk.2.2.1)
      have h24vy14 : Fvy12 24 = F 24 := hbvy12
      have htvy14 : tkR T n Fvy12 f := hkvy12
      refine z_cV (As := [.int (zI (1)), .int (zI (2))]) (rest := []) (ci := 12) C (c_yWants l D A cs tt N ad _ i hN _ hcvy12 hevy12 (1) (by omega) (2) (by omega)) (lt_A0 hN rfl) hay1 hcvy12 rfl rfl mv_yX10_wants q_1678 hd_yX10_wants (by decide) (Nat.le_of_ble_eq_true rfl) (by decide) dX10_number_32 rfl (kI0 fun vy14 gvy14 hvy14 => ?_)
      obtain ⟨⟨Fvy14, hcvy14, hqvy14, hFvy14⟩, hfvy14⟩ := hvy14
      obtain ⟨rfl, hevy14, hbvy14⟩ : vy14 = 1 ∧ Fvy14 38 = 0 ∧ Fvy14 24 = F 24 := by omega
      clear hqvy14 h33vy14 h24vy14
      have hkvy14 : tkR T n Fvy14 f := tkR.w htvy14 hFvy14 (by omega)
      refine z_if_ne (tgt := 40) C dX10_number_35 (by decide) (by omega) (fun _ => ?_) (fun h => absurd h (by omega))
      refine z_aload_n C 0 dX10_number_40 rfl ?_
      refine z_get (v := .int (zI (vlu T n f))) C (lt_A0 hN rfl) hay1 hcvy14 rfl inA_X10 36 (by decide) q_1495 rfl (fv (F := Fvy14) (f := 36) ((hFvy14 36 (by decide) (by decide)).trans ((hFvy12 36 (by decide) (by decide)).trans hk.2.2.2.2.2.1))) dX10_number_41 ?_
      refine z_istore_n (lv' := [(3, .int (zI (vlu T n f))), (0, .ref (ad i)), (1, .int (zI (z))), (2, .int (zI (z1)))]) C dX10_number_44 rfl (by decide) rfl ?_
      refine z_aload_n C 1 dX10_number_45 rfl ?_
      have hgy15 := (hfvy12 (i + 13) (ne_o (i := i) (c := 13) (d := 0) rfl)).trans ha13
      have hgy16 := (hfvy14 (i + 13) (ne_o (i := i) (c := 13) (d := 0) rfl)).trans hgy15
      have htvy17 : tkR T n Fvy14 f := hkvy14
      refine z_cV (As := []) (rest := []) (ci := 12) C (c_yGo l D A cs tt N ad _ i hN _ hcvy14 _ hgy16 T n hn hTb hTt htp (tk_to T n f) (tk_to_b htvy17.1.1).2.1 htvy17.2.1 htvy17.2.2.2.1 htvy17.2.2.2.2.2.2.2) (lt_A0 hN rfl) hay1 hcvy14 rfl rfl mv_yX10_go q_1652 hd_yX10_go (by decide) (Nat.le_of_ble_eq_true rfl) (by decide) dX10_number_46 rfl (kV0 fun gvy17 hvy17 => ?_)
      obtain ⟨⟨Fvy17, hcvy17, hjvy17, hFvy17⟩, hfvy17⟩ := hvy17
      have hkvy17 : tkR T n Fvy17 (tk_nx T n f) := hjvy17
      have hnbvy17 := tk_nx_w (T := T) (n := n) (f := f) htvy17.1.1
      clear hjvy17
      have hsry18 := srt_b T n (tk_nx T n f)
      have hvly19 := vlu_b hTb (tk_nx T n f)
      have hwby20 := tk_w_b T n (tk_nx T n f)
      have hfny21 := hkvy17.1
      refine z_iload_n C 0 dX10_number_49 rfl ?_
      have hFy22 : ∀ f, f ≠ 24 → f ≠ 32 → f ≠ 33 → f ≠ 35 → f ≠ 36 → f ≠ 37 → f ≠ 38 → Fvy17 f = F f := fun f n24 n32 n33 n35 n36 n37 n38 => ((hFvy17 f n32 n33 n35 n36 n37).trans ((hFvy14 f n24 n38).trans (hFvy12 f n24 n38)))
      have hey23 : Fvy17 24 = F 24 := ((hFvy17 24 (by decide) (by decide) (by decide) (by decide) (by decide)).trans hbvy14)
      have hey24 : Fvy17 38 = 0 := ((hFvy17 38 (by decide) (by decide) (by decide) (by decide) (by decide)).trans hevy14)
      have hnu : tk_nu T n z z1 f = .ok (vlu T n f, tk_nx T n f) := by unfold tk_nu; rw [if_neg (by omega), if_neg (by rw [← vlu2 hso9]; omega), vlu2 hso9]
      exact z_iret C hr hlk dX10_number_50 (by decide) (by decide) ⟨vlu T n f, rfl, rfl, rfl, ⟨_, hcvy17, Or.inl ⟨hnu, by omega, (so_ty (T := T) (n := n) (f := f) (by omega)).1, by omega, by omega, hkvy17⟩, hFy22⟩, fun j j1 => by rw [hfvy17 _ (by omega)]; rw [hfvy14 _ (by omega)]; rw [hfvy12 _ (by omega)]⟩
    · refine z_iconst (z := 2) C dX10_number_31 rfl ?_
      have h33vy25 : Fvy12 33 = (f : Int) := ((hFvy12 33 (by decide) (by decide)).trans hk.2.2.1)
      have h24vy25 : Fvy12 24 = F 24 := hbvy12
      have htvy25 : tkR T n Fvy12 f := hkvy12
      refine z_cV (As := [.int (zI (0)), .int (zI (2))]) (rest := []) (ci := 12) C (c_yWants l D A cs tt N ad _ i hN _ hcvy12 hevy12 (0) (by omega) (2) (by omega)) (lt_A0 hN rfl) hay1 hcvy12 rfl rfl mv_yX10_wants q_1678 hd_yX10_wants (by decide) (Nat.le_of_ble_eq_true rfl) (by decide) dX10_number_32 rfl (kI0 fun vy25 gvy25 hvy25 => ?_)
      obtain ⟨⟨Fvy25, hcvy25, hqvy25, hFvy25⟩, hfvy25⟩ := hvy25
      obtain ⟨rfl, hevy25, hbvy25⟩ : vy25 = 0 ∧ Fvy25 38 = 2 ∧ Fvy25 24 = (f : Int) := by omega
      clear hqvy25 h33vy25 h24vy25
      have hkvy25 : tkR T n Fvy25 f := tkR.w htvy25 hFvy25 (by omega)
      refine z_if_ne (tgt := 40) C dX10_number_35 (by decide) (by omega) (fun h => absurd h (by omega)) (fun _ => ?_)
      refine z_iload_n C 1 dX10_number_38 rfl ?_
      have hFy26 : ∀ f, f ≠ 24 → f ≠ 32 → f ≠ 33 → f ≠ 35 → f ≠ 36 → f ≠ 37 → f ≠ 38 → Fvy25 f = F f := fun f n24 n32 n33 n35 n36 n37 n38 => ((hFvy25 f n24 n38).trans (hFvy12 f n24 n38))
      have hey27 : Fvy25 24 = (f : Int) := hbvy25
      have hey28 : Fvy25 38 = 2 := hevy25
      exact z_iret C hr hlk dX10_number_39 (by decide) (by decide) ⟨z, rfl, rfl, rfl, ⟨_, hcvy25, Or.inr ⟨rfl, 2, Or.inr rfl, by unfold tk_nu; rw [if_neg (by omega), if_pos (by rw [← vlu2 hso9]; omega)], by omega, by omega, hkvy25⟩, hFy26⟩, fun j j1 => by rw [hfvy25 _ (by omega)]; rw [hfvy12 _ (by omega)]⟩

set_option maxRecDepth 100000 in
set_option maxHeartbeats 4000000 in
theorem c_yIs (l : Launch) (D : va_G) (A : Nat → Prop) (cs : Nat → ClassId) (tt : Nat) (N : Nat) (ad : Nat → Nat) (g : Nat → va_E) (i : Nat) (hN : i + 30 ≤ N) (F : Nat → Int) (hg : g i = mC ad i F) (tp : Nat → Int) (T : Nat → Int) (n : Nat) (hn : n ≤ 900) (hTb : ∀ k, k < n → 0 ≤ T k ∧ T k ≤ 255) (hTt : ∀ k, k < n → tp k = T k) (htp : ∀ k, k < 900 → 0 ≤ tp k ∧ tp k ≤ 255) (f : Nat) (hk : tkR T n F f) (h38 : F 38 = 0) (z : Int) (hz : 0 ≤ z ∧ z ≤ 12) : zM l yX10_is cX10_is 2 (some .boolean) ({ frames := 1, cells := 0, slots := 0, locals := 60 } : Room) D A cs tt N ad g [.ref (ad i), .int (zI (z))] (rI0 N ad fun r g' => ((r = 1 ∧ tk_w T n f = z) ∨ (r = 0 ∧ tk_w T n f ≠ z)) ∧ g = g') := by
  have hay1 : zAt ad (i) (ad i) := rfl
  have hsry2 := srt_b T n f
  have hvly3 := vlu_b hTb f
  have hwby4 := tk_w_b T n f
  have hfny5 := hk.1
  refine z_of (by decide) (Nat.le_of_ble_eq_true rfl) ?_
  intro pZ eZ sZ mZ below meth cZ C hr hlk hnm
  refine z_lv (lv' := [(0, .ref (ad i)), (1, .int (zI (z)))]) [0, 1] rfl ?_
  refine z_aload_n C 0 dX10_is_0 rfl ?_
  refine z_get (v := .int (zI (0))) C (lt_A0 hN rfl) hay1 hg rfl inA_X10 38 (by decide) q_1497 rfl (fv (F := F) (f := 38) h38) dX10_is_1 ?_
  refine z_if_ne (tgt := 27) C dX10_is_4 (by decide) (by omega) (fun h => absurd h (by omega)) (fun _ => ?_)
  refine z_aload_n C 0 dX10_is_7 rfl ?_
  refine z_get (v := .int (zI (srt (tk_so T n f)))) C (lt_A0 hN rfl) hay1 hg rfl inA_X10 35 (by decide) q_1494 rfl (fv (F := F) (f := 35) hk.2.2.2.2.1) dX10_is_8 ?_
  refine z_iconst (z := 1) C dX10_is_11 rfl ?_
  refine z_icmp_ne (tgt := 27) C dX10_is_12 (by decide) (by omega) (by omega) (fun hby6 => ?_) (fun hby6 => ?_)
  · refine z_iconst (z := 0) C dX10_is_27 rfl ?_
    have hwl : srt (tk_so T n f) ≠ 1 → tk_w T n f = -1 := fun e9 => tk_w_let (fun e8 => e9 (srt1.mpr e8))
    exact z_zret C hr hlk dX10_is_28 (by decide) (by decide) (by decide) ⟨0, rfl, rfl, rfl, by omega, rfl⟩
  · refine z_aload_n C 0 dX10_is_15 rfl ?_
    refine z_get (v := .int (zI (tk_w T n f))) C (lt_A0 hN rfl) hay1 hg rfl inA_X10 37 (by decide) q_1496 rfl (fv (F := F) (f := 37) hk.2.2.2.2.2.2.1) dX10_is_16 ?_
    refine z_iload_n C 1 dX10_is_19 rfl ?_
    refine z_icmp_ne (tgt := 27) C dX10_is_20 (by decide) (by omega) (by omega) (fun hby7 => ?_) (fun hby7 => ?_)
    · refine z_iconst (z := 0) C dX10_is_27 rfl ?_
      have hwl : srt (tk_so T n f) ≠ 1 → tk_w T n f = -1 := fun e9 => tk_w_let (fun e8 => e9 (srt1.mpr e8))
      exact z_zret C hr hlk dX10_is_28 (by decide) (by decide) (by decide) ⟨0, rfl, rfl, rfl, by omega, rfl⟩
    · refine z_iconst (z := 1) C dX10_is_23 rfl ?_
      refine z_goto (tgt := 28) C dX10_is_24 (by decide) ?_
      have hwl : srt (tk_so T n f) ≠ 1 → tk_w T n f = -1 := fun e9 => tk_w_let (fun e8 => e9 (srt1.mpr e8))
      exact z_zret C hr hlk dX10_is_28 (by decide) (by decide) (by decide) ⟨1, rfl, rfl, rfl, by omega, rfl⟩

set_option maxRecDepth 100000 in
set_option maxHeartbeats 4000000 in
theorem c_yIsKind (l : Launch) (D : va_G) (A : Nat → Prop) (cs : Nat → ClassId) (tt : Nat) (N : Nat) (ad : Nat → Nat) (g : Nat → va_E) (i : Nat) (hN : i + 30 ≤ N) (F : Nat → Int) (hg : g i = mC ad i F) (tp : Nat → Int) (T : Nat → Int) (n : Nat) (hn : n ≤ 900) (hTb : ∀ k, k < n → 0 ≤ T k ∧ T k ≤ 255) (hTt : ∀ k, k < n → tp k = T k) (htp : ∀ k, k < 900 → 0 ≤ tp k ∧ tp k ≤ 255) (f : Nat) (hk : tkR T n F f) : zM l yX10_isKind cX10_isKind 1 (some .boolean) ({ frames := 2, cells := 0, slots := 0, locals := 120 } : Room) D A cs tt N ad g [.ref (ad i)] (rI0 N ad fun r g' => ((r = 1 ∧ tk_kd T n f ≠ -1) ∨ (r = 0 ∧ tk_kd T n f = -1)) ∧ g = g') := by
  have hay1 : zAt ad (i) (ad i) := rfl
  have hsry2 := srt_b T n f
  have hvly3 := vlu_b hTb f
  have hwby4 := tk_w_b T n f
  have hfny5 := hk.1
  refine z_of (by decide) (Nat.le_of_ble_eq_true rfl) ?_
  intro pZ eZ sZ mZ below meth cZ C hr hlk hnm
  refine z_lv (lv' := [(0, .ref (ad i))]) [0] rfl ?_
  refine z_aload_n C 0 dX10_isKind_0 rfl ?_
  refine z_get (v := .int (zI (srt (tk_so T n f)))) C (lt_A0 hN rfl) hay1 hg rfl inA_X10 35 (by decide) q_1494 rfl (fv (F := F) (f := 35) hk.2.2.2.2.1) dX10_isKind_1 ?_
  refine z_iconst (z := 1) C dX10_isKind_4 rfl ?_
  refine z_icmp_ne (tgt := 34) C dX10_isKind_5 (by decide) (by omega) (by omega) (fun hby6 => ?_) (fun hby6 => ?_)
  · refine z_iconst (z := 0) C dX10_isKind_34 rfl ?_
    have hwl : srt (tk_so T n f) ≠ 1 → tk_w T n f = -1 := fun e9 => tk_w_let (fun e8 => e9 (srt1.mpr e8))
    have hkc := tk_kd_c T n f
    exact z_zret C hr hlk dX10_isKind_35 (by decide) (by decide) (by decide) ⟨0, rfl, rfl, rfl, by omega, rfl⟩
  · refine z_aload_n C 0 dX10_isKind_8 rfl ?_
    refine z_get (v := .int (zI (tk_w T n f))) C (lt_A0 hN rfl) hay1 hg rfl inA_X10 37 (by decide) q_1496 rfl (fv (F := F) (f := 37) hk.2.2.2.2.2.2.1) dX10_isKind_9 ?_
    refine z_bipush (z := 9) C dX10_isKind_12 (by decide) ?_
    refine z_bipush (z := 12) C dX10_isKind_14 (by decide) ?_
    refine z_cS (As := [.int (zI (tk_w T n f)), .int (zI (9)), .int (zI (12))]) (rest := []) C (c_X10_within l D A cs tt N ad _ (tk_w T n f) (by omega) (9) (by omega) (12) (by omega)) ms_yX10_within q_1686 hd_yX10_within (by decide) (Nat.le_of_ble_eq_true rfl) (by decide) dX10_isKind_16 rfl (kI0 fun vy7 gvy7 hvy7 => ?_)
    obtain ⟨hvy7, rfl⟩ := hvy7
    rcases hvy7 with ⟨rfl, hxvy7⟩ | ⟨rfl, hxvy7⟩
    · refine z_if_ne (tgt := 30) C dX10_isKind_19 (by decide) (by omega) (fun _ => ?_) (fun h => absurd h (by omega))
      refine z_iconst (z := 1) C dX10_isKind_30 rfl ?_
      refine z_goto (tgt := 35) C dX10_isKind_31 (by decide) ?_
      have hwl : srt (tk_so T n f) ≠ 1 → tk_w T n f = -1 := fun e9 => tk_w_let (fun e8 => e9 (srt1.mpr e8))
      have hkc := tk_kd_c T n f
      exact z_zret C hr hlk dX10_isKind_35 (by decide) (by decide) (by decide) ⟨1, rfl, rfl, rfl, by omega, rfl⟩
    · refine z_if_ne (tgt := 30) C dX10_isKind_19 (by decide) (by omega) (fun h => absurd h (by omega)) (fun _ => ?_)
      refine z_aload_n C 0 dX10_isKind_22 rfl ?_
      refine z_get (v := .int (zI (tk_w T n f))) C (lt_A0 hN rfl) hay1 hg rfl inA_X10 37 (by decide) q_1496 rfl (fv (F := F) (f := 37) hk.2.2.2.2.2.2.1) dX10_isKind_23 ?_
      refine z_iconst (z := 5) C dX10_isKind_26 rfl ?_
      refine z_icmp_ne (tgt := 34) C dX10_isKind_27 (by decide) (by omega) (by omega) (fun hby8 => ?_) (fun hby8 => ?_)
      · refine z_iconst (z := 0) C dX10_isKind_34 rfl ?_
        have hwl : srt (tk_so T n f) ≠ 1 → tk_w T n f = -1 := fun e9 => tk_w_let (fun e8 => e9 (srt1.mpr e8))
        have hkc := tk_kd_c T n f
        exact z_zret C hr hlk dX10_isKind_35 (by decide) (by decide) (by decide) ⟨0, rfl, rfl, rfl, by omega, rfl⟩
      · refine z_iconst (z := 1) C dX10_isKind_30 rfl ?_
        refine z_goto (tgt := 35) C dX10_isKind_31 (by decide) ?_
        have hwl : srt (tk_so T n f) ≠ 1 → tk_w T n f = -1 := fun e9 => tk_w_let (fun e8 => e9 (srt1.mpr e8))
        have hkc := tk_kd_c T n f
        exact z_zret C hr hlk dX10_isKind_35 (by decide) (by decide) (by decide) ⟨1, rfl, rfl, rfl, by omega, rfl⟩

set_option maxRecDepth 100000 in
set_option maxHeartbeats 4000000 in
theorem c_yKindHere (l : Launch) (D : va_G) (A : Nat → Prop) (cs : Nat → ClassId) (tt : Nat) (N : Nat) (ad : Nat → Nat) (g : Nat → va_E) (i : Nat) (hN : i + 30 ≤ N) (F : Nat → Int) (hg : g i = mC ad i F) (tp : Nat → Int) (T : Nat → Int) (n : Nat) (hn : n ≤ 900) (hTb : ∀ k, k < n → 0 ≤ T k ∧ T k ≤ 255) (hTt : ∀ k, k < n → tp k = T k) (htp : ∀ k, k < 900 → 0 ≤ tp k ∧ tp k ≤ 255) (f : Nat) (hk : tkR T n F f) (hkd : tk_kd T n f ≠ -1) : zM l yX10_kindHere cX10_kindHere 1 (some .int) ({ frames := 1, cells := 0, slots := 0, locals := 60 } : Room) D A cs tt N ad g [.ref (ad i)] (rI0 N ad fun r g' => r = tk_kd T n f ∧ g = g') := by
  have hay1 : zAt ad (i) (ad i) := rfl
  have hsry2 := srt_b T n f
  have hvly3 := vlu_b hTb f
  have hwby4 := tk_w_b T n f
  have hfny5 := hk.1
  refine z_of (by decide) (Nat.le_of_ble_eq_true rfl) ?_
  intro pZ eZ sZ mZ below meth cZ C hr hlk hnm
  refine z_lv (lv' := [(0, .ref (ad i))]) [0] rfl ?_
  refine z_aload_n C 0 dX10_kindHere_0 rfl ?_
  refine z_get (v := .int (zI (tk_w T n f))) C (lt_A0 hN rfl) hay1 hg rfl inA_X10 37 (by decide) q_1496 rfl (fv (F := F) (f := 37) hk.2.2.2.2.2.2.1) dX10_kindHere_1 ?_
  refine z_iconst (z := 5) C dX10_kindHere_4 rfl ?_
  refine z_icmp_ne (tgt := 12) C dX10_kindHere_5 (by decide) (by omega) (by omega) (fun hby6 => ?_) (fun hby6 => ?_)
  · refine z_aload_n C 0 dX10_kindHere_12 rfl ?_
    refine z_get (v := .int (zI (tk_w T n f))) C (lt_A0 hN rfl) hay1 hg rfl inA_X10 37 (by decide) q_1496 rfl (fv (F := F) (f := 37) hk.2.2.2.2.2.2.1) dX10_kindHere_13 ?_
    refine z_bipush (z := 9) C dX10_kindHere_16 (by decide) ?_
    refine z_isub C dX10_kindHere_18 ?_
    have hkc := tk_kd_c T n f
    exact z_iret C hr hlk dX10_kindHere_19 (by decide) (by decide) ⟨(tk_w T n f) - 9, rfl, rfl, rfl, by omega, rfl⟩
  · refine z_iconst (z := 4) C dX10_kindHere_8 rfl ?_
    refine z_goto (tgt := 19) C dX10_kindHere_9 (by decide) ?_
    have hkc := tk_kd_c T n f
    exact z_iret C hr hlk dX10_kindHere_19 (by decide) (by decide) ⟨4, rfl, rfl, rfl, by omega, rfl⟩
end
section
-- 86nb.ydefs.lean.txt
theorem uZ_at {r : Nat → Int} {k j : Nat} {v : Int} (e : j = k) : uZ r k v j = v := by rw [e, uZ_s]
theorem la_at {r : Nat → Int} {m l f : Nat} (hm : m < 12) (hl : l < 12) (hf : f < 7) (kd i1 w1 d1 c1 n1 : Int) : la_ r (m : Int) kd i1 w1 d1 c1 n1 (12 * f + l) = if l = m then ([kd, i1, w1, d1, c1, 0, n1] : List Int).getD f 0 else r (12 * f + l) := by
  unfold la_
  rw [show ((0 : Int) + (m : Int)).toNat = 0 + m by omega, show ((12 : Int) + (m : Int)).toNat = 12 + m by omega, show ((24 : Int) + (m : Int)).toNat = 24 + m by omega, show ((36 : Int) + (m : Int)).toNat = 36 + m by omega, show ((48 : Int) + (m : Int)).toNat = 48 + m by omega, show ((60 : Int) + (m : Int)).toNat = 60 + m by omega, show ((72 : Int) + (m : Int)).toNat = 72 + m by omega]
  by_cases e : l = m
  · subst e
    rw [if_pos rfl]
    rcases (show f = 0 ∨ f = 1 ∨ f = 2 ∨ f = 3 ∨ f = 4 ∨ f = 5 ∨ f = 6 by omega) with rfl | rfl | rfl | rfl | rfl | rfl | rfl
    · exact ((uZ_n _ _ (by omega)).trans ((uZ_n _ _ (by omega)).trans ((uZ_n _ _ (by omega)).trans ((uZ_n _ _ (by omega)).trans ((uZ_n _ _ (by omega)).trans ((uZ_n _ _ (by omega)).trans (uZ_at (by omega))))))))
    · exact ((uZ_n _ _ (by omega)).trans ((uZ_n _ _ (by omega)).trans ((uZ_n _ _ (by omega)).trans ((uZ_n _ _ (by omega)).trans ((uZ_n _ _ (by omega)).trans (uZ_at (by omega)))))))
    · exact ((uZ_n _ _ (by omega)).trans ((uZ_n _ _ (by omega)).trans ((uZ_n _ _ (by omega)).trans ((uZ_n _ _ (by omega)).trans (uZ_at (by omega))))))
    · exact ((uZ_n _ _ (by omega)).trans ((uZ_n _ _ (by omega)).trans ((uZ_n _ _ (by omega)).trans (uZ_at (by omega)))))
    · exact ((uZ_n _ _ (by omega)).trans ((uZ_n _ _ (by omega)).trans (uZ_at (by omega))))
    · exact ((uZ_n _ _ (by omega)).trans (uZ_at (by omega)))
    · exact (uZ_at (by omega))
  · rw [if_neg e]
    exact ((uZ_n _ _ (by omega)).trans ((uZ_n _ _ (by omega)).trans ((uZ_n _ _ (by omega)).trans ((uZ_n _ _ (by omega)).trans ((uZ_n _ _ (by omega)).trans ((uZ_n _ _ (by omega)).trans (uZ_n _ _ (by omega))))))))
/-- what the reference has told so far is what the pure picture says -/
def rT (F st1 op1 mn1 ai1 fa1 mu1 tb1 ly1 : Nat → Int) (s : Int × Int × Int × (Nat → Int) × (Nat → Int) × (Nat → Int) × (Nat → Int) × (Nat → Int) × (Nat → Int) × (Nat → Int) × (Nat → Int) × (Nat → Nat → Int)) : Prop := (F 47 = s.1 ∧ F 48 = s.2.1 ∧ F 49 = s.2.2.1) ∧ (∀ k : Nat, (k : Int) < s.1 → st1 k = s.2.2.2.2.1 k ∧ op1 k = s.2.2.2.2.2.1 k ∧ mn1 k = s.2.2.2.1 k) ∧ (∀ k : Nat, (k : Int) < s.2.1 → ai1 k = s.2.2.2.2.2.2.1 k ∧ fa1 k = s.2.2.2.2.2.2.2.1 k ∧ mu1 k = s.2.2.2.2.2.2.2.2.1 k) ∧ (∀ k : Nat, k < 15 → (tb1 k = -1 ∧ s.2.2.2.2.2.2.2.2.2.2.1 k = 0 ∧ s.2.2.2.2.2.2.2.2.2.1 k = tabZ k) ∨ (0 ≤ tb1 k ∧ s.2.2.2.2.2.2.2.2.2.2.1 k = 1 ∧ s.2.2.2.2.2.2.2.2.2.1 k = tb1 k)) ∧ (∀ j l : Nat, (j : Int) < s.1 → (l : Int) < s.2.2.2.1 j → ∀ f, f < 7 → ly1 (84 * j + 7 * l + f) = s.2.2.2.2.2.2.2.2.2.2.2 j (12 * f + l)) ∧ (∀ k : Nat, s.1 ≤ (k : Int) → s.2.2.2.1 k = 0)
theorem rT.F {F F' st1 op1 mn1 ai1 fa1 mu1 tb1 ly1 : Nat → Int} {s : Int × Int × Int × (Nat → Int) × (Nat → Int) × (Nat → Int) × (Nat → Int) × (Nat → Int) × (Nat → Int) × (Nat → Int) × (Nat → Int) × (Nat → Nat → Int)} (h : rT F st1 op1 mn1 ai1 fa1 mu1 tb1 ly1 s) (hF : F' 47 = F 47 ∧ F' 48 = F 48 ∧ F' 49 = F 49) : rT F' st1 op1 mn1 ai1 fa1 mu1 tb1 ly1 s := ⟨⟨hF.1.trans h.1.1, hF.2.1.trans h.1.2.1, hF.2.2.trans h.1.2.2⟩, h.2⟩
theorem rT.slope {F F' st1 op1 mn1 ai1 fa1 mu1 tb1 ly1 : Nat → Int} {s : Int × Int × Int × (Nat → Int) × (Nat → Int) × (Nat → Int) × (Nat → Int) × (Nat → Int) × (Nat → Int) × (Nat → Int) × (Nat → Int) × (Nat → Nat → Int)} {st2 op2 mn2 : Nat → Int} (h : rT F st1 op1 mn1 ai1 fa1 mu1 tb1 ly1 s) (k : Nat) (hk : s.1 = (k : Int)) {a b : Int} (hF : F' 47 = s.1 + 1 ∧ F' 48 = s.2.1 ∧ F' 49 = s.2.2.1) (e1 : ∀ j, j ≠ k → st2 j = st1 j) (v1 : st2 k = a) (e2 : ∀ j, j ≠ k → op2 j = op1 j) (v2 : op2 k = b) (e3 : ∀ j, j ≠ k → mn2 j = mn1 j) (v3 : mn2 k = 0) : rT F' st2 op2 mn2 ai1 fa1 mu1 tb1 ly1 (s.1 + 1, s.2.1, s.2.2.1, s.2.2.2.1, uZ s.2.2.2.2.1 (s.1).toNat a, uZ s.2.2.2.2.2.1 (s.1).toNat b, s.2.2.2.2.2.2.1, s.2.2.2.2.2.2.2.1, s.2.2.2.2.2.2.2.2.1, s.2.2.2.2.2.2.2.2.2.1, s.2.2.2.2.2.2.2.2.2.2.1, s.2.2.2.2.2.2.2.2.2.2.2) := by
  obtain ⟨a1, b1, c1, d1, l1, z1⟩ := h
  refine ⟨hF, fun j hj => ?_, c1, d1, fun j l hj hl f hf => ?_, fun j hj => z1 j (by have h9 : s.1 + 1 ≤ (j : Int) := hj; omega)⟩
  · have hj9 : (j : Int) < s.1 + 1 := hj
    show st2 j = uZ s.2.2.2.2.1 (s.1).toNat a j ∧ op2 j = uZ s.2.2.2.2.2.1 (s.1).toNat b j ∧ mn2 j = s.2.2.2.1 j
    by_cases e : j = k
    · rw [uZ_at (by omega), uZ_at (by omega), z1 j (by omega), e]; exact ⟨v1, v2, v3⟩
    · rw [uZ_n _ _ (by omega), uZ_n _ _ (by omega), e1 j e, e2 j e, e3 j e]; exact b1 j (by omega)
  · have hj9 : (j : Int) < s.1 + 1 := hj
    have hl9 : (l : Int) < s.2.2.2.1 j := hl
    by_cases e : j = k
    · have h9 := z1 j (by omega)
      omega
    · exact l1 j l (by omega) hl f hf
theorem rT.hour {F F' st1 op1 mn1 ai1 fa1 mu1 tb1 ly1 : Nat → Int} {s : Int × Int × Int × (Nat → Int) × (Nat → Int) × (Nat → Int) × (Nat → Int) × (Nat → Int) × (Nat → Int) × (Nat → Int) × (Nat → Int) × (Nat → Nat → Int)} {ai2 fa2 mu2 : Nat → Int} (h : rT F st1 op1 mn1 ai1 fa1 mu1 tb1 ly1 s) (k : Nat) (hk : s.2.1 = (k : Int)) {a b c : Int} (hF : F' 47 = s.1 ∧ F' 48 = s.2.1 + 1 ∧ F' 49 = s.2.2.1) (e1 : ∀ j, j ≠ k → ai2 j = ai1 j) (v1 : ai2 k = a) (e2 : ∀ j, j ≠ k → fa2 j = fa1 j) (v2 : fa2 k = b) (e3 : ∀ j, j ≠ k → mu2 j = mu1 j) (v3 : mu2 k = c) : rT F' st1 op1 mn1 ai2 fa2 mu2 tb1 ly1 (s.1, s.2.1 + 1, s.2.2.1, s.2.2.2.1, s.2.2.2.2.1, s.2.2.2.2.2.1, uZ s.2.2.2.2.2.2.1 (s.2.1).toNat a, uZ s.2.2.2.2.2.2.2.1 (s.2.1).toNat b, uZ s.2.2.2.2.2.2.2.2.1 (s.2.1).toNat c, s.2.2.2.2.2.2.2.2.2.1, s.2.2.2.2.2.2.2.2.2.2.1, s.2.2.2.2.2.2.2.2.2.2.2) := by
  obtain ⟨a1, b1, c1, d1, l1, z1⟩ := h
  refine ⟨hF, b1, fun j hj => ?_, d1, l1, z1⟩
  have hj9 : (j : Int) < s.2.1 + 1 := hj
  show ai2 j = uZ s.2.2.2.2.2.2.1 (s.2.1).toNat a j ∧ fa2 j = uZ s.2.2.2.2.2.2.2.1 (s.2.1).toNat b j ∧ mu2 j = uZ s.2.2.2.2.2.2.2.2.1 (s.2.1).toNat c j
  by_cases e : j = k
  · rw [uZ_at (by omega), uZ_at (by omega), uZ_at (by omega), e]; exact ⟨v1, v2, v3⟩
  · rw [uZ_n _ _ (by omega), uZ_n _ _ (by omega), uZ_n _ _ (by omega), e1 j e, e2 j e, e3 j e]; exact c1 j (by omega)
theorem rT.table {F F' st1 op1 mn1 ai1 fa1 mu1 tb1 ly1 : Nat → Int} {s : Int × Int × Int × (Nat → Int) × (Nat → Int) × (Nat → Int) × (Nat → Int) × (Nat → Int) × (Nat → Int) × (Nat → Int) × (Nat → Int) × (Nat → Nat → Int)} {tb2 : Nat → Int} (h : rT F st1 op1 mn1 ai1 fa1 mu1 tb1 ly1 s) (k : Nat) {v1 a : Int} (hk : v1 = (k : Int)) (ha : 0 ≤ a) (hF : F' 47 = s.1 ∧ F' 48 = s.2.1 ∧ F' 49 = s.2.2.1) (e1 : ∀ j, j ≠ k → tb2 j = tb1 j) (w1 : tb2 k = a) : rT F' st1 op1 mn1 ai1 fa1 mu1 tb2 ly1 (s.1, s.2.1, s.2.2.1, s.2.2.2.1, s.2.2.2.2.1, s.2.2.2.2.2.1, s.2.2.2.2.2.2.1, s.2.2.2.2.2.2.2.1, s.2.2.2.2.2.2.2.2.1, uZ s.2.2.2.2.2.2.2.2.2.1 v1.toNat a, uZ s.2.2.2.2.2.2.2.2.2.2.1 v1.toNat 1, s.2.2.2.2.2.2.2.2.2.2.2) := by
  obtain ⟨a1, b1, c1, d1, l1, z1⟩ := h
  refine ⟨hF, b1, c1, fun j hj => ?_, l1, z1⟩
  show (tb2 j = -1 ∧ uZ s.2.2.2.2.2.2.2.2.2.2.1 v1.toNat 1 j = 0 ∧ uZ s.2.2.2.2.2.2.2.2.2.1 v1.toNat a j = tabZ j) ∨ (0 ≤ tb2 j ∧ uZ s.2.2.2.2.2.2.2.2.2.2.1 v1.toNat 1 j = 1 ∧ uZ s.2.2.2.2.2.2.2.2.2.1 v1.toNat a j = tb2 j)
  by_cases e : j = k
  · rw [uZ_at (by omega), uZ_at (by omega), e, w1]; exact Or.inr ⟨ha, rfl, rfl⟩
  · rw [uZ_n _ _ (by omega), uZ_n _ _ (by omega), e1 j e]; exact d1 j hj
theorem rT.layer {F F' st1 op1 mn1 ai1 fa1 mu1 tb1 ly1 : Nat → Int} {s : Int × Int × Int × (Nat → Int) × (Nat → Int) × (Nat → Int) × (Nat → Int) × (Nat → Int) × (Nat → Int) × (Nat → Int) × (Nat → Int) × (Nat → Nat → Int)} {mn2 ly2 : Nat → Int} (h : rT F st1 op1 mn1 ai1 fa1 mu1 tb1 ly1 s) (k m q : Nat) {v1 kd i1 w1 d1 c1 : Int} (hk : v1 = (k : Int)) (hks : (k : Int) < s.1) (hm : mn1 k = (m : Int)) (hm2 : m < 12) (hq : q = 84 * k + 7 * m) (hM : ∀ j, j < 4 → 0 ≤ mn1 j ∧ mn1 j ≤ 12) (hs4 : s.1 ≤ 4) (hF : F' 47 = s.1 ∧ F' 48 = s.2.1 ∧ F' 49 = s.2.2.1 + 1) (e1 : ∀ j, j ≠ k → mn2 j = mn1 j) (x1 : mn2 k = mn1 k + 1) (e2 : ∀ j, j ≠ q → j ≠ q + 1 → j ≠ q + 2 → j ≠ q + 3 → j ≠ q + 4 → j ≠ q + 5 → j ≠ q + 6 → ly2 j = ly1 j) (y0 : ly2 q = kd) (y1 : ly2 (q + 1) = i1) (y2 : ly2 (q + 2) = w1) (y3 : ly2 (q + 3) = d1) (y4 : ly2 (q + 4) = c1) (y5 : ly2 (q + 5) = 0) (y6 : ly2 (q + 6) = s.2.2.1) : rT F' st1 op1 mn2 ai1 fa1 mu1 tb1 ly2 (s.1, s.2.1, s.2.2.1 + 1, uZ s.2.2.2.1 v1.toNat (s.2.2.2.1 v1.toNat + 1), s.2.2.2.2.1, s.2.2.2.2.2.1, s.2.2.2.2.2.2.1, s.2.2.2.2.2.2.2.1, s.2.2.2.2.2.2.2.2.1, s.2.2.2.2.2.2.2.2.2.1, s.2.2.2.2.2.2.2.2.2.2.1, (fun j => if j = v1.toNat then la_ (s.2.2.2.2.2.2.2.2.2.2.2 v1.toNat) (s.2.2.2.1 v1.toNat) kd i1 w1 d1 c1 s.2.2.1 else s.2.2.2.2.2.2.2.2.2.2.2 j)) := by
  obtain ⟨a1, b1, c1_, d1_, l1, z1⟩ := h
  have hkk : v1.toNat = k := by omega
  have hmk : s.2.2.2.1 k = (m : Int) := (b1 k hks).2.2.symm.trans hm
  refine ⟨hF, fun j hj => ?_, c1_, d1_, fun j l hj hl f hf => ?_, fun j hj => ?_⟩
  · show st1 j = s.2.2.2.2.1 j ∧ op1 j = s.2.2.2.2.2.1 j ∧ mn2 j = uZ s.2.2.2.1 v1.toNat (s.2.2.2.1 v1.toNat + 1) j
    have h9 := b1 j hj
    rw [hkk]
    by_cases e : j = k
    · rw [uZ_at e, e, x1, hm, hmk]
      rw [e] at h9
      exact ⟨h9.1, h9.2.1, rfl⟩
    · rw [uZ_n _ _ e, e1 j e]; exact h9
  · have hj9 : (j : Int) < s.1 := hj
    have hl9 : (l : Int) < uZ s.2.2.2.1 v1.toNat (s.2.2.2.1 v1.toNat + 1) j := hl
    have hbj := b1 j hj9
    have hMj := hM j (by omega)
    show ly2 (84 * j + 7 * l + f) = (if j = v1.toNat then la_ (s.2.2.2.2.2.2.2.2.2.2.2 v1.toNat) (s.2.2.2.1 v1.toNat) kd i1 w1 d1 c1 s.2.2.1 else s.2.2.2.2.2.2.2.2.2.2.2 j) (12 * f + l)
    rw [hkk] at hl9 ⊢
    by_cases e : j = k
    · rw [if_pos e, hmk]
      rw [uZ_at e, hmk] at hl9
      rw [la_at hm2 (by omega) hf]
      by_cases e7 : l = m
      · rw [if_pos e7]
        subst e
        subst e7
        rw [← hq]
        rcases (show f = 0 ∨ f = 1 ∨ f = 2 ∨ f = 3 ∨ f = 4 ∨ f = 5 ∨ f = 6 by omega) with rfl | rfl | rfl | rfl | rfl | rfl | rfl
        · exact y0
        · exact y1
        · exact y2
        · exact y3
        · exact y4
        · exact y5
        · exact y6
      · rw [if_neg e7]
        subst e
        rw [e2 _ (by omega) (by omega) (by omega) (by omega) (by omega) (by omega) (by omega)]
        exact l1 j l hj9 (by omega) f hf
    · rw [if_neg e]
      rw [uZ_n _ _ e] at hl9
      rw [e2 _ (by omega) (by omega) (by omega) (by omega) (by omega) (by omega) (by omega)]
      exact l1 j l hj9 hl9 f hf
  · show uZ s.2.2.2.1 v1.toNat (s.2.2.2.1 v1.toNat + 1) j = 0
    have hj9 : s.1 ≤ (j : Int) := hj
    rw [hkk, uZ_n _ _ (by omega)]
    exact z1 j hj9
/-- the reader's arrays and fields, and what they say -/
def xTx (cs : Nat → ClassId) (g : Nat → va_E) (i : Nat) (F : Nat → Int) (s : Int × Int × Int × (Nat → Int) × (Nat → Int) × (Nat → Int) × (Nat → Int) × (Nat → Int) × (Nat → Int) × (Nat → Int) × (Nat → Int) × (Nat → Nat → Int)) : Prop := ∃ st1 op1 mn1 ai1 fa1 mu1 tb1 ly1 : Nat → Int, (g (i + 16) = iA cs 4 st1 ∧ g (i + 17) = iA cs 4 op1 ∧ g (i + 18) = iA cs 4 mn1 ∧ g (i + 19) = iA cs 24 ai1 ∧ g (i + 20) = iA cs 24 fa1 ∧ g (i + 21) = iA cs 24 mu1 ∧ g (i + 22) = iA cs 15 tb1 ∧ g (i + 23) = iA cs 336 ly1) ∧ okT F op1 mn1 ai1 fa1 mu1 tb1 ly1 ∧ rT F st1 op1 mn1 ai1 fa1 mu1 tb1 ly1 s
theorem xTx.ok {cs : Nat → ClassId} {g : Nat → va_E} {i : Nat} {F : Nat → Int} {s : Int × Int × Int × (Nat → Int) × (Nat → Int) × (Nat → Int) × (Nat → Int) × (Nat → Int) × (Nat → Int) × (Nat → Int) × (Nat → Int) × (Nat → Nat → Int)} (h : xTx cs g i F s) : okTx cs g i F := by
  obtain ⟨st1, op1, mn1, ai1, fa1, mu1, tb1, ly1, h1, h2, h3⟩ := h
  exact ⟨st1, op1, mn1, ai1, fa1, mu1, tb1, ly1, h1, h2⟩
theorem xTx.mv {cs : Nat → ClassId} {g g' : Nat → va_E} {i : Nat} {F F' : Nat → Int} {s : Int × Int × Int × (Nat → Int) × (Nat → Int) × (Nat → Int) × (Nat → Int) × (Nat → Int) × (Nat → Int) × (Nat → Int) × (Nat → Int) × (Nat → Nat → Int)} (h : xTx cs g i F s) (hG : ∀ j, i + 16 ≤ j → j ≤ i + 23 → g' j = g j) (hF : F' 47 = F 47 ∧ F' 48 = F 48 ∧ F' 49 = F 49 ∧ F 32 ≤ F' 32) : xTx cs g' i F' s := by
  obtain ⟨st1, op1, mn1, ai1, fa1, mu1, tb1, ly1, ⟨h1, h2, h3, h4, h5, h6, h7, h8⟩, ⟨⟨a1, a2, a3⟩, a4, a5, a6, a7, a8, a9⟩, hr⟩ := h
  obtain ⟨f1, f2, f3, f4⟩ := hF
  refine ⟨st1, op1, mn1, ai1, fa1, mu1, tb1, ly1, ⟨by rw [hG _ (by omega) (by omega)]; exact h1, by rw [hG _ (by omega) (by omega)]; exact h2, by rw [hG _ (by omega) (by omega)]; exact h3, by rw [hG _ (by omega) (by omega)]; exact h4, by rw [hG _ (by omega) (by omega)]; exact h5, by rw [hG _ (by omega) (by omega)]; exact h6, by rw [hG _ (by omega) (by omega)]; exact h7, by rw [hG _ (by omega) (by omega)]; exact h8⟩, ⟨⟨by rw [f1]; exact a1, by rw [f2]; exact a2, by rw [f3]; omega⟩, a4, a5, a6, a7, a8, fun s l h => a9 s l (by rw [f1] at h; exact h)⟩, hr.F ⟨f1, f2, f3⟩⟩
end
section
-- 86nc.words.lean.txt
-- words of yslope
theorem q_1506 : (Jvm.Cond.fieldLink "SnowRecorderModel" (288 : Nat) "SnowRecorderModel" "slopes1" "I") ∈ AW := AW_m7 66 (by decide +kernel) (by decide +kernel)
theorem q_1682 : (Jvm.Cond.methodLink "SnowRecorderModel" (291 : Nat) ({ cls := "SnowRecorderModel", name := "number", desc := "(II)I" } : Jvm.MethodName)) ∈ AW := AW_m8 2 (by decide +kernel) (by decide +kernel)
theorem q_1684 : (Jvm.Cond.instanceMethod ({ cls := "SnowRecorderModel", name := "number", desc := "(II)I" } : Jvm.MethodName)) ∈ AW := AW_m8 4 (by decide +kernel) (by decide +kernel)
theorem q_1685 : (Jvm.Cond.code ({ cls := "SnowRecorderModel", name := "number", desc := "(II)I" } : Jvm.MethodName) prog_12_method_50_code (4 : Nat) (Option.some Jvm.ClassFile.FieldType.int)) ∈ AW := AW_m8 5 (by decide +kernel) (by decide +kernel)
theorem s_47 : Cond.selects "SnowRecorderModel" ({ cls := "SnowRecorderModel", name := "number", desc := "(II)I" } : Jvm.MethodName) ({ cls := "SnowRecorderModel", name := "number", desc := "(II)I" } : Jvm.MethodName) ∈ AW := AW_m 47 (by decide +kernel) (by decide +kernel)
theorem hd_yX10_number : yX10_number.cls ≠ "java/lang/invoke/MethodHandle" ∧ yX10_number.cls ≠ "java/lang/invoke/VarHandle" ∧ (parseMethodDescriptor yX10_number.desc).map (fun d => d.parameters.length) = some 2 := by decide +kernel
theorem mv_yX10_number : zWv yX10_number cX10_number 4 (some .int) := ⟨q_1684, s_47, q_15, q_1685⟩
end
section
-- 86nd.dec.lean.txt
-- decode rows of yslope
theorem dX10_slope1_0 : decode cX10_slope1 0 = .ok (.aload_n 0, 1) := by decide +kernel
theorem dX10_slope1_1 : decode cX10_slope1 1 = .ok (.aload_n 0, 1) := by decide +kernel
theorem dX10_slope1_2 : decode cX10_slope1 2 = .ok (.getfield 288, 3) := by decide +kernel
theorem dX10_slope1_5 : decode cX10_slope1 5 = .ok (.iconst 4, 1) := by decide +kernel
theorem dX10_slope1_6 : decode cX10_slope1 6 = .ok (.if_icmp .ge 7, 3) := by decide +kernel
theorem dX10_slope1_13 : decode cX10_slope1 13 = .ok (.iconst 0, 1) := by decide +kernel
theorem dX10_slope1_14 : decode cX10_slope1 14 = .ok (.iconst 2, 1) := by decide +kernel
theorem dX10_slope1_15 : decode cX10_slope1 15 = .ok (.invokevirtual 277, 3) := by decide +kernel
theorem dX10_slope1_18 : decode cX10_slope1 18 = .ok (.ifCond .ne 4, 3) := by decide +kernel
theorem dX10_slope1_21 : decode cX10_slope1 21 = .ok (.return_, 1) := by decide +kernel
theorem dX10_slope1_9 : decode cX10_slope1 9 = .ok (.iconst 1, 1) := by decide +kernel
theorem dX10_slope1_10 : decode cX10_slope1 10 = .ok (.goto 4, 3) := by decide +kernel
theorem dX10_slope1_22 : decode cX10_slope1 22 = .ok (.aload_n 0, 1) := by decide +kernel
theorem dX10_slope1_23 : decode cX10_slope1 23 = .ok (.invokevirtual 285, 3) := by decide +kernel
theorem dX10_slope1_26 : decode cX10_slope1 26 = .ok (.aload_n 0, 1) := by decide +kernel
theorem dX10_slope1_27 : decode cX10_slope1 27 = .ok (.getfield 65, 3) := by decide +kernel
theorem dX10_slope1_30 : decode cX10_slope1 30 = .ok (.aload_n 0, 1) := by decide +kernel
theorem dX10_slope1_31 : decode cX10_slope1 31 = .ok (.getfield 288, 3) := by decide +kernel
theorem dX10_slope1_34 : decode cX10_slope1 34 = .ok (.aload_n 0, 1) := by decide +kernel
theorem dX10_slope1_35 : decode cX10_slope1 35 = .ok (.iconst 0, 1) := by decide +kernel
theorem dX10_slope1_36 : decode cX10_slope1 36 = .ok (.bipush 90, 2) := by decide +kernel
theorem dX10_slope1_38 : decode cX10_slope1 38 = .ok (.invokevirtual 291, 3) := by decide +kernel
theorem dX10_slope1_41 : decode cX10_slope1 41 = .ok (.iastore, 1) := by decide +kernel
theorem dX10_slope1_42 : decode cX10_slope1 42 = .ok (.aload_n 0, 1) := by decide +kernel
theorem dX10_slope1_43 : decode cX10_slope1 43 = .ok (.getfield 274, 3) := by decide +kernel
theorem dX10_slope1_46 : decode cX10_slope1 46 = .ok (.ifCond .ne 19, 3) := by decide +kernel
theorem dX10_slope1_49 : decode cX10_slope1 49 = .ok (.aload_n 0, 1) := by decide +kernel
theorem dX10_slope1_50 : decode cX10_slope1 50 = .ok (.getfield 68, 3) := by decide +kernel
theorem dX10_slope1_53 : decode cX10_slope1 53 = .ok (.aload_n 0, 1) := by decide +kernel
theorem dX10_slope1_54 : decode cX10_slope1 54 = .ok (.getfield 288, 3) := by decide +kernel
theorem dX10_slope1_57 : decode cX10_slope1 57 = .ok (.aload_n 0, 1) := by decide +kernel
theorem dX10_slope1_58 : decode cX10_slope1 58 = .ok (.iconst 0, 1) := by decide +kernel
theorem dX10_slope1_59 : decode cX10_slope1 59 = .ok (.bipush 20, 2) := by decide +kernel
theorem dX10_slope1_61 : decode cX10_slope1 61 = .ok (.invokevirtual 291, 3) := by decide +kernel
theorem dX10_slope1_64 : decode cX10_slope1 64 = .ok (.iastore, 1) := by decide +kernel
theorem dX10_slope1_65 : decode cX10_slope1 65 = .ok (.aload_n 0, 1) := by decide +kernel
theorem dX10_slope1_66 : decode cX10_slope1 66 = .ok (.getfield 71, 3) := by decide +kernel
theorem dX10_slope1_69 : decode cX10_slope1 69 = .ok (.aload_n 0, 1) := by decide +kernel
theorem dX10_slope1_70 : decode cX10_slope1 70 = .ok (.getfield 288, 3) := by decide +kernel
theorem dX10_slope1_73 : decode cX10_slope1 73 = .ok (.iconst 0, 1) := by decide +kernel
theorem dX10_slope1_74 : decode cX10_slope1 74 = .ok (.iastore, 1) := by decide +kernel
theorem dX10_slope1_75 : decode cX10_slope1 75 = .ok (.aload_n 0, 1) := by decide +kernel
theorem dX10_slope1_76 : decode cX10_slope1 76 = .ok (.dup, 1) := by decide +kernel
theorem dX10_slope1_77 : decode cX10_slope1 77 = .ok (.getfield 288, 3) := by decide +kernel
theorem dX10_slope1_80 : decode cX10_slope1 80 = .ok (.iconst 1, 1) := by decide +kernel
theorem dX10_slope1_81 : decode cX10_slope1 81 = .ok (.iadd, 1) := by decide +kernel
theorem dX10_slope1_82 : decode cX10_slope1 82 = .ok (.putfield 288, 3) := by decide +kernel
theorem dX10_slope1_85 : decode cX10_slope1 85 = .ok (.return_, 1) := by decide +kernel
end
section
-- 86ne.yslope.lean.txt
set_option maxRecDepth 100000 in
set_option maxHeartbeats 4000000 in
theorem c_ySlope (l : Launch) (D : va_G) (A : Nat → Prop) (cs : Nat → ClassId) (tt : Nat) (N : Nat) (ad : Nat → Nat) (g : Nat → va_E) (i : Nat) (hN : i + 30 ≤ N) (F : Nat → Int) (hg : g i = mC ad i F) (tp : Nat → Int) (ha13 : g (i + 13) = iA cs 900 tp) (T : Nat → Int) (n : Nat) (hn : n ≤ 900) (hTb : ∀ k, k < n → 0 ≤ T k ∧ T k ≤ 255) (hTt : ∀ k, k < n → tp k = T k) (htp : ∀ k, k < 900 → 0 ≤ tp k ∧ tp k ≤ 255) (f : Nat) (hk : tkR T n F f) (h38 : F 38 = 0) (hfl : f < n) (sl ho nm : Int) (mn st op ai fa mu tb B : Nat → Int) (Lz : Nat → Nat → Int) (hX : xTx cs g i F (sl, ho, nm, mn, st, op, ai, fa, mu, tb, B, Lz)) : zM l yX10_slope1 cX10_slope1 1 none ({ frames := 5, cells := 0, slots := 0, locals := 300 } : Room) D A cs tt N ad g [.ref (ad i)] (rV0 N ad fun g' => (∃ F' : Nat → Int, g' i = mC ad i F' ∧ (∀ f, f ≠ 24 → f ≠ 32 → f ≠ 33 → f ≠ 35 → f ≠ 36 → f ≠ 37 → f ≠ 38 → f ≠ 47 → f ≠ 48 → f ≠ 49 → F' f = F f) ∧ ((∃ v, cl_slope T n sl f = .ok v ∧ F' 38 = 0 ∧ F' 24 = F 24 ∧ f < v.2 ∧ tkR T n F' v.2 ∧ xTx cs g' i F' (sl + 1, ho, nm, mn, uZ st (sl).toNat v.1.1, uZ op (sl).toNat v.1.2, ai, fa, mu, tb, B, Lz)) ∨ (∃ e : Int × Nat, cl_slope T n sl f = .error e ∧ F' 38 = e.1 ∧ F' 24 = (e.2 : Int) ∧ (1 ≤ e.1 ∧ e.1 ≤ 5) ∧ (∃ f9, tkR T n F' f9) ∧ okTx cs g' i F'))) ∧ ∀ j, j ≠ i → j < i + 16 ∨ i + 23 < j → g' j = g j) := by
  have hay1 : zAt ad (i) (ad i) := rfl
  have hay2 : zAt ad (i + 13) (ad (i + 13)) := rfl
  have hsry3 := srt_b T n f
  have hvly4 := vlu_b hTb f
  have hwby5 := tk_w_b T n f
  have hfny6 := hk.1
  obtain ⟨st1, op1, mn1, ai1, fa1, mu1, tb1, ly1, ⟨ha16, ha17, ha18, ha19, ha20, ha21, ha22, ha23⟩, ⟨⟨t47, t48, t49⟩, hop1, hmn1, hai1, hfa1, htb1, hly1⟩, hrT⟩ := hX
  have r47 : F 47 = sl := hrT.1.1
  have r48 : F 48 = ho := hrT.1.2.1
  have r49 : F 49 = nm := hrT.1.2.2
  have r32 : F 32 = ((tk_to T n f : Nat) : Int) := hk.2.1
  have hto0 := tk_to_nx (T := T) (n := n) (f := f) hk.1.1
  have rsl : ∀ k : Nat, (k : Int) < sl → mn1 k = mn k := fun k h9 => (hrT.2.1 k h9).2.2
  have rtb : ∀ k : Nat, k < 15 → (tb1 k = -1 ∧ B k = 0) ∨ (0 ≤ tb1 k ∧ B k = 1) := fun k h9 => by
    rcases hrT.2.2.2.1 k h9 with ⟨a9, b9, c9⟩ | ⟨a9, b9, c9⟩
    · exact Or.inl ⟨a9, b9⟩
    · exact Or.inr ⟨a9, b9⟩
  have rs4 : 0 ≤ sl ∧ sl ≤ 4 := by omega
  have rh4 : 0 ≤ ho ∧ ho ≤ 24 := by omega
  have hay7 : zAt ad (i + 16) (ad (i + 16)) := rfl
  have hay8 : zAt ad (i + 17) (ad (i + 17)) := rfl
  have hay9 : zAt ad (i + 18) (ad (i + 18)) := rfl
  have hay10 : zAt ad (i + 19) (ad (i + 19)) := rfl
  have hay11 : zAt ad (i + 20) (ad (i + 20)) := rfl
  have hay12 : zAt ad (i + 21) (ad (i + 21)) := rfl
  have hay13 : zAt ad (i + 22) (ad (i + 22)) := rfl
  have hay14 : zAt ad (i + 23) (ad (i + 23)) := rfl
  have htbr : ∀ k, k < 15 → -1 ≤ tb1 k ∧ tb1 k ≤ 9999 := fun k hk => by have h9 := htb1 k hk; omega
  refine z_of (by decide) (Nat.le_of_ble_eq_true rfl) ?_
  intro pZ eZ sZ mZ below meth cZ C hr hlk hnm
  refine z_lv (lv' := [(0, .ref (ad i))]) [0] rfl ?_
  refine z_aload_n C 0 dX10_slope1_0 rfl ?_
  refine z_aload_n C 0 dX10_slope1_1 rfl ?_
  refine z_get (v := .int (zI (sl))) C (lt_A0 hN rfl) hay1 hg rfl inA_X10 47 (by decide) q_1506 rfl (fv (F := F) (f := 47) r47) dX10_slope1_2 ?_
  refine z_iconst (z := 4) C dX10_slope1_5 rfl ?_
  refine z_icmp_ge (tgt := 13) C dX10_slope1_6 (by decide) (by omega) (by omega) (fun hby15 => ?_) (fun hby15 => ?_)
  · have hscy16 : (4 ≤ sl) := by omega
    refine z_iconst (z := 0) C dX10_slope1_13 rfl ?_
    refine z_iconst (z := 2) C dX10_slope1_14 rfl ?_
    have h33vy18 : F 33 = (f : Int) := hk.2.2.1
    have h24vy18 : F 24 = F 24 := rfl
    have htvy18 : tkR T n F f := hk
    refine z_cV (As := [.int (zI (0)), .int (zI (2))]) (rest := []) (ci := 12) C (c_yWants l D A cs tt N ad _ i hN _ hg h38 (0) (by omega) (2) (by omega)) (lt_A0 hN rfl) hay1 hg rfl rfl mv_yX10_wants q_1678 hd_yX10_wants (by decide) (Nat.le_of_ble_eq_true rfl) (by decide) dX10_slope1_15 rfl (kI0 fun vy18 gvy18 hvy18 => ?_)
    obtain ⟨⟨Fvy18, hcvy18, hqvy18, hFvy18⟩, hfvy18⟩ := hvy18
    obtain ⟨rfl, hevy18, hbvy18⟩ : vy18 = 0 ∧ Fvy18 38 = 2 ∧ Fvy18 24 = (f : Int) := by omega
    clear hqvy18 h33vy18 h24vy18
    have hkvy18 : tkR T n Fvy18 f := tkR.w htvy18 hFvy18 (by omega)
    refine z_if_ne (tgt := 22) C dX10_slope1_18 (by decide) (by omega) (fun h => absurd h (by omega)) (fun _ => ?_)
    have hFy19 : ∀ f, f ≠ 24 → f ≠ 32 → f ≠ 33 → f ≠ 35 → f ≠ 36 → f ≠ 37 → f ≠ 38 → f ≠ 47 → f ≠ 48 → f ≠ 49 → Fvy18 f = F f := fun f n24 n32 n33 n35 n36 n37 n38 n47 n48 n49 => (hFvy18 f n24 n38)
    have htky20 : tkR T n Fvy18 f := hkvy18
    have htoy21 := tk_to_w (T := T) (n := n) (f := f) htky20.1.1
    have h32y22 := htky20.2.1
    have hey23 : Fvy18 24 = (f : Int) := hbvy18
    have hey24 : Fvy18 38 = 2 := hevy18
    have hey25 : Fvy18 47 = sl := ((hFvy18 47 (by decide) (by decide)).trans r47)
    have hey26 : Fvy18 48 = ho := ((hFvy18 48 (by decide) (by decide)).trans r48)
    have hey27 : Fvy18 49 = nm := ((hFvy18 49 (by decide) (by decide)).trans r49)
    have hlay29 : ∀ s l : Nat, (s : Int) < Fvy18 47 → (l : Int) < mn1 s → lyT ly1 (84 * s + 7 * l) := by
      intro s l a1 a2
      have hm9 := hmn1 s (by omega)
      exact hly1 s l (by omega) a2
    have hgy30 := (hfvy18 (i + 16) (ne_o (i := i) (c := 16) (d := 0) rfl)).trans ha16
    have hgy31 := (hfvy18 (i + 17) (ne_o (i := i) (c := 17) (d := 0) rfl)).trans ha17
    have hgy32 := (hfvy18 (i + 18) (ne_o (i := i) (c := 18) (d := 0) rfl)).trans ha18
    have hgy33 := (hfvy18 (i + 19) (ne_o (i := i) (c := 19) (d := 0) rfl)).trans ha19
    have hgy34 := (hfvy18 (i + 20) (ne_o (i := i) (c := 20) (d := 0) rfl)).trans ha20
    have hgy35 := (hfvy18 (i + 21) (ne_o (i := i) (c := 21) (d := 0) rfl)).trans ha21
    have hgy36 := (hfvy18 (i + 22) (ne_o (i := i) (c := 22) (d := 0) rfl)).trans ha22
    have hgy37 := (hfvy18 (i + 23) (ne_o (i := i) (c := 23) (d := 0) rfl)).trans ha23
    have htxy38 : okTx cs gvy18 i Fvy18 := ⟨_, _, _, _, _, _, _, _, ⟨hgy30, hgy31, hgy32, hgy33, hgy34, hgy35, hgy36, hgy37⟩, ⟨⟨by omega, by omega, by omega⟩, hop1, hmn1, hai1, hfa1, htb1, hlay29⟩⟩
    exact z_vret C hr hlk dX10_slope1_21 (by decide) (by decide) ⟨rfl, rfl, rfl, ⟨_, hcvy18, hFy19, Or.inr ⟨(2, f), by simp only [cl_slope, if_pos hscy16], by show Fvy18 38 = 2; omega, by show Fvy18 24 = ((f : Nat) : Int); omega, by show 1 ≤ 2 ∧ 2 ≤ 5; omega, ⟨_, htky20⟩, htxy38⟩⟩, fun j j1 j2 => by rw [hfvy18 _ (by omega)]⟩
  · have hscy17 : ¬ (4 ≤ sl) := by omega
    refine z_iconst (z := 1) C dX10_slope1_9 rfl ?_
    refine z_goto (tgt := 14) C dX10_slope1_10 (by decide) ?_
    refine z_iconst (z := 2) C dX10_slope1_14 rfl ?_
    have h33vy39 : F 33 = (f : Int) := hk.2.2.1
    have h24vy39 : F 24 = F 24 := rfl
    have htvy39 : tkR T n F f := hk
    refine z_cV (As := [.int (zI (1)), .int (zI (2))]) (rest := []) (ci := 12) C (c_yWants l D A cs tt N ad _ i hN _ hg h38 (1) (by omega) (2) (by omega)) (lt_A0 hN rfl) hay1 hg rfl rfl mv_yX10_wants q_1678 hd_yX10_wants (by decide) (Nat.le_of_ble_eq_true rfl) (by decide) dX10_slope1_15 rfl (kI0 fun vy39 gvy39 hvy39 => ?_)
    obtain ⟨⟨Fvy39, hcvy39, hqvy39, hFvy39⟩, hfvy39⟩ := hvy39
    obtain ⟨rfl, hevy39, hbvy39⟩ : vy39 = 1 ∧ Fvy39 38 = 0 ∧ Fvy39 24 = F 24 := by omega
    clear hqvy39 h33vy39 h24vy39
    have hkvy39 : tkR T n Fvy39 f := tkR.w htvy39 hFvy39 (by omega)
    refine z_if_ne (tgt := 22) C dX10_slope1_18 (by decide) (by omega) (fun _ => ?_) (fun h => absurd h (by omega))
    refine z_aload_n C 0 dX10_slope1_22 rfl ?_
    have hgy40 := (hfvy39 (i + 13) (ne_o (i := i) (c := 13) (d := 0) rfl)).trans ha13
    have htvy41 : tkR T n Fvy39 f := hkvy39
    refine z_cV (As := []) (rest := []) (ci := 12) C (c_yGo l D A cs tt N ad _ i hN _ hcvy39 _ hgy40 T n hn hTb hTt htp (tk_to T n f) (tk_to_b htvy41.1.1).2.1 htvy41.2.1 htvy41.2.2.2.1 htvy41.2.2.2.2.2.2.2) (lt_A0 hN rfl) hay1 hcvy39 rfl rfl mv_yX10_go q_1652 hd_yX10_go (by decide) (Nat.le_of_ble_eq_true rfl) (by decide) dX10_slope1_23 rfl (kV0 fun gvy41 hvy41 => ?_)
    obtain ⟨⟨Fvy41, hcvy41, hjvy41, hFvy41⟩, hfvy41⟩ := hvy41
    have hkvy41 : tkR T n Fvy41 (tk_nx T n f) := hjvy41
    have hnbvy41 := tk_nx_s (T := T) (n := n) (f := f) hfl
    clear hjvy41
    have hsry42 := srt_b T n (tk_nx T n f)
    have hvly43 := vlu_b hTb (tk_nx T n f)
    have hwby44 := tk_w_b T n (tk_nx T n f)
    have hfny45 := hkvy41.1
    refine z_aload_n C 0 dX10_slope1_26 rfl ?_
    refine z_get (v := .ref (ad (i + 16))) C (lt_A0 hN rfl) hay1 hcvy41 rfl inA_X10 39 (by decide) q_1498 rfl rfl dX10_slope1_27 ?_
    refine z_aload_n C 0 dX10_slope1_30 rfl ?_
    refine z_get (v := .int (zI (sl))) C (lt_A0 hN rfl) hay1 hcvy41 rfl inA_X10 47 (by decide) q_1506 rfl (fv (F := Fvy41) (f := 47) ((hFvy41 47 (by decide) (by decide) (by decide) (by decide) (by decide)).trans ((hFvy39 47 (by decide) (by decide)).trans r47))) dX10_slope1_31 ?_
    refine z_aload_n C 0 dX10_slope1_34 rfl ?_
    refine z_iconst (z := 0) C dX10_slope1_35 rfl ?_
    refine z_bipush (z := 90) C dX10_slope1_36 (by decide) ?_
    have hgy46 := (hfvy41 (i + 13) (ne_o (i := i) (c := 13) (d := 0) rfl)).trans hgy40
    have h24vy47 : Fvy41 24 = F 24 := ((hFvy41 24 (by decide) (by decide) (by decide) (by decide) (by decide)).trans hbvy39)
    refine z_cV (As := [.int (zI (0)), .int (zI (90))]) (rest := [.int (zI (sl)), .ref (ad (i + 16))]) (ci := 12) C (c_yNumber l D A cs tt N ad _ i hN _ hcvy41 _ hgy46 T n hn hTb hTt htp (tk_nx T n f) hkvy41 ((hFvy41 38 (by decide) (by decide) (by decide) (by decide) (by decide)).trans hevy39) (0) (by omega) (90) (by omega)) (lt_A0 hN rfl) hay1 hcvy41 rfl rfl mv_yX10_number q_1682 hd_yX10_number (by decide) (Nat.le_of_ble_eq_true rfl) (by decide) dX10_slope1_38 rfl (kI0 fun vy47 gvy47 hvy47 => ?_)
    obtain ⟨⟨Fvy47, hcvy47, hqvy47, hFvy47⟩, hfvy47⟩ := hvy47
    rcases hqvy47 with hqvy47 | hqvy47
    · obtain ⟨hnvy47, hrvy47, hltvy47, hevy47, hb0vy47, hkvy47⟩ := hqvy47
      have hbvy47 : Fvy47 24 = F 24 := hb0vy47.trans h24vy47
      have hnbvy47 := tk_nx_s (T := T) (n := n) (f := (tk_nx T n f)) hltvy47
      clear hb0vy47 h24vy47
      have hsry48 := srt_b T n (tk_nx T n (tk_nx T n f))
      have hvly49 := vlu_b hTb (tk_nx T n (tk_nx T n f))
      have hwby50 := tk_w_b T n (tk_nx T n (tk_nx T n f))
      have hfny51 := hkvy47.1
      have hgy52 := (hfvy39 (i + 16) (ne_o (i := i) (c := 16) (d := 0) rfl)).trans ha16
      have hgy53 := (hfvy41 (i + 16) (ne_o (i := i) (c := 16) (d := 0) rfl)).trans hgy52
      have hgy54 := (hfvy47 (i + 16) (ne_o (i := i) (c := 16) (d := 0) rfl)).trans hgy53
      refine z_iast C (lt_A (c := 16) hN rfl) hay7 hgy54 ((sl).toNat) (by omega) (by omega) (by decide) dX10_slope1_41 (fun gy55 egy56 => ?_)
      have hgy57 := up_s egy56
      obtain ⟨ry58, hvy59⟩ : ∃ rZ9 : Nat → Int, rZ9 = uZ st1 ((sl).toNat) (vy47) := ⟨_, rfl⟩
      rw [← hvy59] at hgy57
      refine z_aload_n C 0 dX10_slope1_42 rfl ?_
      have hgy60 := up_n egy56 hcvy47 (ne_o (i := i) (c := 0) (d := 16) rfl)
      refine z_get (v := .int (zI (0))) C (lt_A0 hN rfl) hay1 hgy60 rfl inA_X10 38 (by decide) q_1497 rfl (fv (F := Fvy47) (f := 38) hevy47) dX10_slope1_43 ?_
      refine z_if_ne (tgt := 65) C dX10_slope1_46 (by decide) (by omega) (fun h => absurd h (by omega)) (fun _ => ?_)
      refine z_aload_n C 0 dX10_slope1_49 rfl ?_
      refine z_get (v := .ref (ad (i + 17))) C (lt_A0 hN rfl) hay1 hgy60 rfl inA_X10 40 (by decide) q_1499 rfl rfl dX10_slope1_50 ?_
      refine z_aload_n C 0 dX10_slope1_53 rfl ?_
      refine z_get (v := .int (zI (sl))) C (lt_A0 hN rfl) hay1 hgy60 rfl inA_X10 47 (by decide) q_1506 rfl (fv (F := Fvy47) (f := 47) ((hFvy47 47 (by decide) (by decide) (by decide) (by decide) (by decide) (by decide) (by decide)).trans ((hFvy41 47 (by decide) (by decide) (by decide) (by decide) (by decide)).trans ((hFvy39 47 (by decide) (by decide)).trans r47)))) dX10_slope1_54 ?_
      refine z_aload_n C 0 dX10_slope1_57 rfl ?_
      refine z_iconst (z := 0) C dX10_slope1_58 rfl ?_
      refine z_bipush (z := 20) C dX10_slope1_59 (by decide) ?_
      have hgy61 := (hfvy47 (i + 13) (ne_o (i := i) (c := 13) (d := 0) rfl)).trans hgy46
      have hgy62 := up_n egy56 hgy61 (ne_o (i := i) (c := 13) (d := 16) rfl)
      have h24vy63 : Fvy47 24 = F 24 := hbvy47
      refine z_cV (As := [.int (zI (0)), .int (zI (20))]) (rest := [.int (zI (sl)), .ref (ad (i + 17))]) (ci := 12) C (c_yNumber l D A cs tt N ad _ i hN _ hgy60 _ hgy62 T n hn hTb hTt htp (tk_nx T n (tk_nx T n f)) hkvy47 hevy47 (0) (by omega) (20) (by omega)) (lt_A0 hN rfl) hay1 hgy60 rfl rfl mv_yX10_number q_1682 hd_yX10_number (by decide) (Nat.le_of_ble_eq_true rfl) (by decide) dX10_slope1_61 rfl (kI0 fun vy63 gvy63 hvy63 => ?_)
      obtain ⟨⟨Fvy63, hcvy63, hqvy63, hFvy63⟩, hfvy63⟩ := hvy63
      rcases hqvy63 with hqvy63 | hqvy63
      · obtain ⟨hnvy63, hrvy63, hltvy63, hevy63, hb0vy63, hkvy63⟩ := hqvy63
        have hbvy63 : Fvy63 24 = F 24 := hb0vy63.trans h24vy63
        have hnbvy63 := tk_nx_s (T := T) (n := n) (f := (tk_nx T n (tk_nx T n f))) hltvy63
        clear hb0vy63 h24vy63
        have hsry64 := srt_b T n (tk_nx T n (tk_nx T n (tk_nx T n f)))
        have hvly65 := vlu_b hTb (tk_nx T n (tk_nx T n (tk_nx T n f)))
        have hwby66 := tk_w_b T n (tk_nx T n (tk_nx T n (tk_nx T n f)))
        have hfny67 := hkvy63.1
        have hgy68 := (hfvy39 (i + 17) (ne_o (i := i) (c := 17) (d := 0) rfl)).trans ha17
        have hgy69 := (hfvy41 (i + 17) (ne_o (i := i) (c := 17) (d := 0) rfl)).trans hgy68
        have hgy70 := (hfvy47 (i + 17) (ne_o (i := i) (c := 17) (d := 0) rfl)).trans hgy69
        have hgy71 := up_n egy56 hgy70 (ne_o (i := i) (c := 17) (d := 16) rfl)
        have hgy72 := (hfvy63 (i + 17) (ne_o (i := i) (c := 17) (d := 0) rfl)).trans hgy71
        refine z_iast C (lt_A (c := 17) hN rfl) hay8 hgy72 ((sl).toNat) (by omega) (by omega) (by decide) dX10_slope1_64 (fun gy73 egy74 => ?_)
        have hgy75 := up_s egy74
        obtain ⟨ry76, hvy77⟩ : ∃ rZ9 : Nat → Int, rZ9 = uZ op1 ((sl).toNat) (vy63) := ⟨_, rfl⟩
        rw [← hvy77] at hgy75
        refine z_aload_n C 0 dX10_slope1_65 rfl ?_
        have hgy78 := up_n egy74 hcvy63 (ne_o (i := i) (c := 0) (d := 17) rfl)
        refine z_get (v := .ref (ad (i + 18))) C (lt_A0 hN rfl) hay1 hgy78 rfl inA_X10 41 (by decide) q_1500 rfl rfl dX10_slope1_66 ?_
        refine z_aload_n C 0 dX10_slope1_69 rfl ?_
        refine z_get (v := .int (zI (sl))) C (lt_A0 hN rfl) hay1 hgy78 rfl inA_X10 47 (by decide) q_1506 rfl (fv (F := Fvy63) (f := 47) ((hFvy63 47 (by decide) (by decide) (by decide) (by decide) (by decide) (by decide) (by decide)).trans ((hFvy47 47 (by decide) (by decide) (by decide) (by decide) (by decide) (by decide) (by decide)).trans ((hFvy41 47 (by decide) (by decide) (by decide) (by decide) (by decide)).trans ((hFvy39 47 (by decide) (by decide)).trans r47))))) dX10_slope1_70 ?_
        refine z_iconst (z := 0) C dX10_slope1_73 rfl ?_
        have hgy79 := (hfvy39 (i + 18) (ne_o (i := i) (c := 18) (d := 0) rfl)).trans ha18
        have hgy80 := (hfvy41 (i + 18) (ne_o (i := i) (c := 18) (d := 0) rfl)).trans hgy79
        have hgy81 := (hfvy47 (i + 18) (ne_o (i := i) (c := 18) (d := 0) rfl)).trans hgy80
        have hgy82 := up_n egy56 hgy81 (ne_o (i := i) (c := 18) (d := 16) rfl)
        have hgy83 := (hfvy63 (i + 18) (ne_o (i := i) (c := 18) (d := 0) rfl)).trans hgy82
        have hgy84 := up_n egy74 hgy83 (ne_o (i := i) (c := 18) (d := 17) rfl)
        refine z_iast C (lt_A (c := 18) hN rfl) hay9 hgy84 ((sl).toNat) (by omega) (by omega) (by decide) dX10_slope1_74 (fun gy85 egy86 => ?_)
        have hgy87 := up_s egy86
        obtain ⟨ry88, hvy89⟩ : ∃ rZ9 : Nat → Int, rZ9 = uZ mn1 ((sl).toNat) (0) := ⟨_, rfl⟩
        rw [← hvy89] at hgy87
        refine z_aload_n C 0 dX10_slope1_75 rfl ?_
        refine z_dup C dX10_slope1_76 rfl ?_
        have hgy90 := up_n egy86 hgy78 (ne_o (i := i) (c := 0) (d := 18) rfl)
        refine z_get (v := .int (zI (sl))) C (lt_A0 hN rfl) hay1 hgy90 rfl inA_X10 47 (by decide) q_1506 rfl (fv (F := Fvy63) (f := 47) ((hFvy63 47 (by decide) (by decide) (by decide) (by decide) (by decide) (by decide) (by decide)).trans ((hFvy47 47 (by decide) (by decide) (by decide) (by decide) (by decide) (by decide) (by decide)).trans ((hFvy41 47 (by decide) (by decide) (by decide) (by decide) (by decide)).trans ((hFvy39 47 (by decide) (by decide)).trans r47))))) dX10_slope1_77 ?_
        refine z_iconst (z := 1) C dX10_slope1_80 rfl ?_
        refine z_iadd C dX10_slope1_81 ?_
        refine z_put (fs' := mF ad (i) (uZ Fvy63 47 (sl + 1))) C (lt_A0 hN rfl) hay1 hgy90 tyX10 tyX10_ok nmX10 rfl inA_X10 47 (by decide) q_1506 rfl rfl rfl rfl (Nat.le_of_ble_eq_true rfl) rfl dX10_slope1_82 (fun gy91 egy92 => ?_)
        have hgy93 := up_s egy92
        have hFy94 : ∀ f, f ≠ 24 → f ≠ 32 → f ≠ 33 → f ≠ 35 → f ≠ 36 → f ≠ 37 → f ≠ 38 → f ≠ 47 → f ≠ 48 → f ≠ 49 → (uZ Fvy63 47 (sl + 1)) f = F f := fun f n24 n32 n33 n35 n36 n37 n38 n47 n48 n49 => ((uZ_n _ _ n47).trans ((hFvy63 f n24 n32 n33 n35 n36 n37 n38).trans ((hFvy47 f n24 n32 n33 n35 n36 n37 n38).trans ((hFvy41 f n32 n33 n35 n36 n37).trans (hFvy39 f n24 n38)))))
        have htky95 : tkR T n (uZ Fvy63 47 (sl + 1)) (tk_nx T n (tk_nx T n (tk_nx T n f))) := (tkR.put hkvy63 (by decide))
        have htoy96 := tk_to_w (T := T) (n := n) (f := (tk_nx T n (tk_nx T n (tk_nx T n f)))) htky95.1.1
        have h32y97 := htky95.2.1
        have hey98 : (uZ Fvy63 47 (sl + 1)) 24 = F 24 := (fn hbvy63 (by decide))
        have hey99 : (uZ Fvy63 47 (sl + 1)) 38 = 0 := (fn hevy63 (by decide))
        have hey100 : (uZ Fvy63 47 (sl + 1)) 47 = sl + 1 := (uZ_s _ _ _)
        have hey101 : (uZ Fvy63 47 (sl + 1)) 48 = ho := (fn ((hFvy63 48 (by decide) (by decide) (by decide) (by decide) (by decide) (by decide) (by decide)).trans ((hFvy47 48 (by decide) (by decide) (by decide) (by decide) (by decide) (by decide) (by decide)).trans ((hFvy41 48 (by decide) (by decide) (by decide) (by decide) (by decide)).trans ((hFvy39 48 (by decide) (by decide)).trans r48)))) (by decide))
        have hey102 : (uZ Fvy63 47 (sl + 1)) 49 = nm := (fn ((hFvy63 49 (by decide) (by decide) (by decide) (by decide) (by decide) (by decide) (by decide)).trans ((hFvy47 49 (by decide) (by decide) (by decide) (by decide) (by decide) (by decide) (by decide)).trans ((hFvy41 49 (by decide) (by decide) (by decide) (by decide) (by decide)).trans ((hFvy39 49 (by decide) (by decide)).trans r49)))) (by decide))
        have hfry104 : ∀ j, j ≠ (sl).toNat → ry76 j = op1 j := fun j n0 => (congrFun hvy77 _).trans ((uZ_n _ _ n0).trans (rfl))
        have hwy105 : ry76 ((sl).toNat) = vy63 := (congrFun hvy77 _).trans (uZ_s _ _ _)
        have haky103 : ∀ k, k < 4 → 0 ≤ ry76 k ∧ ry76 k ≤ 20 := by
          intro k hk
          by_cases e : k = (sl).toNat
          · rw [e]; have hk0 := hop1 ((sl).toNat) (by omega); omega
          · have hk0 := hop1 k hk; rw [hfry104 k e]; exact hk0
        have hfry107 : ∀ j, j ≠ (sl).toNat → ry88 j = mn1 j := fun j n0 => (congrFun hvy89 _).trans ((uZ_n _ _ n0).trans (rfl))
        have hwy108 : ry88 ((sl).toNat) = 0 := (congrFun hvy89 _).trans (uZ_s _ _ _)
        have haky106 : ∀ k, k < 4 → 0 ≤ ry88 k ∧ ry88 k ≤ 12 := by
          intro k hk
          by_cases e : k = (sl).toNat
          · rw [e]; have hk0 := hmn1 ((sl).toNat) (by omega); omega
          · have hk0 := hmn1 k hk; rw [hfry107 k e]; exact hk0
        have hfry111 : ∀ j, j ≠ (sl).toNat → ry88 j = mn1 j := fun j n0 => (congrFun hvy89 _).trans ((uZ_n _ _ n0).trans (rfl))
        have hwy112 : ry88 ((sl).toNat) = 0 := (congrFun hvy89 _).trans (uZ_s _ _ _)
        have hlay110 : ∀ s l : Nat, (s : Int) < (uZ Fvy63 47 (sl + 1)) 47 → (l : Int) < ry88 s → lyT ly1 (84 * s + 7 * l) := by
          intro s l a1 a2
          by_cases e : s = (sl).toNat
          · subst e; omega
          · have hs9 := hfry111 s e; rw [hs9] at a2; have hm9 := hmn1 s (by omega); exact hly1 s l (by omega) a2
        have hgy113 := (hfvy63 (i + 16) (ne_o (i := i) (c := 16) (d := 0) rfl)).trans hgy57
        have hgy114 := up_n egy74 hgy113 (ne_o (i := i) (c := 16) (d := 17) rfl)
        have hgy115 := up_n egy86 hgy114 (ne_o (i := i) (c := 16) (d := 18) rfl)
        have hgy116 := up_n egy92 hgy115 (ne_o (i := i) (c := 16) (d := 0) rfl)
        have hgy117 := up_n egy86 hgy75 (ne_o (i := i) (c := 17) (d := 18) rfl)
        have hgy118 := up_n egy92 hgy117 (ne_o (i := i) (c := 17) (d := 0) rfl)
        have hgy119 := up_n egy92 hgy87 (ne_o (i := i) (c := 18) (d := 0) rfl)
        have hgy120 := (hfvy39 (i + 19) (ne_o (i := i) (c := 19) (d := 0) rfl)).trans ha19
        have hgy121 := (hfvy41 (i + 19) (ne_o (i := i) (c := 19) (d := 0) rfl)).trans hgy120
        have hgy122 := (hfvy47 (i + 19) (ne_o (i := i) (c := 19) (d := 0) rfl)).trans hgy121
        have hgy123 := up_n egy56 hgy122 (ne_o (i := i) (c := 19) (d := 16) rfl)
        have hgy124 := (hfvy63 (i + 19) (ne_o (i := i) (c := 19) (d := 0) rfl)).trans hgy123
        have hgy125 := up_n egy74 hgy124 (ne_o (i := i) (c := 19) (d := 17) rfl)
        have hgy126 := up_n egy86 hgy125 (ne_o (i := i) (c := 19) (d := 18) rfl)
        have hgy127 := up_n egy92 hgy126 (ne_o (i := i) (c := 19) (d := 0) rfl)
        have hgy128 := (hfvy39 (i + 20) (ne_o (i := i) (c := 20) (d := 0) rfl)).trans ha20
        have hgy129 := (hfvy41 (i + 20) (ne_o (i := i) (c := 20) (d := 0) rfl)).trans hgy128
        have hgy130 := (hfvy47 (i + 20) (ne_o (i := i) (c := 20) (d := 0) rfl)).trans hgy129
        have hgy131 := up_n egy56 hgy130 (ne_o (i := i) (c := 20) (d := 16) rfl)
        have hgy132 := (hfvy63 (i + 20) (ne_o (i := i) (c := 20) (d := 0) rfl)).trans hgy131
        have hgy133 := up_n egy74 hgy132 (ne_o (i := i) (c := 20) (d := 17) rfl)
        have hgy134 := up_n egy86 hgy133 (ne_o (i := i) (c := 20) (d := 18) rfl)
        have hgy135 := up_n egy92 hgy134 (ne_o (i := i) (c := 20) (d := 0) rfl)
        have hgy136 := (hfvy39 (i + 21) (ne_o (i := i) (c := 21) (d := 0) rfl)).trans ha21
        have hgy137 := (hfvy41 (i + 21) (ne_o (i := i) (c := 21) (d := 0) rfl)).trans hgy136
        have hgy138 := (hfvy47 (i + 21) (ne_o (i := i) (c := 21) (d := 0) rfl)).trans hgy137
        have hgy139 := up_n egy56 hgy138 (ne_o (i := i) (c := 21) (d := 16) rfl)
        have hgy140 := (hfvy63 (i + 21) (ne_o (i := i) (c := 21) (d := 0) rfl)).trans hgy139
        have hgy141 := up_n egy74 hgy140 (ne_o (i := i) (c := 21) (d := 17) rfl)
        have hgy142 := up_n egy86 hgy141 (ne_o (i := i) (c := 21) (d := 18) rfl)
        have hgy143 := up_n egy92 hgy142 (ne_o (i := i) (c := 21) (d := 0) rfl)
        have hgy144 := (hfvy39 (i + 22) (ne_o (i := i) (c := 22) (d := 0) rfl)).trans ha22
        have hgy145 := (hfvy41 (i + 22) (ne_o (i := i) (c := 22) (d := 0) rfl)).trans hgy144
        have hgy146 := (hfvy47 (i + 22) (ne_o (i := i) (c := 22) (d := 0) rfl)).trans hgy145
        have hgy147 := up_n egy56 hgy146 (ne_o (i := i) (c := 22) (d := 16) rfl)
        have hgy148 := (hfvy63 (i + 22) (ne_o (i := i) (c := 22) (d := 0) rfl)).trans hgy147
        have hgy149 := up_n egy74 hgy148 (ne_o (i := i) (c := 22) (d := 17) rfl)
        have hgy150 := up_n egy86 hgy149 (ne_o (i := i) (c := 22) (d := 18) rfl)
        have hgy151 := up_n egy92 hgy150 (ne_o (i := i) (c := 22) (d := 0) rfl)
        have hgy152 := (hfvy39 (i + 23) (ne_o (i := i) (c := 23) (d := 0) rfl)).trans ha23
        have hgy153 := (hfvy41 (i + 23) (ne_o (i := i) (c := 23) (d := 0) rfl)).trans hgy152
        have hgy154 := (hfvy47 (i + 23) (ne_o (i := i) (c := 23) (d := 0) rfl)).trans hgy153
        have hgy155 := up_n egy56 hgy154 (ne_o (i := i) (c := 23) (d := 16) rfl)
        have hgy156 := (hfvy63 (i + 23) (ne_o (i := i) (c := 23) (d := 0) rfl)).trans hgy155
        have hgy157 := up_n egy74 hgy156 (ne_o (i := i) (c := 23) (d := 17) rfl)
        have hgy158 := up_n egy86 hgy157 (ne_o (i := i) (c := 23) (d := 18) rfl)
        have hgy159 := up_n egy92 hgy158 (ne_o (i := i) (c := 23) (d := 0) rfl)
        have hfry160 : ∀ j, j ≠ (sl).toNat → ry58 j = st1 j := fun j n0 => (congrFun hvy59 _).trans ((uZ_n _ _ n0).trans (rfl))
        have hwy161 : ry58 ((sl).toNat) = vy47 := (congrFun hvy59 _).trans (uZ_s _ _ _)
        have hfry162 : ∀ j, j ≠ (sl).toNat → ry76 j = op1 j := fun j n0 => (congrFun hvy77 _).trans ((uZ_n _ _ n0).trans (rfl))
        have hwy163 : ry76 ((sl).toNat) = vy63 := (congrFun hvy77 _).trans (uZ_s _ _ _)
        have hfry164 : ∀ j, j ≠ (sl).toNat → ry88 j = mn1 j := fun j n0 => (congrFun hvy89 _).trans ((uZ_n _ _ n0).trans (rfl))
        have hwy165 : ry88 ((sl).toNat) = 0 := (congrFun hvy89 _).trans (uZ_s _ _ _)
        have hxty166 : xTx cs gy91 i (uZ Fvy63 47 (sl + 1)) _ := ⟨_, _, _, _, _, _, _, _, ⟨hgy116, hgy118, hgy119, hgy127, hgy135, hgy143, hgy151, hgy159⟩, ⟨⟨by omega, by omega, by omega⟩, haky103, haky106, hai1, hfa1, htb1, hlay110⟩, rT.slope hrT ((sl).toNat) (by show sl = _; omega) ⟨by show (uZ Fvy63 47 (sl + 1)) 47 = sl + 1; omega, by show (uZ Fvy63 47 (sl + 1)) 48 = ho; omega, by show (uZ Fvy63 47 (sl + 1)) 49 = nm; omega⟩ hfry160 (by omega) hfry162 (by omega) hfry164 (by omega)⟩
        exact z_vret C hr hlk dX10_slope1_85 (by decide) (by decide) ⟨rfl, rfl, rfl, ⟨_, hgy93, hFy94, Or.inl ⟨_, by simp only [cl_slope, if_neg hscy17, hnvy47, hnvy63]; rfl, by omega, by omega, by show f < (tk_nx T n (tk_nx T n (tk_nx T n f))); omega, htky95, hxty166⟩⟩, fun j j1 j2 => by rw [egy92, va_up_ne _ _ (by omega)]; rw [egy86, va_up_ne _ _ (by omega)]; rw [egy74, va_up_ne _ _ (by omega)]; rw [hfvy63 _ (by omega)]; rw [egy56, va_up_ne _ _ (by omega)]; rw [hfvy47 _ (by omega)]; rw [hfvy41 _ (by omega)]; rw [hfvy39 _ (by omega)]⟩
      · obtain ⟨rfl, cvy63, hrvy63, hnvy63, hevy63, hbvy63, hkvy63⟩ := hqvy63
        clear h24vy63
        have hsry167 := srt_b T n (tk_nx T n (tk_nx T n f))
        have hvly168 := vlu_b hTb (tk_nx T n (tk_nx T n f))
        have hwby169 := tk_w_b T n (tk_nx T n (tk_nx T n f))
        have hfny170 := hkvy63.1
        have hgy171 := (hfvy39 (i + 17) (ne_o (i := i) (c := 17) (d := 0) rfl)).trans ha17
        have hgy172 := (hfvy41 (i + 17) (ne_o (i := i) (c := 17) (d := 0) rfl)).trans hgy171
        have hgy173 := (hfvy47 (i + 17) (ne_o (i := i) (c := 17) (d := 0) rfl)).trans hgy172
        have hgy174 := up_n egy56 hgy173 (ne_o (i := i) (c := 17) (d := 16) rfl)
        have hgy175 := (hfvy63 (i + 17) (ne_o (i := i) (c := 17) (d := 0) rfl)).trans hgy174
        refine z_iast C (lt_A (c := 17) hN rfl) hay8 hgy175 ((sl).toNat) (by omega) (by omega) (by decide) dX10_slope1_64 (fun gy176 egy177 => ?_)
        have hgy178 := up_s egy177
        obtain ⟨ry179, hvy180⟩ : ∃ rZ9 : Nat → Int, rZ9 = uZ op1 ((sl).toNat) (0) := ⟨_, rfl⟩
        rw [← hvy180] at hgy178
        refine z_aload_n C 0 dX10_slope1_65 rfl ?_
        have hgy181 := up_n egy177 hcvy63 (ne_o (i := i) (c := 0) (d := 17) rfl)
        refine z_get (v := .ref (ad (i + 18))) C (lt_A0 hN rfl) hay1 hgy181 rfl inA_X10 41 (by decide) q_1500 rfl rfl dX10_slope1_66 ?_
        refine z_aload_n C 0 dX10_slope1_69 rfl ?_
        refine z_get (v := .int (zI (sl))) C (lt_A0 hN rfl) hay1 hgy181 rfl inA_X10 47 (by decide) q_1506 rfl (fv (F := Fvy63) (f := 47) ((hFvy63 47 (by decide) (by decide) (by decide) (by decide) (by decide) (by decide) (by decide)).trans ((hFvy47 47 (by decide) (by decide) (by decide) (by decide) (by decide) (by decide) (by decide)).trans ((hFvy41 47 (by decide) (by decide) (by decide) (by decide) (by decide)).trans ((hFvy39 47 (by decide) (by decide)).trans r47))))) dX10_slope1_70 ?_
        refine z_iconst (z := 0) C dX10_slope1_73 rfl ?_
        have hgy182 := (hfvy39 (i + 18) (ne_o (i := i) (c := 18) (d := 0) rfl)).trans ha18
        have hgy183 := (hfvy41 (i + 18) (ne_o (i := i) (c := 18) (d := 0) rfl)).trans hgy182
        have hgy184 := (hfvy47 (i + 18) (ne_o (i := i) (c := 18) (d := 0) rfl)).trans hgy183
        have hgy185 := up_n egy56 hgy184 (ne_o (i := i) (c := 18) (d := 16) rfl)
        have hgy186 := (hfvy63 (i + 18) (ne_o (i := i) (c := 18) (d := 0) rfl)).trans hgy185
        have hgy187 := up_n egy177 hgy186 (ne_o (i := i) (c := 18) (d := 17) rfl)
        refine z_iast C (lt_A (c := 18) hN rfl) hay9 hgy187 ((sl).toNat) (by omega) (by omega) (by decide) dX10_slope1_74 (fun gy188 egy189 => ?_)
        have hgy190 := up_s egy189
        obtain ⟨ry191, hvy192⟩ : ∃ rZ9 : Nat → Int, rZ9 = uZ mn1 ((sl).toNat) (0) := ⟨_, rfl⟩
        rw [← hvy192] at hgy190
        refine z_aload_n C 0 dX10_slope1_75 rfl ?_
        refine z_dup C dX10_slope1_76 rfl ?_
        have hgy193 := up_n egy189 hgy181 (ne_o (i := i) (c := 0) (d := 18) rfl)
        refine z_get (v := .int (zI (sl))) C (lt_A0 hN rfl) hay1 hgy193 rfl inA_X10 47 (by decide) q_1506 rfl (fv (F := Fvy63) (f := 47) ((hFvy63 47 (by decide) (by decide) (by decide) (by decide) (by decide) (by decide) (by decide)).trans ((hFvy47 47 (by decide) (by decide) (by decide) (by decide) (by decide) (by decide) (by decide)).trans ((hFvy41 47 (by decide) (by decide) (by decide) (by decide) (by decide)).trans ((hFvy39 47 (by decide) (by decide)).trans r47))))) dX10_slope1_77 ?_
        refine z_iconst (z := 1) C dX10_slope1_80 rfl ?_
        refine z_iadd C dX10_slope1_81 ?_
        refine z_put (fs' := mF ad (i) (uZ Fvy63 47 (sl + 1))) C (lt_A0 hN rfl) hay1 hgy193 tyX10 tyX10_ok nmX10 rfl inA_X10 47 (by decide) q_1506 rfl rfl rfl rfl (Nat.le_of_ble_eq_true rfl) rfl dX10_slope1_82 (fun gy194 egy195 => ?_)
        have hgy196 := up_s egy195
        have hFy197 : ∀ f, f ≠ 24 → f ≠ 32 → f ≠ 33 → f ≠ 35 → f ≠ 36 → f ≠ 37 → f ≠ 38 → f ≠ 47 → f ≠ 48 → f ≠ 49 → (uZ Fvy63 47 (sl + 1)) f = F f := fun f n24 n32 n33 n35 n36 n37 n38 n47 n48 n49 => ((uZ_n _ _ n47).trans ((hFvy63 f n24 n32 n33 n35 n36 n37 n38).trans ((hFvy47 f n24 n32 n33 n35 n36 n37 n38).trans ((hFvy41 f n32 n33 n35 n36 n37).trans (hFvy39 f n24 n38)))))
        have htky198 : tkR T n (uZ Fvy63 47 (sl + 1)) (tk_nx T n (tk_nx T n f)) := (tkR.put hkvy63 (by decide))
        have htoy199 := tk_to_w (T := T) (n := n) (f := (tk_nx T n (tk_nx T n f))) htky198.1.1
        have h32y200 := htky198.2.1
        have hey201 : (uZ Fvy63 47 (sl + 1)) 24 = ((tk_nx T n (tk_nx T n f)) : Int) := (fn hbvy63 (by decide))
        have hey202 : (uZ Fvy63 47 (sl + 1)) 38 = cvy63 := (fn hevy63 (by decide))
        have hey203 : (uZ Fvy63 47 (sl + 1)) 47 = sl + 1 := (uZ_s _ _ _)
        have hey204 : (uZ Fvy63 47 (sl + 1)) 48 = ho := (fn ((hFvy63 48 (by decide) (by decide) (by decide) (by decide) (by decide) (by decide) (by decide)).trans ((hFvy47 48 (by decide) (by decide) (by decide) (by decide) (by decide) (by decide) (by decide)).trans ((hFvy41 48 (by decide) (by decide) (by decide) (by decide) (by decide)).trans ((hFvy39 48 (by decide) (by decide)).trans r48)))) (by decide))
        have hey205 : (uZ Fvy63 47 (sl + 1)) 49 = nm := (fn ((hFvy63 49 (by decide) (by decide) (by decide) (by decide) (by decide) (by decide) (by decide)).trans ((hFvy47 49 (by decide) (by decide) (by decide) (by decide) (by decide) (by decide) (by decide)).trans ((hFvy41 49 (by decide) (by decide) (by decide) (by decide) (by decide)).trans ((hFvy39 49 (by decide) (by decide)).trans r49)))) (by decide))
        have hfry207 : ∀ j, j ≠ (sl).toNat → ry179 j = op1 j := fun j n0 => (congrFun hvy180 _).trans ((uZ_n _ _ n0).trans (rfl))
        have hwy208 : ry179 ((sl).toNat) = 0 := (congrFun hvy180 _).trans (uZ_s _ _ _)
        have haky206 : ∀ k, k < 4 → 0 ≤ ry179 k ∧ ry179 k ≤ 20 := by
          intro k hk
          by_cases e : k = (sl).toNat
          · rw [e]; have hk0 := hop1 ((sl).toNat) (by omega); omega
          · have hk0 := hop1 k hk; rw [hfry207 k e]; exact hk0
        have hfry210 : ∀ j, j ≠ (sl).toNat → ry191 j = mn1 j := fun j n0 => (congrFun hvy192 _).trans ((uZ_n _ _ n0).trans (rfl))
        have hwy211 : ry191 ((sl).toNat) = 0 := (congrFun hvy192 _).trans (uZ_s _ _ _)
        have haky209 : ∀ k, k < 4 → 0 ≤ ry191 k ∧ ry191 k ≤ 12 := by
          intro k hk
          by_cases e : k = (sl).toNat
          · rw [e]; have hk0 := hmn1 ((sl).toNat) (by omega); omega
          · have hk0 := hmn1 k hk; rw [hfry210 k e]; exact hk0
        have hfry214 : ∀ j, j ≠ (sl).toNat → ry191 j = mn1 j := fun j n0 => (congrFun hvy192 _).trans ((uZ_n _ _ n0).trans (rfl))
        have hwy215 : ry191 ((sl).toNat) = 0 := (congrFun hvy192 _).trans (uZ_s _ _ _)
        have hlay213 : ∀ s l : Nat, (s : Int) < (uZ Fvy63 47 (sl + 1)) 47 → (l : Int) < ry191 s → lyT ly1 (84 * s + 7 * l) := by
          intro s l a1 a2
          by_cases e : s = (sl).toNat
          · subst e; omega
          · have hs9 := hfry214 s e; rw [hs9] at a2; have hm9 := hmn1 s (by omega); exact hly1 s l (by omega) a2
        have hgy216 := (hfvy63 (i + 16) (ne_o (i := i) (c := 16) (d := 0) rfl)).trans hgy57
        have hgy217 := up_n egy177 hgy216 (ne_o (i := i) (c := 16) (d := 17) rfl)
        have hgy218 := up_n egy189 hgy217 (ne_o (i := i) (c := 16) (d := 18) rfl)
        have hgy219 := up_n egy195 hgy218 (ne_o (i := i) (c := 16) (d := 0) rfl)
        have hgy220 := up_n egy189 hgy178 (ne_o (i := i) (c := 17) (d := 18) rfl)
        have hgy221 := up_n egy195 hgy220 (ne_o (i := i) (c := 17) (d := 0) rfl)
        have hgy222 := up_n egy195 hgy190 (ne_o (i := i) (c := 18) (d := 0) rfl)
        have hgy223 := (hfvy39 (i + 19) (ne_o (i := i) (c := 19) (d := 0) rfl)).trans ha19
        have hgy224 := (hfvy41 (i + 19) (ne_o (i := i) (c := 19) (d := 0) rfl)).trans hgy223
        have hgy225 := (hfvy47 (i + 19) (ne_o (i := i) (c := 19) (d := 0) rfl)).trans hgy224
        have hgy226 := up_n egy56 hgy225 (ne_o (i := i) (c := 19) (d := 16) rfl)
        have hgy227 := (hfvy63 (i + 19) (ne_o (i := i) (c := 19) (d := 0) rfl)).trans hgy226
        have hgy228 := up_n egy177 hgy227 (ne_o (i := i) (c := 19) (d := 17) rfl)
        have hgy229 := up_n egy189 hgy228 (ne_o (i := i) (c := 19) (d := 18) rfl)
        have hgy230 := up_n egy195 hgy229 (ne_o (i := i) (c := 19) (d := 0) rfl)
        have hgy231 := (hfvy39 (i + 20) (ne_o (i := i) (c := 20) (d := 0) rfl)).trans ha20
        have hgy232 := (hfvy41 (i + 20) (ne_o (i := i) (c := 20) (d := 0) rfl)).trans hgy231
        have hgy233 := (hfvy47 (i + 20) (ne_o (i := i) (c := 20) (d := 0) rfl)).trans hgy232
        have hgy234 := up_n egy56 hgy233 (ne_o (i := i) (c := 20) (d := 16) rfl)
        have hgy235 := (hfvy63 (i + 20) (ne_o (i := i) (c := 20) (d := 0) rfl)).trans hgy234
        have hgy236 := up_n egy177 hgy235 (ne_o (i := i) (c := 20) (d := 17) rfl)
        have hgy237 := up_n egy189 hgy236 (ne_o (i := i) (c := 20) (d := 18) rfl)
        have hgy238 := up_n egy195 hgy237 (ne_o (i := i) (c := 20) (d := 0) rfl)
        have hgy239 := (hfvy39 (i + 21) (ne_o (i := i) (c := 21) (d := 0) rfl)).trans ha21
        have hgy240 := (hfvy41 (i + 21) (ne_o (i := i) (c := 21) (d := 0) rfl)).trans hgy239
        have hgy241 := (hfvy47 (i + 21) (ne_o (i := i) (c := 21) (d := 0) rfl)).trans hgy240
        have hgy242 := up_n egy56 hgy241 (ne_o (i := i) (c := 21) (d := 16) rfl)
        have hgy243 := (hfvy63 (i + 21) (ne_o (i := i) (c := 21) (d := 0) rfl)).trans hgy242
        have hgy244 := up_n egy177 hgy243 (ne_o (i := i) (c := 21) (d := 17) rfl)
        have hgy245 := up_n egy189 hgy244 (ne_o (i := i) (c := 21) (d := 18) rfl)
        have hgy246 := up_n egy195 hgy245 (ne_o (i := i) (c := 21) (d := 0) rfl)
        have hgy247 := (hfvy39 (i + 22) (ne_o (i := i) (c := 22) (d := 0) rfl)).trans ha22
        have hgy248 := (hfvy41 (i + 22) (ne_o (i := i) (c := 22) (d := 0) rfl)).trans hgy247
        have hgy249 := (hfvy47 (i + 22) (ne_o (i := i) (c := 22) (d := 0) rfl)).trans hgy248
        have hgy250 := up_n egy56 hgy249 (ne_o (i := i) (c := 22) (d := 16) rfl)
        have hgy251 := (hfvy63 (i + 22) (ne_o (i := i) (c := 22) (d := 0) rfl)).trans hgy250
        have hgy252 := up_n egy177 hgy251 (ne_o (i := i) (c := 22) (d := 17) rfl)
        have hgy253 := up_n egy189 hgy252 (ne_o (i := i) (c := 22) (d := 18) rfl)
        have hgy254 := up_n egy195 hgy253 (ne_o (i := i) (c := 22) (d := 0) rfl)
        have hgy255 := (hfvy39 (i + 23) (ne_o (i := i) (c := 23) (d := 0) rfl)).trans ha23
        have hgy256 := (hfvy41 (i + 23) (ne_o (i := i) (c := 23) (d := 0) rfl)).trans hgy255
        have hgy257 := (hfvy47 (i + 23) (ne_o (i := i) (c := 23) (d := 0) rfl)).trans hgy256
        have hgy258 := up_n egy56 hgy257 (ne_o (i := i) (c := 23) (d := 16) rfl)
        have hgy259 := (hfvy63 (i + 23) (ne_o (i := i) (c := 23) (d := 0) rfl)).trans hgy258
        have hgy260 := up_n egy177 hgy259 (ne_o (i := i) (c := 23) (d := 17) rfl)
        have hgy261 := up_n egy189 hgy260 (ne_o (i := i) (c := 23) (d := 18) rfl)
        have hgy262 := up_n egy195 hgy261 (ne_o (i := i) (c := 23) (d := 0) rfl)
        have htxy263 : okTx cs gy194 i (uZ Fvy63 47 (sl + 1)) := ⟨_, _, _, _, _, _, _, _, ⟨hgy219, hgy221, hgy222, hgy230, hgy238, hgy246, hgy254, hgy262⟩, ⟨⟨by omega, by omega, by omega⟩, haky206, haky209, hai1, hfa1, htb1, hlay213⟩⟩
        exact z_vret C hr hlk dX10_slope1_85 (by decide) (by decide) ⟨rfl, rfl, rfl, ⟨_, hgy196, hFy197, Or.inr ⟨(cvy63, (tk_nx T n (tk_nx T n f))), by simp only [cl_slope, if_neg hscy17, hnvy47, hnvy63], by show (uZ Fvy63 47 (sl + 1)) 38 = cvy63; omega, by show (uZ Fvy63 47 (sl + 1)) 24 = (((tk_nx T n (tk_nx T n f)) : Nat) : Int); omega, by show 1 ≤ cvy63 ∧ cvy63 ≤ 5; omega, ⟨_, htky198⟩, htxy263⟩⟩, fun j j1 j2 => by rw [egy195, va_up_ne _ _ (by omega)]; rw [egy189, va_up_ne _ _ (by omega)]; rw [egy177, va_up_ne _ _ (by omega)]; rw [hfvy63 _ (by omega)]; rw [egy56, va_up_ne _ _ (by omega)]; rw [hfvy47 _ (by omega)]; rw [hfvy41 _ (by omega)]; rw [hfvy39 _ (by omega)]⟩
    · obtain ⟨rfl, cvy47, hrvy47, hnvy47, hevy47, hbvy47, hkvy47⟩ := hqvy47
      clear h24vy47
      have hsry264 := srt_b T n (tk_nx T n f)
      have hvly265 := vlu_b hTb (tk_nx T n f)
      have hwby266 := tk_w_b T n (tk_nx T n f)
      have hfny267 := hkvy47.1
      have hgy268 := (hfvy39 (i + 16) (ne_o (i := i) (c := 16) (d := 0) rfl)).trans ha16
      have hgy269 := (hfvy41 (i + 16) (ne_o (i := i) (c := 16) (d := 0) rfl)).trans hgy268
      have hgy270 := (hfvy47 (i + 16) (ne_o (i := i) (c := 16) (d := 0) rfl)).trans hgy269
      refine z_iast C (lt_A (c := 16) hN rfl) hay7 hgy270 ((sl).toNat) (by omega) (by omega) (by decide) dX10_slope1_41 (fun gy271 egy272 => ?_)
      have hgy273 := up_s egy272
      obtain ⟨ry274, hvy275⟩ : ∃ rZ9 : Nat → Int, rZ9 = uZ st1 ((sl).toNat) (0) := ⟨_, rfl⟩
      rw [← hvy275] at hgy273
      refine z_aload_n C 0 dX10_slope1_42 rfl ?_
      have hgy276 := up_n egy272 hcvy47 (ne_o (i := i) (c := 0) (d := 16) rfl)
      refine z_get (v := .int (zI (cvy47))) C (lt_A0 hN rfl) hay1 hgy276 rfl inA_X10 38 (by decide) q_1497 rfl (fv (F := Fvy47) (f := 38) hevy47) dX10_slope1_43 ?_
      refine z_if_ne (tgt := 65) C dX10_slope1_46 (by decide) (by omega) (fun _ => ?_) (fun h => absurd h (by omega))
      refine z_aload_n C 0 dX10_slope1_65 rfl ?_
      refine z_get (v := .ref (ad (i + 18))) C (lt_A0 hN rfl) hay1 hgy276 rfl inA_X10 41 (by decide) q_1500 rfl rfl dX10_slope1_66 ?_
      refine z_aload_n C 0 dX10_slope1_69 rfl ?_
      refine z_get (v := .int (zI (sl))) C (lt_A0 hN rfl) hay1 hgy276 rfl inA_X10 47 (by decide) q_1506 rfl (fv (F := Fvy47) (f := 47) ((hFvy47 47 (by decide) (by decide) (by decide) (by decide) (by decide) (by decide) (by decide)).trans ((hFvy41 47 (by decide) (by decide) (by decide) (by decide) (by decide)).trans ((hFvy39 47 (by decide) (by decide)).trans r47)))) dX10_slope1_70 ?_
      refine z_iconst (z := 0) C dX10_slope1_73 rfl ?_
      have hgy277 := (hfvy39 (i + 18) (ne_o (i := i) (c := 18) (d := 0) rfl)).trans ha18
      have hgy278 := (hfvy41 (i + 18) (ne_o (i := i) (c := 18) (d := 0) rfl)).trans hgy277
      have hgy279 := (hfvy47 (i + 18) (ne_o (i := i) (c := 18) (d := 0) rfl)).trans hgy278
      have hgy280 := up_n egy272 hgy279 (ne_o (i := i) (c := 18) (d := 16) rfl)
      refine z_iast C (lt_A (c := 18) hN rfl) hay9 hgy280 ((sl).toNat) (by omega) (by omega) (by decide) dX10_slope1_74 (fun gy281 egy282 => ?_)
      have hgy283 := up_s egy282
      obtain ⟨ry284, hvy285⟩ : ∃ rZ9 : Nat → Int, rZ9 = uZ mn1 ((sl).toNat) (0) := ⟨_, rfl⟩
      rw [← hvy285] at hgy283
      refine z_aload_n C 0 dX10_slope1_75 rfl ?_
      refine z_dup C dX10_slope1_76 rfl ?_
      have hgy286 := up_n egy282 hgy276 (ne_o (i := i) (c := 0) (d := 18) rfl)
      refine z_get (v := .int (zI (sl))) C (lt_A0 hN rfl) hay1 hgy286 rfl inA_X10 47 (by decide) q_1506 rfl (fv (F := Fvy47) (f := 47) ((hFvy47 47 (by decide) (by decide) (by decide) (by decide) (by decide) (by decide) (by decide)).trans ((hFvy41 47 (by decide) (by decide) (by decide) (by decide) (by decide)).trans ((hFvy39 47 (by decide) (by decide)).trans r47)))) dX10_slope1_77 ?_
      refine z_iconst (z := 1) C dX10_slope1_80 rfl ?_
      refine z_iadd C dX10_slope1_81 ?_
      refine z_put (fs' := mF ad (i) (uZ Fvy47 47 (sl + 1))) C (lt_A0 hN rfl) hay1 hgy286 tyX10 tyX10_ok nmX10 rfl inA_X10 47 (by decide) q_1506 rfl rfl rfl rfl (Nat.le_of_ble_eq_true rfl) rfl dX10_slope1_82 (fun gy287 egy288 => ?_)
      have hgy289 := up_s egy288
      have hFy290 : ∀ f, f ≠ 24 → f ≠ 32 → f ≠ 33 → f ≠ 35 → f ≠ 36 → f ≠ 37 → f ≠ 38 → f ≠ 47 → f ≠ 48 → f ≠ 49 → (uZ Fvy47 47 (sl + 1)) f = F f := fun f n24 n32 n33 n35 n36 n37 n38 n47 n48 n49 => ((uZ_n _ _ n47).trans ((hFvy47 f n24 n32 n33 n35 n36 n37 n38).trans ((hFvy41 f n32 n33 n35 n36 n37).trans (hFvy39 f n24 n38))))
      have htky291 : tkR T n (uZ Fvy47 47 (sl + 1)) (tk_nx T n f) := (tkR.put hkvy47 (by decide))
      have htoy292 := tk_to_w (T := T) (n := n) (f := (tk_nx T n f)) htky291.1.1
      have h32y293 := htky291.2.1
      have hey294 : (uZ Fvy47 47 (sl + 1)) 24 = ((tk_nx T n f) : Int) := (fn hbvy47 (by decide))
      have hey295 : (uZ Fvy47 47 (sl + 1)) 38 = cvy47 := (fn hevy47 (by decide))
      have hey296 : (uZ Fvy47 47 (sl + 1)) 47 = sl + 1 := (uZ_s _ _ _)
      have hey297 : (uZ Fvy47 47 (sl + 1)) 48 = ho := (fn ((hFvy47 48 (by decide) (by decide) (by decide) (by decide) (by decide) (by decide) (by decide)).trans ((hFvy41 48 (by decide) (by decide) (by decide) (by decide) (by decide)).trans ((hFvy39 48 (by decide) (by decide)).trans r48))) (by decide))
      have hey298 : (uZ Fvy47 47 (sl + 1)) 49 = nm := (fn ((hFvy47 49 (by decide) (by decide) (by decide) (by decide) (by decide) (by decide) (by decide)).trans ((hFvy41 49 (by decide) (by decide) (by decide) (by decide) (by decide)).trans ((hFvy39 49 (by decide) (by decide)).trans r49))) (by decide))
      have hfry300 : ∀ j, j ≠ (sl).toNat → ry284 j = mn1 j := fun j n0 => (congrFun hvy285 _).trans ((uZ_n _ _ n0).trans (rfl))
      have hwy301 : ry284 ((sl).toNat) = 0 := (congrFun hvy285 _).trans (uZ_s _ _ _)
      have haky299 : ∀ k, k < 4 → 0 ≤ ry284 k ∧ ry284 k ≤ 12 := by
        intro k hk
        by_cases e : k = (sl).toNat
        · rw [e]; have hk0 := hmn1 ((sl).toNat) (by omega); omega
        · have hk0 := hmn1 k hk; rw [hfry300 k e]; exact hk0
      have hfry304 : ∀ j, j ≠ (sl).toNat → ry284 j = mn1 j := fun j n0 => (congrFun hvy285 _).trans ((uZ_n _ _ n0).trans (rfl))
      have hwy305 : ry284 ((sl).toNat) = 0 := (congrFun hvy285 _).trans (uZ_s _ _ _)
      have hlay303 : ∀ s l : Nat, (s : Int) < (uZ Fvy47 47 (sl + 1)) 47 → (l : Int) < ry284 s → lyT ly1 (84 * s + 7 * l) := by
        intro s l a1 a2
        by_cases e : s = (sl).toNat
        · subst e; omega
        · have hs9 := hfry304 s e; rw [hs9] at a2; have hm9 := hmn1 s (by omega); exact hly1 s l (by omega) a2
      have hgy306 := up_n egy282 hgy273 (ne_o (i := i) (c := 16) (d := 18) rfl)
      have hgy307 := up_n egy288 hgy306 (ne_o (i := i) (c := 16) (d := 0) rfl)
      have hgy308 := (hfvy39 (i + 17) (ne_o (i := i) (c := 17) (d := 0) rfl)).trans ha17
      have hgy309 := (hfvy41 (i + 17) (ne_o (i := i) (c := 17) (d := 0) rfl)).trans hgy308
      have hgy310 := (hfvy47 (i + 17) (ne_o (i := i) (c := 17) (d := 0) rfl)).trans hgy309
      have hgy311 := up_n egy272 hgy310 (ne_o (i := i) (c := 17) (d := 16) rfl)
      have hgy312 := up_n egy282 hgy311 (ne_o (i := i) (c := 17) (d := 18) rfl)
      have hgy313 := up_n egy288 hgy312 (ne_o (i := i) (c := 17) (d := 0) rfl)
      have hgy314 := up_n egy288 hgy283 (ne_o (i := i) (c := 18) (d := 0) rfl)
      have hgy315 := (hfvy39 (i + 19) (ne_o (i := i) (c := 19) (d := 0) rfl)).trans ha19
      have hgy316 := (hfvy41 (i + 19) (ne_o (i := i) (c := 19) (d := 0) rfl)).trans hgy315
      have hgy317 := (hfvy47 (i + 19) (ne_o (i := i) (c := 19) (d := 0) rfl)).trans hgy316
      have hgy318 := up_n egy272 hgy317 (ne_o (i := i) (c := 19) (d := 16) rfl)
      have hgy319 := up_n egy282 hgy318 (ne_o (i := i) (c := 19) (d := 18) rfl)
      have hgy320 := up_n egy288 hgy319 (ne_o (i := i) (c := 19) (d := 0) rfl)
      have hgy321 := (hfvy39 (i + 20) (ne_o (i := i) (c := 20) (d := 0) rfl)).trans ha20
      have hgy322 := (hfvy41 (i + 20) (ne_o (i := i) (c := 20) (d := 0) rfl)).trans hgy321
      have hgy323 := (hfvy47 (i + 20) (ne_o (i := i) (c := 20) (d := 0) rfl)).trans hgy322
      have hgy324 := up_n egy272 hgy323 (ne_o (i := i) (c := 20) (d := 16) rfl)
      have hgy325 := up_n egy282 hgy324 (ne_o (i := i) (c := 20) (d := 18) rfl)
      have hgy326 := up_n egy288 hgy325 (ne_o (i := i) (c := 20) (d := 0) rfl)
      have hgy327 := (hfvy39 (i + 21) (ne_o (i := i) (c := 21) (d := 0) rfl)).trans ha21
      have hgy328 := (hfvy41 (i + 21) (ne_o (i := i) (c := 21) (d := 0) rfl)).trans hgy327
      have hgy329 := (hfvy47 (i + 21) (ne_o (i := i) (c := 21) (d := 0) rfl)).trans hgy328
      have hgy330 := up_n egy272 hgy329 (ne_o (i := i) (c := 21) (d := 16) rfl)
      have hgy331 := up_n egy282 hgy330 (ne_o (i := i) (c := 21) (d := 18) rfl)
      have hgy332 := up_n egy288 hgy331 (ne_o (i := i) (c := 21) (d := 0) rfl)
      have hgy333 := (hfvy39 (i + 22) (ne_o (i := i) (c := 22) (d := 0) rfl)).trans ha22
      have hgy334 := (hfvy41 (i + 22) (ne_o (i := i) (c := 22) (d := 0) rfl)).trans hgy333
      have hgy335 := (hfvy47 (i + 22) (ne_o (i := i) (c := 22) (d := 0) rfl)).trans hgy334
      have hgy336 := up_n egy272 hgy335 (ne_o (i := i) (c := 22) (d := 16) rfl)
      have hgy337 := up_n egy282 hgy336 (ne_o (i := i) (c := 22) (d := 18) rfl)
      have hgy338 := up_n egy288 hgy337 (ne_o (i := i) (c := 22) (d := 0) rfl)
      have hgy339 := (hfvy39 (i + 23) (ne_o (i := i) (c := 23) (d := 0) rfl)).trans ha23
      have hgy340 := (hfvy41 (i + 23) (ne_o (i := i) (c := 23) (d := 0) rfl)).trans hgy339
      have hgy341 := (hfvy47 (i + 23) (ne_o (i := i) (c := 23) (d := 0) rfl)).trans hgy340
      have hgy342 := up_n egy272 hgy341 (ne_o (i := i) (c := 23) (d := 16) rfl)
      have hgy343 := up_n egy282 hgy342 (ne_o (i := i) (c := 23) (d := 18) rfl)
      have hgy344 := up_n egy288 hgy343 (ne_o (i := i) (c := 23) (d := 0) rfl)
      have htxy345 : okTx cs gy287 i (uZ Fvy47 47 (sl + 1)) := ⟨_, _, _, _, _, _, _, _, ⟨hgy307, hgy313, hgy314, hgy320, hgy326, hgy332, hgy338, hgy344⟩, ⟨⟨by omega, by omega, by omega⟩, hop1, haky299, hai1, hfa1, htb1, hlay303⟩⟩
      exact z_vret C hr hlk dX10_slope1_85 (by decide) (by decide) ⟨rfl, rfl, rfl, ⟨_, hgy289, hFy290, Or.inr ⟨(cvy47, (tk_nx T n f)), by simp only [cl_slope, if_neg hscy17, hnvy47], by show (uZ Fvy47 47 (sl + 1)) 38 = cvy47; omega, by show (uZ Fvy47 47 (sl + 1)) 24 = (((tk_nx T n f) : Nat) : Int); omega, by show 1 ≤ cvy47 ∧ cvy47 ≤ 5; omega, ⟨_, htky291⟩, htxy345⟩⟩, fun j j1 j2 => by rw [egy288, va_up_ne _ _ (by omega)]; rw [egy282, va_up_ne _ _ (by omega)]; rw [egy272, va_up_ne _ _ (by omega)]; rw [hfvy47 _ (by omega)]; rw [hfvy41 _ (by omega)]; rw [hfvy39 _ (by omega)]⟩
end
section
-- 86nf.words.lean.txt
-- words of ylayer
theorem q_1508 : (Jvm.Cond.fieldLink "SnowRecorderModel" (302 : Nat) "SnowRecorderModel" "names1" "I") ∈ AW := AW_m7 68 (by decide +kernel) (by decide +kernel)
theorem q_1693 : (Jvm.Cond.methodLink "SnowRecorderModel" (294 : Nat) ({ cls := "SnowRecorderModel", name := "isKind", desc := "()Z" } : Jvm.MethodName)) ∈ AW := AW_m8 13 (by decide +kernel) (by decide +kernel)
theorem q_1695 : (Jvm.Cond.instanceMethod ({ cls := "SnowRecorderModel", name := "isKind", desc := "()Z" } : Jvm.MethodName)) ∈ AW := AW_m8 15 (by decide +kernel) (by decide +kernel)
theorem q_1696 : (Jvm.Cond.code ({ cls := "SnowRecorderModel", name := "isKind", desc := "()Z" } : Jvm.MethodName) prog_12_method_52_code (1 : Nat) (Option.some Jvm.ClassFile.FieldType.boolean)) ∈ AW := AW_m8 16 (by decide +kernel) (by decide +kernel)
theorem q_1697 : (Jvm.Cond.methodLink "SnowRecorderModel" (298 : Nat) ({ cls := "SnowRecorderModel", name := "kindHere", desc := "()I" } : Jvm.MethodName)) ∈ AW := AW_m8 17 (by decide +kernel) (by decide +kernel)
theorem q_1699 : (Jvm.Cond.instanceMethod ({ cls := "SnowRecorderModel", name := "kindHere", desc := "()I" } : Jvm.MethodName)) ∈ AW := AW_m8 19 (by decide +kernel) (by decide +kernel)
theorem q_1700 : (Jvm.Cond.code ({ cls := "SnowRecorderModel", name := "kindHere", desc := "()I" } : Jvm.MethodName) prog_12_method_53_code (1 : Nat) (Option.some Jvm.ClassFile.FieldType.int)) ∈ AW := AW_m8 20 (by decide +kernel) (by decide +kernel)
theorem s_49 : Cond.selects "SnowRecorderModel" ({ cls := "SnowRecorderModel", name := "isKind", desc := "()Z" } : Jvm.MethodName) ({ cls := "SnowRecorderModel", name := "isKind", desc := "()Z" } : Jvm.MethodName) ∈ AW := AW_m 49 (by decide +kernel) (by decide +kernel)
theorem s_50 : Cond.selects "SnowRecorderModel" ({ cls := "SnowRecorderModel", name := "kindHere", desc := "()I" } : Jvm.MethodName) ({ cls := "SnowRecorderModel", name := "kindHere", desc := "()I" } : Jvm.MethodName) ∈ AW := AW_m 50 (by decide +kernel) (by decide +kernel)
theorem hd_yX10_isKind : yX10_isKind.cls ≠ "java/lang/invoke/MethodHandle" ∧ yX10_isKind.cls ≠ "java/lang/invoke/VarHandle" ∧ (parseMethodDescriptor yX10_isKind.desc).map (fun d => d.parameters.length) = some 0 := by decide +kernel
theorem hd_yX10_kindHere : yX10_kindHere.cls ≠ "java/lang/invoke/MethodHandle" ∧ yX10_kindHere.cls ≠ "java/lang/invoke/VarHandle" ∧ (parseMethodDescriptor yX10_kindHere.desc).map (fun d => d.parameters.length) = some 0 := by decide +kernel
theorem mv_yX10_isKind : zWv yX10_isKind cX10_isKind 1 (some .boolean) := ⟨q_1695, s_49, q_15, q_1696⟩
theorem mv_yX10_kindHere : zWv yX10_kindHere cX10_kindHere 1 (some .int) := ⟨q_1699, s_50, q_15, q_1700⟩
end
section
-- 86ng.dec.lean.txt
-- decode rows of ylayer
theorem dX10_layer1_0 : decode cX10_layer1 0 = .ok (.aload_n 0, 1) := by decide +kernel
theorem dX10_layer1_1 : decode cX10_layer1 1 = .ok (.invokevirtual 285, 3) := by decide +kernel
theorem dX10_layer1_4 : decode cX10_layer1 4 = .ok (.aload_n 0, 1) := by decide +kernel
theorem dX10_layer1_5 : decode cX10_layer1 5 = .ok (.aload_n 0, 1) := by decide +kernel
theorem dX10_layer1_6 : decode cX10_layer1 6 = .ok (.getfield 263, 3) := by decide +kernel
theorem dX10_layer1_9 : decode cX10_layer1 9 = .ok (.iconst 2, 1) := by decide +kernel
theorem dX10_layer1_10 : decode cX10_layer1 10 = .ok (.if_icmp .ne 7, 3) := by decide +kernel
theorem dX10_layer1_17 : decode cX10_layer1 17 = .ok (.iconst 0, 1) := by decide +kernel
theorem dX10_layer1_18 : decode cX10_layer1 18 = .ok (.iconst 1, 1) := by decide +kernel
theorem dX10_layer1_19 : decode cX10_layer1 19 = .ok (.invokevirtual 277, 3) := by decide +kernel
theorem dX10_layer1_22 : decode cX10_layer1 22 = .ok (.ifCond .eq 75, 3) := by decide +kernel
theorem dX10_layer1_97 : decode cX10_layer1 97 = .ok (.return_, 1) := by decide +kernel
theorem dX10_layer1_13 : decode cX10_layer1 13 = .ok (.iconst 1, 1) := by decide +kernel
theorem dX10_layer1_14 : decode cX10_layer1 14 = .ok (.goto 4, 3) := by decide +kernel
theorem dX10_layer1_25 : decode cX10_layer1 25 = .ok (.aload_n 0, 1) := by decide +kernel
theorem dX10_layer1_26 : decode cX10_layer1 26 = .ok (.aload_n 0, 1) := by decide +kernel
theorem dX10_layer1_27 : decode cX10_layer1 27 = .ok (.getfield 260, 3) := by decide +kernel
theorem dX10_layer1_30 : decode cX10_layer1 30 = .ok (.iconst 4, 1) := by decide +kernel
theorem dX10_layer1_31 : decode cX10_layer1 31 = .ok (.if_icmp .ge 7, 3) := by decide +kernel
theorem dX10_layer1_38 : decode cX10_layer1 38 = .ok (.iconst 0, 1) := by decide +kernel
theorem dX10_layer1_39 : decode cX10_layer1 39 = .ok (.iconst 2, 1) := by decide +kernel
theorem dX10_layer1_40 : decode cX10_layer1 40 = .ok (.invokevirtual 277, 3) := by decide +kernel
theorem dX10_layer1_43 : decode cX10_layer1 43 = .ok (.ifCond .eq 54, 3) := by decide +kernel
theorem dX10_layer1_34 : decode cX10_layer1 34 = .ok (.iconst 1, 1) := by decide +kernel
theorem dX10_layer1_35 : decode cX10_layer1 35 = .ok (.goto 4, 3) := by decide +kernel
theorem dX10_layer1_46 : decode cX10_layer1 46 = .ok (.aload_n 0, 1) := by decide +kernel
theorem dX10_layer1_47 : decode cX10_layer1 47 = .ok (.aload_n 0, 1) := by decide +kernel
theorem dX10_layer1_48 : decode cX10_layer1 48 = .ok (.getfield 260, 3) := by decide +kernel
theorem dX10_layer1_51 : decode cX10_layer1 51 = .ok (.aload_n 0, 1) := by decide +kernel
theorem dX10_layer1_52 : decode cX10_layer1 52 = .ok (.getfield 288, 3) := by decide +kernel
theorem dX10_layer1_55 : decode cX10_layer1 55 = .ok (.if_icmp .ge 7, 3) := by decide +kernel
theorem dX10_layer1_62 : decode cX10_layer1 62 = .ok (.iconst 0, 1) := by decide +kernel
theorem dX10_layer1_63 : decode cX10_layer1 63 = .ok (.iconst 3, 1) := by decide +kernel
theorem dX10_layer1_64 : decode cX10_layer1 64 = .ok (.invokevirtual 277, 3) := by decide +kernel
theorem dX10_layer1_67 : decode cX10_layer1 67 = .ok (.ifCond .eq 30, 3) := by decide +kernel
theorem dX10_layer1_58 : decode cX10_layer1 58 = .ok (.iconst 1, 1) := by decide +kernel
theorem dX10_layer1_59 : decode cX10_layer1 59 = .ok (.goto 4, 3) := by decide +kernel
theorem dX10_layer1_70 : decode cX10_layer1 70 = .ok (.aload_n 0, 1) := by decide +kernel
theorem dX10_layer1_71 : decode cX10_layer1 71 = .ok (.aload_n 0, 1) := by decide +kernel
theorem dX10_layer1_72 : decode cX10_layer1 72 = .ok (.getfield 71, 3) := by decide +kernel
theorem dX10_layer1_75 : decode cX10_layer1 75 = .ok (.aload_n 0, 1) := by decide +kernel
theorem dX10_layer1_76 : decode cX10_layer1 76 = .ok (.getfield 260, 3) := by decide +kernel
theorem dX10_layer1_79 : decode cX10_layer1 79 = .ok (.iaload, 1) := by decide +kernel
theorem dX10_layer1_80 : decode cX10_layer1 80 = .ok (.bipush 12, 2) := by decide +kernel
theorem dX10_layer1_82 : decode cX10_layer1 82 = .ok (.if_icmp .ge 7, 3) := by decide +kernel
theorem dX10_layer1_89 : decode cX10_layer1 89 = .ok (.iconst 0, 1) := by decide +kernel
theorem dX10_layer1_90 : decode cX10_layer1 90 = .ok (.iconst 2, 1) := by decide +kernel
theorem dX10_layer1_91 : decode cX10_layer1 91 = .ok (.invokevirtual 277, 3) := by decide +kernel
theorem dX10_layer1_94 : decode cX10_layer1 94 = .ok (.ifCond .ne 4, 3) := by decide +kernel
theorem dX10_layer1_85 : decode cX10_layer1 85 = .ok (.iconst 1, 1) := by decide +kernel
theorem dX10_layer1_86 : decode cX10_layer1 86 = .ok (.goto 4, 3) := by decide +kernel
theorem dX10_layer1_98 : decode cX10_layer1 98 = .ok (.aload_n 0, 1) := by decide +kernel
theorem dX10_layer1_99 : decode cX10_layer1 99 = .ok (.getfield 260, 3) := by decide +kernel
theorem dX10_layer1_102 : decode cX10_layer1 102 = .ok (.istore_n 1, 1) := by decide +kernel
theorem dX10_layer1_103 : decode cX10_layer1 103 = .ok (.bipush 84, 2) := by decide +kernel
theorem dX10_layer1_105 : decode cX10_layer1 105 = .ok (.iload_n 1, 1) := by decide +kernel
theorem dX10_layer1_106 : decode cX10_layer1 106 = .ok (.imul, 1) := by decide +kernel
theorem dX10_layer1_107 : decode cX10_layer1 107 = .ok (.bipush 7, 2) := by decide +kernel
theorem dX10_layer1_109 : decode cX10_layer1 109 = .ok (.aload_n 0, 1) := by decide +kernel
theorem dX10_layer1_110 : decode cX10_layer1 110 = .ok (.getfield 71, 3) := by decide +kernel
theorem dX10_layer1_113 : decode cX10_layer1 113 = .ok (.iload_n 1, 1) := by decide +kernel
theorem dX10_layer1_114 : decode cX10_layer1 114 = .ok (.iaload, 1) := by decide +kernel
theorem dX10_layer1_115 : decode cX10_layer1 115 = .ok (.imul, 1) := by decide +kernel
theorem dX10_layer1_116 : decode cX10_layer1 116 = .ok (.iadd, 1) := by decide +kernel
theorem dX10_layer1_117 : decode cX10_layer1 117 = .ok (.istore_n 2, 1) := by decide +kernel
theorem dX10_layer1_118 : decode cX10_layer1 118 = .ok (.aload_n 0, 1) := by decide +kernel
theorem dX10_layer1_119 : decode cX10_layer1 119 = .ok (.invokevirtual 285, 3) := by decide +kernel
theorem dX10_layer1_122 : decode cX10_layer1 122 = .ok (.aload_n 0, 1) := by decide +kernel
theorem dX10_layer1_123 : decode cX10_layer1 123 = .ok (.aload_n 0, 1) := by decide +kernel
theorem dX10_layer1_124 : decode cX10_layer1 124 = .ok (.invokevirtual 294, 3) := by decide +kernel
theorem dX10_layer1_127 : decode cX10_layer1 127 = .ok (.iconst 1, 1) := by decide +kernel
theorem dX10_layer1_128 : decode cX10_layer1 128 = .ok (.invokevirtual 277, 3) := by decide +kernel
theorem dX10_layer1_131 : decode cX10_layer1 131 = .ok (.ifCond .ne 4, 3) := by decide +kernel
theorem dX10_layer1_135 : decode cX10_layer1 135 = .ok (.aload_n 0, 1) := by decide +kernel
theorem dX10_layer1_136 : decode cX10_layer1 136 = .ok (.getfield 86, 3) := by decide +kernel
theorem dX10_layer1_139 : decode cX10_layer1 139 = .ok (.iload_n 2, 1) := by decide +kernel
theorem dX10_layer1_140 : decode cX10_layer1 140 = .ok (.iconst 0, 1) := by decide +kernel
theorem dX10_layer1_141 : decode cX10_layer1 141 = .ok (.iadd, 1) := by decide +kernel
theorem dX10_layer1_142 : decode cX10_layer1 142 = .ok (.aload_n 0, 1) := by decide +kernel
theorem dX10_layer1_143 : decode cX10_layer1 143 = .ok (.invokevirtual 298, 3) := by decide +kernel
theorem dX10_layer1_146 : decode cX10_layer1 146 = .ok (.iastore, 1) := by decide +kernel
theorem dX10_layer1_147 : decode cX10_layer1 147 = .ok (.aload_n 0, 1) := by decide +kernel
theorem dX10_layer1_148 : decode cX10_layer1 148 = .ok (.invokevirtual 285, 3) := by decide +kernel
theorem dX10_layer1_151 : decode cX10_layer1 151 = .ok (.aload_n 0, 1) := by decide +kernel
theorem dX10_layer1_152 : decode cX10_layer1 152 = .ok (.getfield 86, 3) := by decide +kernel
theorem dX10_layer1_155 : decode cX10_layer1 155 = .ok (.iload_n 2, 1) := by decide +kernel
theorem dX10_layer1_156 : decode cX10_layer1 156 = .ok (.iconst 1, 1) := by decide +kernel
theorem dX10_layer1_157 : decode cX10_layer1 157 = .ok (.iadd, 1) := by decide +kernel
theorem dX10_layer1_158 : decode cX10_layer1 158 = .ok (.aload_n 0, 1) := by decide +kernel
theorem dX10_layer1_159 : decode cX10_layer1 159 = .ok (.iconst 1, 1) := by decide +kernel
theorem dX10_layer1_160 : decode cX10_layer1 160 = .ok (.bipush 99, 2) := by decide +kernel
theorem dX10_layer1_162 : decode cX10_layer1 162 = .ok (.invokevirtual 291, 3) := by decide +kernel
theorem dX10_layer1_165 : decode cX10_layer1 165 = .ok (.iastore, 1) := by decide +kernel
theorem dX10_layer1_166 : decode cX10_layer1 166 = .ok (.aload_n 0, 1) := by decide +kernel
theorem dX10_layer1_167 : decode cX10_layer1 167 = .ok (.getfield 274, 3) := by decide +kernel
theorem dX10_layer1_170 : decode cX10_layer1 170 = .ok (.ifCond .ne 18, 3) := by decide +kernel
theorem dX10_layer1_173 : decode cX10_layer1 173 = .ok (.aload_n 0, 1) := by decide +kernel
theorem dX10_layer1_174 : decode cX10_layer1 174 = .ok (.getfield 86, 3) := by decide +kernel
theorem dX10_layer1_177 : decode cX10_layer1 177 = .ok (.iload_n 2, 1) := by decide +kernel
theorem dX10_layer1_178 : decode cX10_layer1 178 = .ok (.iconst 2, 1) := by decide +kernel
theorem dX10_layer1_179 : decode cX10_layer1 179 = .ok (.iadd, 1) := by decide +kernel
theorem dX10_layer1_180 : decode cX10_layer1 180 = .ok (.aload_n 0, 1) := by decide +kernel
theorem dX10_layer1_181 : decode cX10_layer1 181 = .ok (.iconst 0, 1) := by decide +kernel
theorem dX10_layer1_182 : decode cX10_layer1 182 = .ok (.bipush 99, 2) := by decide +kernel
theorem dX10_layer1_184 : decode cX10_layer1 184 = .ok (.invokevirtual 291, 3) := by decide +kernel
theorem dX10_layer1_187 : decode cX10_layer1 187 = .ok (.iastore, 1) := by decide +kernel
theorem dX10_layer1_188 : decode cX10_layer1 188 = .ok (.aload_n 0, 1) := by decide +kernel
theorem dX10_layer1_189 : decode cX10_layer1 189 = .ok (.getfield 274, 3) := by decide +kernel
theorem dX10_layer1_192 : decode cX10_layer1 192 = .ok (.ifCond .ne 80, 3) := by decide +kernel
theorem dX10_layer1_195 : decode cX10_layer1 195 = .ok (.aload_n 0, 1) := by decide +kernel
theorem dX10_layer1_196 : decode cX10_layer1 196 = .ok (.aload_n 0, 1) := by decide +kernel
theorem dX10_layer1_197 : decode cX10_layer1 197 = .ok (.getfield 263, 3) := by decide +kernel
theorem dX10_layer1_200 : decode cX10_layer1 200 = .ok (.iconst 2, 1) := by decide +kernel
theorem dX10_layer1_201 : decode cX10_layer1 201 = .ok (.if_icmp .ne 7, 3) := by decide +kernel
theorem dX10_layer1_208 : decode cX10_layer1 208 = .ok (.iconst 0, 1) := by decide +kernel
theorem dX10_layer1_209 : decode cX10_layer1 209 = .ok (.iconst 1, 1) := by decide +kernel
theorem dX10_layer1_210 : decode cX10_layer1 210 = .ok (.invokevirtual 277, 3) := by decide +kernel
theorem dX10_layer1_213 : decode cX10_layer1 213 = .ok (.ifCond .eq 59, 3) := by decide +kernel
theorem dX10_layer1_272 : decode cX10_layer1 272 = .ok (.return_, 1) := by decide +kernel
theorem dX10_layer1_204 : decode cX10_layer1 204 = .ok (.iconst 1, 1) := by decide +kernel
theorem dX10_layer1_205 : decode cX10_layer1 205 = .ok (.goto 4, 3) := by decide +kernel
theorem dX10_layer1_216 : decode cX10_layer1 216 = .ok (.aload_n 0, 1) := by decide +kernel
theorem dX10_layer1_217 : decode cX10_layer1 217 = .ok (.aload_n 0, 1) := by decide +kernel
theorem dX10_layer1_218 : decode cX10_layer1 218 = .ok (.getfield 260, 3) := by decide +kernel
theorem dX10_layer1_221 : decode cX10_layer1 221 = .ok (.iconst 1, 1) := by decide +kernel
theorem dX10_layer1_222 : decode cX10_layer1 222 = .ok (.sipush 999, 3) := by decide +kernel
theorem dX10_layer1_225 : decode cX10_layer1 225 = .ok (.invokestatic 281, 3) := by decide +kernel
theorem dX10_layer1_228 : decode cX10_layer1 228 = .ok (.iconst 2, 1) := by decide +kernel
theorem dX10_layer1_229 : decode cX10_layer1 229 = .ok (.invokevirtual 277, 3) := by decide +kernel
theorem dX10_layer1_232 : decode cX10_layer1 232 = .ok (.ifCond .eq 40, 3) := by decide +kernel
theorem dX10_layer1_235 : decode cX10_layer1 235 = .ok (.aload_n 0, 1) := by decide +kernel
theorem dX10_layer1_236 : decode cX10_layer1 236 = .ok (.aload_n 0, 1) := by decide +kernel
theorem dX10_layer1_237 : decode cX10_layer1 237 = .ok (.getfield 260, 3) := by decide +kernel
theorem dX10_layer1_240 : decode cX10_layer1 240 = .ok (.aload_n 0, 1) := by decide +kernel
theorem dX10_layer1_241 : decode cX10_layer1 241 = .ok (.getfield 86, 3) := by decide +kernel
theorem dX10_layer1_244 : decode cX10_layer1 244 = .ok (.iload_n 2, 1) := by decide +kernel
theorem dX10_layer1_245 : decode cX10_layer1 245 = .ok (.iconst 1, 1) := by decide +kernel
theorem dX10_layer1_246 : decode cX10_layer1 246 = .ok (.iadd, 1) := by decide +kernel
theorem dX10_layer1_247 : decode cX10_layer1 247 = .ok (.iaload, 1) := by decide +kernel
theorem dX10_layer1_248 : decode cX10_layer1 248 = .ok (.aload_n 0, 1) := by decide +kernel
theorem dX10_layer1_249 : decode cX10_layer1 249 = .ok (.getfield 86, 3) := by decide +kernel
theorem dX10_layer1_252 : decode cX10_layer1 252 = .ok (.iload_n 2, 1) := by decide +kernel
theorem dX10_layer1_253 : decode cX10_layer1 253 = .ok (.iconst 2, 1) := by decide +kernel
theorem dX10_layer1_254 : decode cX10_layer1 254 = .ok (.iadd, 1) := by decide +kernel
theorem dX10_layer1_255 : decode cX10_layer1 255 = .ok (.iaload, 1) := by decide +kernel
theorem dX10_layer1_256 : decode cX10_layer1 256 = .ok (.iadd, 1) := by decide +kernel
theorem dX10_layer1_257 : decode cX10_layer1 257 = .ok (.if_icmp .lt 7, 3) := by decide +kernel
theorem dX10_layer1_264 : decode cX10_layer1 264 = .ok (.iconst 0, 1) := by decide +kernel
theorem dX10_layer1_265 : decode cX10_layer1 265 = .ok (.iconst 5, 1) := by decide +kernel
theorem dX10_layer1_266 : decode cX10_layer1 266 = .ok (.invokevirtual 277, 3) := by decide +kernel
theorem dX10_layer1_269 : decode cX10_layer1 269 = .ok (.ifCond .ne 4, 3) := by decide +kernel
theorem dX10_layer1_260 : decode cX10_layer1 260 = .ok (.iconst 1, 1) := by decide +kernel
theorem dX10_layer1_261 : decode cX10_layer1 261 = .ok (.goto 4, 3) := by decide +kernel
theorem dX10_layer1_273 : decode cX10_layer1 273 = .ok (.aload_n 0, 1) := by decide +kernel
theorem dX10_layer1_274 : decode cX10_layer1 274 = .ok (.getfield 86, 3) := by decide +kernel
theorem dX10_layer1_277 : decode cX10_layer1 277 = .ok (.iload_n 2, 1) := by decide +kernel
theorem dX10_layer1_278 : decode cX10_layer1 278 = .ok (.iconst 3, 1) := by decide +kernel
theorem dX10_layer1_279 : decode cX10_layer1 279 = .ok (.iadd, 1) := by decide +kernel
theorem dX10_layer1_280 : decode cX10_layer1 280 = .ok (.aload_n 0, 1) := by decide +kernel
theorem dX10_layer1_281 : decode cX10_layer1 281 = .ok (.getfield 260, 3) := by decide +kernel
theorem dX10_layer1_284 : decode cX10_layer1 284 = .ok (.iastore, 1) := by decide +kernel
theorem dX10_layer1_285 : decode cX10_layer1 285 = .ok (.aload_n 0, 1) := by decide +kernel
theorem dX10_layer1_286 : decode cX10_layer1 286 = .ok (.invokevirtual 285, 3) := by decide +kernel
theorem dX10_layer1_289 : decode cX10_layer1 289 = .ok (.aload_n 0, 1) := by decide +kernel
theorem dX10_layer1_290 : decode cX10_layer1 290 = .ok (.getfield 86, 3) := by decide +kernel
theorem dX10_layer1_293 : decode cX10_layer1 293 = .ok (.iload_n 2, 1) := by decide +kernel
theorem dX10_layer1_294 : decode cX10_layer1 294 = .ok (.iconst 4, 1) := by decide +kernel
theorem dX10_layer1_295 : decode cX10_layer1 295 = .ok (.iadd, 1) := by decide +kernel
theorem dX10_layer1_296 : decode cX10_layer1 296 = .ok (.aload_n 0, 1) := by decide +kernel
theorem dX10_layer1_297 : decode cX10_layer1 297 = .ok (.iconst 0, 1) := by decide +kernel
theorem dX10_layer1_298 : decode cX10_layer1 298 = .ok (.sipush 300, 3) := by decide +kernel
theorem dX10_layer1_301 : decode cX10_layer1 301 = .ok (.invokevirtual 291, 3) := by decide +kernel
theorem dX10_layer1_304 : decode cX10_layer1 304 = .ok (.ineg, 1) := by decide +kernel
theorem dX10_layer1_305 : decode cX10_layer1 305 = .ok (.iastore, 1) := by decide +kernel
theorem dX10_layer1_306 : decode cX10_layer1 306 = .ok (.aload_n 0, 1) := by decide +kernel
theorem dX10_layer1_307 : decode cX10_layer1 307 = .ok (.getfield 86, 3) := by decide +kernel
theorem dX10_layer1_310 : decode cX10_layer1 310 = .ok (.iload_n 2, 1) := by decide +kernel
theorem dX10_layer1_311 : decode cX10_layer1 311 = .ok (.iconst 5, 1) := by decide +kernel
theorem dX10_layer1_312 : decode cX10_layer1 312 = .ok (.iadd, 1) := by decide +kernel
theorem dX10_layer1_313 : decode cX10_layer1 313 = .ok (.iconst 0, 1) := by decide +kernel
theorem dX10_layer1_314 : decode cX10_layer1 314 = .ok (.iastore, 1) := by decide +kernel
theorem dX10_layer1_315 : decode cX10_layer1 315 = .ok (.aload_n 0, 1) := by decide +kernel
theorem dX10_layer1_316 : decode cX10_layer1 316 = .ok (.getfield 86, 3) := by decide +kernel
theorem dX10_layer1_319 : decode cX10_layer1 319 = .ok (.iload_n 2, 1) := by decide +kernel
theorem dX10_layer1_320 : decode cX10_layer1 320 = .ok (.bipush 6, 2) := by decide +kernel
theorem dX10_layer1_322 : decode cX10_layer1 322 = .ok (.iadd, 1) := by decide +kernel
theorem dX10_layer1_323 : decode cX10_layer1 323 = .ok (.aload_n 0, 1) := by decide +kernel
theorem dX10_layer1_324 : decode cX10_layer1 324 = .ok (.getfield 302, 3) := by decide +kernel
theorem dX10_layer1_327 : decode cX10_layer1 327 = .ok (.iastore, 1) := by decide +kernel
theorem dX10_layer1_328 : decode cX10_layer1 328 = .ok (.aload_n 0, 1) := by decide +kernel
theorem dX10_layer1_329 : decode cX10_layer1 329 = .ok (.getfield 71, 3) := by decide +kernel
theorem dX10_layer1_332 : decode cX10_layer1 332 = .ok (.iload_n 1, 1) := by decide +kernel
theorem dX10_layer1_333 : decode cX10_layer1 333 = .ok (.dup2, 1) := by decide +kernel
theorem dX10_layer1_334 : decode cX10_layer1 334 = .ok (.iaload, 1) := by decide +kernel
theorem dX10_layer1_335 : decode cX10_layer1 335 = .ok (.iconst 1, 1) := by decide +kernel
theorem dX10_layer1_336 : decode cX10_layer1 336 = .ok (.iadd, 1) := by decide +kernel
theorem dX10_layer1_337 : decode cX10_layer1 337 = .ok (.iastore, 1) := by decide +kernel
theorem dX10_layer1_338 : decode cX10_layer1 338 = .ok (.aload_n 0, 1) := by decide +kernel
theorem dX10_layer1_339 : decode cX10_layer1 339 = .ok (.dup, 1) := by decide +kernel
theorem dX10_layer1_340 : decode cX10_layer1 340 = .ok (.getfield 302, 3) := by decide +kernel
theorem dX10_layer1_343 : decode cX10_layer1 343 = .ok (.iconst 1, 1) := by decide +kernel
theorem dX10_layer1_344 : decode cX10_layer1 344 = .ok (.iadd, 1) := by decide +kernel
theorem dX10_layer1_345 : decode cX10_layer1 345 = .ok (.putfield 302, 3) := by decide +kernel
theorem dX10_layer1_348 : decode cX10_layer1 348 = .ok (.return_, 1) := by decide +kernel
theorem dX10_layer1_134 : decode cX10_layer1 134 = .ok (.return_, 1) := by decide +kernel
end
