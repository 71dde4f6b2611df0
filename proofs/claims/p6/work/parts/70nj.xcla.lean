/-- a clause and its semicolon: what is told behind it, and the next token; s: slopes, hours, names, layers of each slope, STEEP, OPEN, AIR, FALL, MUCH, the TABLE, its told places, the cells of each slope -/
def ps_step (T : Nat → Int) (n : Nat) (s : Int × Int × Int × (Nat → Int) × (Nat → Int) × (Nat → Int) × (Nat → Int) × (Nat → Int) × (Nat → Int) × (Nat → Int) × (Nat → Int) × (Nat → Nat → Int)) (f : Nat) : Except (Int × Nat) ((Int × Int × Int × (Nat → Int) × (Nat → Int) × (Nat → Int) × (Nat → Int) × (Nat → Int) × (Nat → Int) × (Nat → Int) × (Nat → Int) × (Nat → Nat → Int)) × Nat) :=
  if tk_w T n f = 0 then (match cl_fin T n (cl_slope T n s.1 f) with | .error e => .error e | .ok v => .ok ((s.1 + 1, s.2.1, s.2.2.1, s.2.2.2.1, uZ s.2.2.2.2.1 (s.1).toNat v.1.1, uZ s.2.2.2.2.2.1 (s.1).toNat v.1.2, s.2.2.2.2.2.2.1, s.2.2.2.2.2.2.2.1, s.2.2.2.2.2.2.2.2.1, s.2.2.2.2.2.2.2.2.2.1, s.2.2.2.2.2.2.2.2.2.2.1, s.2.2.2.2.2.2.2.2.2.2.2), v.2))
  else if tk_w T n f = 1 then (match cl_fin T n (cl_layer T n s.1 s.2.2.2.1 f) with | .error e => .error e | .ok v => .ok ((s.1, s.2.1, s.2.2.1 + 1, uZ s.2.2.2.1 v.1.1.toNat (s.2.2.2.1 v.1.1.toNat + 1), s.2.2.2.2.1, s.2.2.2.2.2.1, s.2.2.2.2.2.2.1, s.2.2.2.2.2.2.2.1, s.2.2.2.2.2.2.2.2.1, s.2.2.2.2.2.2.2.2.2.1, s.2.2.2.2.2.2.2.2.2.2.1, (fun j => if j = v.1.1.toNat then la_ (s.2.2.2.2.2.2.2.2.2.2.2 v.1.1.toNat) (s.2.2.2.1 v.1.1.toNat) v.1.2.1 v.1.2.2.1 v.1.2.2.2.1 v.1.2.2.2.2.1 v.1.2.2.2.2.2 s.2.2.1 else s.2.2.2.2.2.2.2.2.2.2.2 j)), v.2))
  else if tk_w T n f = 2 then (match cl_fin T n (cl_hour T n s.2.1 f) with | .error e => .error e | .ok v => .ok ((s.1, s.2.1 + 1, s.2.2.1, s.2.2.2.1, s.2.2.2.2.1, s.2.2.2.2.2.1, uZ s.2.2.2.2.2.2.1 (s.2.1).toNat v.1.1, uZ s.2.2.2.2.2.2.2.1 (s.2.1).toNat v.1.2.1, uZ s.2.2.2.2.2.2.2.2.1 (s.2.1).toNat v.1.2.2, s.2.2.2.2.2.2.2.2.2.1, s.2.2.2.2.2.2.2.2.2.2.1, s.2.2.2.2.2.2.2.2.2.2.2), v.2))
  else if tk_w T n f = 6 then (match cl_fin T n (cl_table T n s.2.2.2.2.2.2.2.2.2.2.1 0 0 99 f) with | .error e => .error e | .ok v => .ok ((s.1, s.2.1, s.2.2.1, s.2.2.2.1, s.2.2.2.2.1, s.2.2.2.2.2.1, s.2.2.2.2.2.2.1, s.2.2.2.2.2.2.2.1, s.2.2.2.2.2.2.2.2.1, uZ s.2.2.2.2.2.2.2.2.2.1 v.1.1.toNat v.1.2, uZ s.2.2.2.2.2.2.2.2.2.2.1 v.1.1.toNat 1, s.2.2.2.2.2.2.2.2.2.2.2), v.2))
  else if tk_w T n f = 7 then (match cl_fin T n (cl_table T n s.2.2.2.2.2.2.2.2.2.2.1 5 0 99 f) with | .error e => .error e | .ok v => .ok ((s.1, s.2.1, s.2.2.1, s.2.2.2.1, s.2.2.2.2.1, s.2.2.2.2.2.1, s.2.2.2.2.2.2.1, s.2.2.2.2.2.2.2.1, s.2.2.2.2.2.2.2.2.1, uZ s.2.2.2.2.2.2.2.2.2.1 v.1.1.toNat v.1.2, uZ s.2.2.2.2.2.2.2.2.2.2.1 v.1.1.toNat 1, s.2.2.2.2.2.2.2.2.2.2.2), v.2))
  else if tk_w T n f = 8 then (match cl_fin T n (cl_table T n s.2.2.2.2.2.2.2.2.2.2.1 10 1 9999 f) with | .error e => .error e | .ok v => .ok ((s.1, s.2.1, s.2.2.1, s.2.2.2.1, s.2.2.2.2.1, s.2.2.2.2.2.1, s.2.2.2.2.2.2.1, s.2.2.2.2.2.2.2.1, s.2.2.2.2.2.2.2.2.1, uZ s.2.2.2.2.2.2.2.2.2.1 v.1.1.toNat v.1.2, uZ s.2.2.2.2.2.2.2.2.2.2.1 v.1.1.toNat 1, s.2.2.2.2.2.2.2.2.2.2.2), v.2))
  else .error (1, f)
/-- a TEXT: its FAULT and place (0, -1: none), and what is told -/
def ps_run (T : Nat → Int) (n : Nat) : Nat → Int × Int × Int × (Nat → Int) × (Nat → Int) × (Nat → Int) × (Nat → Int) × (Nat → Int) × (Nat → Int) × (Nat → Int) × (Nat → Int) × (Nat → Nat → Int) → Nat → Option ((Int × Int) × (Int × Int × Int × (Nat → Int) × (Nat → Int) × (Nat → Int) × (Nat → Int) × (Nat → Int) × (Nat → Int) × (Nat → Int) × (Nat → Int) × (Nat → Nat → Int)))
  | 0, _, _ => none
  | k + 1, s, f => if tk_so T n f = 0 then some ((0, -1), s) else match ps_step T n s f with
    | .error e => some ((e.1, (e.2 : Int)), s)
    | .ok v => ps_run T n k v.1 v.2
theorem ps_run_m {T : Nat → Int} {n : Nat} : ∀ (k : Nat) (s : Int × Int × Int × (Nat → Int) × (Nat → Int) × (Nat → Int) × (Nat → Int) × (Nat → Int) × (Nat → Int) × (Nat → Int) × (Nat → Int) × (Nat → Nat → Int)) (f : Nat) (r : (Int × Int) × (Int × Int × Int × (Nat → Int) × (Nat → Int) × (Nat → Int) × (Nat → Int) × (Nat → Int) × (Nat → Int) × (Nat → Int) × (Nat → Int) × (Nat → Nat → Int))), ps_run T n k s f = some r → ∀ j, ps_run T n (k + j) s f = some r := by
  intro k
  induction k with
  | zero => intro s f r h; exact absurd h (by simp [ps_run])
  | succ k ih =>
    intro s f r h j
    rw [show k + 1 + j = (k + j) + 1 by omega]
    simp only [ps_run] at h ⊢
    by_cases e : tk_so T n f = 0
    · rw [if_pos e] at h ⊢; exact h
    · rw [if_neg e] at h ⊢
      cases hs : ps_step T n s f with
      | error e2 => rw [hs] at h; exact h
      | ok v => rw [hs] at h; exact ih v.1 v.2 r h j
/-- what a TEXT answers is one thing -/
theorem ps_run_u {T : Nat → Int} {n : Nat} {k j : Nat} {s : Int × Int × Int × (Nat → Int) × (Nat → Int) × (Nat → Int) × (Nat → Int) × (Nat → Int) × (Nat → Int) × (Nat → Int) × (Nat → Int) × (Nat → Nat → Int)} {f : Nat} {r q : (Int × Int) × (Int × Int × Int × (Nat → Int) × (Nat → Int) × (Nat → Int) × (Nat → Int) × (Nat → Int) × (Nat → Int) × (Nat → Int) × (Nat → Int) × (Nat → Nat → Int))} (h1 : ps_run T n k s f = some r) (h2 : ps_run T n j s f = some q) : r = q := by
  have a := ps_run_m k s f r h1 j
  have b := ps_run_m j s f q h2 k
  rw [Nat.add_comm j k, a] at b
  exact Option.some.inj b
/-- the class between two clauses: plan and packs as the pure picture says -/
abbrev xSt (cs : Nat → ClassId) (ad : Nat → Nat) (g : Nat → va_E) (s : Int × Int × Int × (Nat → Int) × (Nat → Int) × (Nat → Int) × (Nat → Int) × (Nat → Int) × (Nat → Int) × (Nat → Int) × (Nat → Int) × (Nat → Nat → Int)) : Prop := isPlan cs ad g 883 s.1 s.2.1 0 s.2.2.2.2.1 s.2.2.2.2.2.1 s.2.2.2.2.2.2.1 s.2.2.2.2.2.2.2.1 s.2.2.2.2.2.2.2.2.1 s.2.2.2.2.2.2.2.2.2.1 ∧ (0 ≤ s.1 ∧ s.1 ≤ 4) ∧ (0 ≤ s.2.1 ∧ s.2.1 ≤ 24) ∧ (∀ k, k < 4 → 0 ≤ s.2.2.2.1 k ∧ s.2.2.2.1 k ≤ 12) ∧ ∃ wt : Nat → Int, (∀ k, k < 6 → k ≠ 1 → wt k = 0) ∧ wt 1 = s.2.2.1 ∧ isWorld cs ad g 890 wt s.2.2.2.1 (fun _ => 0) s.2.2.2.2.2.2.2.2.2.2.2
theorem isWorld.o0 {cs : Nat → ClassId} {ad : Nat → Nat} {g : Nat → va_E} {a k : Nat} {t z : Nat → Int} {r : Nat → Nat → Int} (h : isWorld cs ad g a t z (uZ (fun _ => 0) k 0) r) : isWorld cs ad g a t z (fun _ => 0) r := by
  have e : uZ (fun _ => 0) k 0 = fun _ => 0 := by
    funext j
    by_cases e : j = k
    · rw [e, uZ_s]
    · rw [uZ_n _ _ e]
  rw [e] at h
  exact h
theorem uZ_r {r : Nat → Int} {k : Nat} {v lo hi : Int} {m : Nat} (h : ∀ j, j < m → lo ≤ r j ∧ r j ≤ hi) (hv : lo ≤ v ∧ v ≤ hi) : ∀ j, j < m → lo ≤ uZ r k v j ∧ uZ r k v j ≤ hi := fun j hj => by
  by_cases e : j = k
  · rw [e, uZ_s]; exact hv
  · rw [uZ_n _ _ e]; exact h j hj

set_option maxRecDepth 100000 in
set_option maxHeartbeats 4000000 in
theorem c_xClause (l : Launch) (D : va_G) (A : Nat → Prop) (cs : Nat → ClassId) (tt : Nat) (N : Nat) (ad : Nat → Nat) (g : Nat → va_E) (hN : 952 ≤ N) (pl tk td : Int) (tp T : Nat → Int) (hT : xT tp T) (n : Nat) (hn : n ≤ 900) (f : Nat) (hf : f ≤ n) (hg2 : g 2 = rdC ad (pl) (0) ((n : Int)) (tk_so T n f) ((f : Int)) (((tk_to T n f : Nat) : Int)) (tk) (td)) (hg1 : g 1 = bA cs 900 tp) (sl ho nm : Int) (mn st op ai fa mu tb B : Nat → Int) (Lz : Nat → Nat → Int) (hB : xTd td B) (hX : xSt cs ad g (sl, ho, nm, mn, st, op, ai, fa, mu, tb, B, Lz)) : zM l yX7_readClause cX7_readClause 3 none ({ frames := 8, cells := 0, slots := 0, locals := 480 } : Room) D A cs tt N ad g [.ref (ad 2), .ref (ad 883), .ref (ad 890)] (rV0 N ad fun g' => ((∃ v, ps_step T n (sl, ho, nm, mn, st, op, ai, fa, mu, tb, B, Lz) f = .ok v ∧ ((f < n → f < v.2) ∧ v.2 ≤ n) ∧ (∃ tk' td' : Int, g' 2 = rdC ad (pl) (0) ((n : Int)) (tk_so T n v.2) ((v.2 : Int)) (((tk_to T n v.2 : Nat) : Int)) (tk') (td') ∧ xTd td' v.1.2.2.2.2.2.2.2.2.2.2.1) ∧ xSt cs ad g' v.1) ∨ (∃ e : Int × Nat, ps_step T n (sl, ho, nm, mn, st, op, ai, fa, mu, tb, B, Lz) f = .error e ∧ xFl cs ad g' e.1 (e.2 : Int) tp ∧ xSt cs ad g' (sl, ho, nm, mn, st, op, ai, fa, mu, tb, B, Lz))) ∧ ∀ j, j ≠ 2 → (j < 883 ∨ 900 ≤ j) → g' j = g j) := by
  have hay1 : zAt ad (2) (ad 2) := rfl
  have hay2 : zAt ad (1) (ad 1) := rfl
  have hTr : ∀ k, k < 900 → -128 ≤ tp k ∧ tp k ≤ 127 := fun k hk => (hT k hk).2.1
  have hsb := tk_so_b T n f
  have htb := tk_to_b (T := T) hf
  have hwb := tk_w_b T n f
  obtain ⟨hP9, hsl9, hho9, hmn9, wt, hwt0, hnm9, hW9⟩ := hX
  have hP : isPlan cs ad g 883 sl ho 0 st op ai fa mu tb := hP9
  have hsl : 0 ≤ sl ∧ sl ≤ 4 := hsl9
  have hho : 0 ≤ ho ∧ ho ≤ 24 := hho9
  have hmn : ∀ k, k < 4 → 0 ≤ mn k ∧ mn k ≤ 12 := hmn9
  have hnm : wt 1 = nm := hnm9
  have hW : isWorld cs ad g 890 wt mn (fun _ => 0) Lz := hW9
  clear hP9 hsl9 hho9 hmn9 hnm9 hW9
  subst hnm
  have hay3 : zAt ad (883) (ad 883) := rfl
  have hay4 : zAt ad (890) (ad 890) := rfl
  refine z_of (by decide) (Nat.le_of_ble_eq_true rfl) ?_
  intro p e s m below meth c C hr hlk hnm
  refine z_lv (lv' := [(0, .ref (ad 2)), (1, .ref (ad 883)), (2, .ref (ad 890))]) [0, 1, 2] rfl ?_
  refine z_aload_n C 0 dX7_readClause_0 rfl ?_
  refine z_ldcS C skm0 rfl rfl dX7_readClause_1 ?_
  refine z_cV (As := [.ref (cs (100 + 0))]) (rest := []) (ci := 9) C (c_xIs l D A cs tt N ad _ (by omega) _ _ _ tp T hT n hn f (by omega) hg2 hg1 _ skm0) (lt_K hN (rfl : Nat.blt (2) 952 = true)) hay1 hg2 rfl rfl mv_yX7_is q_754 hd_yX7_is (by decide) (Nat.le_of_ble_eq_true rfl) (by decide) dX7_readClause_3 rfl (kI0 fun vy5 gvy5 hvy5 => ?_)
  obtain ⟨hvy5, rfl⟩ := hvy5
  have hwvy5 := is_w kbw_0 (by decide) hvy5
  clear hvy5
  have hrvy5 : 0 ≤ vy5 ∧ vy5 ≤ 1 := by omega
  refine z_if_eq (tgt := 17) C dX7_readClause_6 (by decide) (by omega) (fun hby6 => ?_) (fun hby6 => ?_)
  · refine z_aload_n C 0 dX7_readClause_17 rfl ?_
    refine z_ldcS C skm1 rfl rfl dX7_readClause_18 ?_
    refine z_cV (As := [.ref (cs (100 + 1))]) (rest := []) (ci := 9) C (c_xIs l D A cs tt N ad _ (by omega) _ _ _ tp T hT n hn f (by omega) hg2 hg1 _ skm1) (lt_K hN (rfl : Nat.blt (2) 952 = true)) hay1 hg2 rfl rfl mv_yX7_is q_754 hd_yX7_is (by decide) (Nat.le_of_ble_eq_true rfl) (by decide) dX7_readClause_20 rfl (kI0 fun vy7 gvy7 hvy7 => ?_)
    obtain ⟨hvy7, rfl⟩ := hvy7
    have hwvy7 := is_w kbw_1 (by decide) hvy7
    clear hvy7
    have hrvy7 : 0 ≤ vy7 ∧ vy7 ≤ 1 := by omega
    refine z_if_eq (tgt := 35) C dX7_readClause_23 (by decide) (by omega) (fun hby8 => ?_) (fun hby8 => ?_)
    · refine z_aload_n C 0 dX7_readClause_35 rfl ?_
      refine z_ldcS C skm7 rfl rfl dX7_readClause_36 ?_
      refine z_cV (As := [.ref (cs (100 + 7))]) (rest := []) (ci := 9) C (c_xIs l D A cs tt N ad _ (by omega) _ _ _ tp T hT n hn f (by omega) hg2 hg1 _ skm7) (lt_K hN (rfl : Nat.blt (2) 952 = true)) hay1 hg2 rfl rfl mv_yX7_is q_754 hd_yX7_is (by decide) (Nat.le_of_ble_eq_true rfl) (by decide) dX7_readClause_38 rfl (kI0 fun vy9 gvy9 hvy9 => ?_)
      obtain ⟨hvy9, rfl⟩ := hvy9
      have hwvy9 := is_w kbw_7 (by decide) hvy9
      clear hvy9
      have hrvy9 : 0 ≤ vy9 ∧ vy9 ≤ 1 := by omega
      refine z_if_eq (tgt := 52) C dX7_readClause_41 (by decide) (by omega) (fun hby10 => ?_) (fun hby10 => ?_)
      · refine z_aload_n C 0 dX7_readClause_52 rfl ?_
        refine z_ldcS C skm11 rfl rfl dX7_readClause_53 ?_
        refine z_cV (As := [.ref (cs (100 + 11))]) (rest := []) (ci := 9) C (c_xIs l D A cs tt N ad _ (by omega) _ _ _ tp T hT n hn f (by omega) hg2 hg1 _ skm11) (lt_K hN (rfl : Nat.blt (2) 952 = true)) hay1 hg2 rfl rfl mv_yX7_is q_754 hd_yX7_is (by decide) (Nat.le_of_ble_eq_true rfl) (by decide) dX7_readClause_55 rfl (kI0 fun vy11 gvy11 hvy11 => ?_)
        obtain ⟨hvy11, rfl⟩ := hvy11
        have hwvy11 := is_w kbw_11 (by decide) hvy11
        clear hvy11
        have hrvy11 : 0 ≤ vy11 ∧ vy11 ≤ 1 := by omega
        refine z_if_eq (tgt := 73) C dX7_readClause_58 (by decide) (by omega) (fun hby12 => ?_) (fun hby12 => ?_)
        · refine z_aload_n C 0 dX7_readClause_73 rfl ?_
          refine z_ldcS C skm12 rfl rfl dX7_readClause_74 ?_
          refine z_cV (As := [.ref (cs (100 + 12))]) (rest := []) (ci := 9) C (c_xIs l D A cs tt N ad _ (by omega) _ _ _ tp T hT n hn f (by omega) hg2 hg1 _ skm12) (lt_K hN (rfl : Nat.blt (2) 952 = true)) hay1 hg2 rfl rfl mv_yX7_is q_754 hd_yX7_is (by decide) (Nat.le_of_ble_eq_true rfl) (by decide) dX7_readClause_76 rfl (kI0 fun vy13 gvy13 hvy13 => ?_)
          obtain ⟨hvy13, rfl⟩ := hvy13
          have hwvy13 := is_w kbw_12 (by decide) hvy13
          clear hvy13
          have hrvy13 : 0 ≤ vy13 ∧ vy13 ≤ 1 := by omega
          refine z_if_eq (tgt := 94) C dX7_readClause_79 (by decide) (by omega) (fun hby14 => ?_) (fun hby14 => ?_)
          · refine z_aload_n C 0 dX7_readClause_94 rfl ?_
            refine z_ldcS C skm13 rfl rfl dX7_readClause_95 ?_
            refine z_cV (As := [.ref (cs (100 + 13))]) (rest := []) (ci := 9) C (c_xIs l D A cs tt N ad _ (by omega) _ _ _ tp T hT n hn f (by omega) hg2 hg1 _ skm13) (lt_K hN (rfl : Nat.blt (2) 952 = true)) hay1 hg2 rfl rfl mv_yX7_is q_754 hd_yX7_is (by decide) (Nat.le_of_ble_eq_true rfl) (by decide) dX7_readClause_97 rfl (kI0 fun vy15 gvy15 hvy15 => ?_)
            obtain ⟨hvy15, rfl⟩ := hvy15
            have hwvy15 := is_w kbw_13 (by decide) hvy15
            clear hvy15
            have hrvy15 : 0 ≤ vy15 ∧ vy15 ≤ 1 := by omega
            refine z_if_eq (tgt := 117) C dX7_readClause_100 (by decide) (by omega) (fun hby16 => ?_) (fun hby16 => ?_)
            · refine z_aload_n C 0 dX7_readClause_117 rfl ?_
              refine z_iconst (z := 1) C dX7_readClause_118 rfl ?_
              refine z_aload_n C 0 dX7_readClause_119 rfl ?_
              refine z_get (v := .int (zI ((f : Int)))) C (lt_K hN (rfl : Nat.blt (2) 952 = true)) hay1 hg2 rfl inA_X7 5 (by decide) q_49 rfl rfl dX7_readClause_120 ?_
              refine z_cV (As := [.int (zI (1)), .int (zI ((f : Int)))]) (rest := []) (ci := 9) C (c_xFail l D A cs tt N ad _ (by omega) _ _ _ _ _ _ _ hg2 (1) ((f : Int))) (lt_K hN (rfl : Nat.blt (2) 952 = true)) hay1 hg2 rfl rfl mv_yX7_fail q_809 hd_yX7_fail (by decide) (Nat.le_of_ble_eq_true rfl) (by decide) dX7_readClause_123 rfl (kV0 fun gvy17 hvy17 => ?_)
              obtain ⟨hkvy17, hfvy17⟩ := hvy17
              have hwcy18 : ¬ tk_w T n f = 0 := by omega
              have hwcy19 : ¬ tk_w T n f = 1 := by omega
              have hwcy20 : ¬ tk_w T n f = 2 := by omega
              have hwcy21 : ¬ tk_w T n f = 6 := by omega
              have hwcy22 : ¬ tk_w T n f = 7 := by omega
              have hwcy23 : ¬ tk_w T n f = 8 := by omega
              have hgy24 := (hfvy17 (1) (by decide)).trans hg1
              have hX9 : xSt cs ad gvy17 (sl, ho, wt 1, mn, st, op, ai, fa, mu, tb, B, Lz) := ⟨hP.mv (fun _ _ _ => rfl) (fun j a b => by rw [hfvy17 _ (by omega)]), hsl, hho, hmn, wt, hwt0, rfl, hW.mv (fun _ _ _ => rfl) (fun j a b => by rw [hfvy17 _ (by omega)])⟩
              exact z_vret C hr hlk dX7_readClause_126 (by decide) (by decide) ⟨rfl, rfl, rfl, Or.inr ⟨(1, f), by simp only [ps_step, if_neg hwcy18, if_neg hwcy19, if_neg hwcy20, if_neg hwcy21, if_neg hwcy22, if_neg hwcy23]; first | done | rfl, ⟨by show (1 : Int) ≤ 1 ∧ (1 : Int) ≤ 5; decide, _, _, _, _, _, _, by omega, by omega, hkvy17, hgy24⟩, hX9⟩, fun j j1 j2 => by rw [hfvy17 _ (by omega)]⟩
            · refine z_aload_n C 0 dX7_readClause_103 rfl ?_
              refine z_aload_n C 1 dX7_readClause_104 rfl ?_
              refine z_bipush (z := 10) C dX7_readClause_105 (by decide) ?_
              refine z_iconst (z := 1) C dX7_readClause_107 rfl ?_
              refine z_sipush (z := 9999) C dX7_readClause_108 (by decide) ?_
              have hwcy26 : ¬ tk_w T n f = 0 := by omega
              have hwcy27 : ¬ tk_w T n f = 1 := by omega
              have hwcy28 : ¬ tk_w T n f = 2 := by omega
              have hwcy29 : ¬ tk_w T n f = 6 := by omega
              have hwcy30 : ¬ tk_w T n f = 7 := by omega
              have hwcy31 : tk_w T n f = 8 := by omega
              refine z_cV (As := [.ref (ad 883), .int (zI (10)), .int (zI (1)), .int (zI (9999))]) (rest := []) (ci := 9) C (c_xTable l D A cs tt N ad _ (by omega) _ _ _ tp T hT n hn f (by omega) hg2 hg1 _ _ _ _ _ _ _ _ _ hP hsl hho B hB (10) (by decide) (1) (9999) (by decide)) (lt_K hN (rfl : Nat.blt (2) 952 = true)) hay1 hg2 rfl rfl mv_yX7_readTable q_856 hd_yX7_readTable (by decide) (Nat.le_of_ble_eq_true rfl) (by decide) dX7_readClause_111 rfl (kV0 fun gvy25 hvy25 => ?_)
              obtain ⟨hvy25, hfvy25⟩ := hvy25
              rcases hvy25 with hvy25 | hvy25
              · obtain ⟨vvy25, hvvy25, hbvy25, ⟨tkvy25, tdvy25, hkvy25, htvy25⟩, hpvy25⟩ := hvy25
                refine z_goto (tgt := 126) C dX7_readClause_114 (by decide) ?_
                exact z_vret C hr hlk dX7_readClause_126 (by decide) (by decide) ⟨rfl, rfl, rfl, Or.inl ⟨((sl, ho, wt 1, mn, st, op, ai, fa, mu, uZ tb vvy25.1.1.toNat vvy25.1.2, uZ B vvy25.1.1.toNat 1, Lz), vvy25.2), by simp only [ps_step, if_neg hwcy26, if_neg hwcy27, if_neg hwcy28, if_neg hwcy29, if_neg hwcy30, if_pos hwcy31, hvvy25]; first | done | rfl, hbvy25, ⟨tkvy25, tdvy25, hkvy25, htvy25⟩, ⟨hpvy25, hsl, hho, hmn, wt, hwt0, rfl, hW.mv (fun _ _ _ => rfl) (fun j a b => hfvy25 j (by omega) (by omega))⟩⟩, fun j j1 j2 => hfvy25 j (by omega) (by omega)⟩
              · obtain ⟨evy25, hvvy25, hxvy25, hpvy25⟩ := hvy25
                refine z_goto (tgt := 126) C dX7_readClause_114 (by decide) ?_
                exact z_vret C hr hlk dX7_readClause_126 (by decide) (by decide) ⟨rfl, rfl, rfl, Or.inr ⟨evy25, by simp only [ps_step, if_neg hwcy26, if_neg hwcy27, if_neg hwcy28, if_neg hwcy29, if_neg hwcy30, if_pos hwcy31, hvvy25]; first | done | rfl, hxvy25, ⟨hpvy25, hsl, hho, hmn, wt, hwt0, rfl, hW.mv (fun _ _ _ => rfl) (fun j a b => hfvy25 j (by omega) (by omega))⟩⟩, fun j j1 j2 => hfvy25 j (by omega) (by omega)⟩
          · refine z_aload_n C 0 dX7_readClause_82 rfl ?_
            refine z_aload_n C 1 dX7_readClause_83 rfl ?_
            refine z_iconst (z := 5) C dX7_readClause_84 rfl ?_
            refine z_iconst (z := 0) C dX7_readClause_85 rfl ?_
            refine z_bipush (z := 99) C dX7_readClause_86 (by decide) ?_
            have hwcy33 : ¬ tk_w T n f = 0 := by omega
            have hwcy34 : ¬ tk_w T n f = 1 := by omega
            have hwcy35 : ¬ tk_w T n f = 2 := by omega
            have hwcy36 : ¬ tk_w T n f = 6 := by omega
            have hwcy37 : tk_w T n f = 7 := by omega
            refine z_cV (As := [.ref (ad 883), .int (zI (5)), .int (zI (0)), .int (zI (99))]) (rest := []) (ci := 9) C (c_xTable l D A cs tt N ad _ (by omega) _ _ _ tp T hT n hn f (by omega) hg2 hg1 _ _ _ _ _ _ _ _ _ hP hsl hho B hB (5) (by decide) (0) (99) (by decide)) (lt_K hN (rfl : Nat.blt (2) 952 = true)) hay1 hg2 rfl rfl mv_yX7_readTable q_856 hd_yX7_readTable (by decide) (Nat.le_of_ble_eq_true rfl) (by decide) dX7_readClause_88 rfl (kV0 fun gvy32 hvy32 => ?_)
            obtain ⟨hvy32, hfvy32⟩ := hvy32
            rcases hvy32 with hvy32 | hvy32
            · obtain ⟨vvy32, hvvy32, hbvy32, ⟨tkvy32, tdvy32, hkvy32, htvy32⟩, hpvy32⟩ := hvy32
              refine z_goto (tgt := 126) C dX7_readClause_91 (by decide) ?_
              exact z_vret C hr hlk dX7_readClause_126 (by decide) (by decide) ⟨rfl, rfl, rfl, Or.inl ⟨((sl, ho, wt 1, mn, st, op, ai, fa, mu, uZ tb vvy32.1.1.toNat vvy32.1.2, uZ B vvy32.1.1.toNat 1, Lz), vvy32.2), by simp only [ps_step, if_neg hwcy33, if_neg hwcy34, if_neg hwcy35, if_neg hwcy36, if_pos hwcy37, hvvy32]; first | done | rfl, hbvy32, ⟨tkvy32, tdvy32, hkvy32, htvy32⟩, ⟨hpvy32, hsl, hho, hmn, wt, hwt0, rfl, hW.mv (fun _ _ _ => rfl) (fun j a b => hfvy32 j (by omega) (by omega))⟩⟩, fun j j1 j2 => hfvy32 j (by omega) (by omega)⟩
            · obtain ⟨evy32, hvvy32, hxvy32, hpvy32⟩ := hvy32
              refine z_goto (tgt := 126) C dX7_readClause_91 (by decide) ?_
              exact z_vret C hr hlk dX7_readClause_126 (by decide) (by decide) ⟨rfl, rfl, rfl, Or.inr ⟨evy32, by simp only [ps_step, if_neg hwcy33, if_neg hwcy34, if_neg hwcy35, if_neg hwcy36, if_pos hwcy37, hvvy32]; first | done | rfl, hxvy32, ⟨hpvy32, hsl, hho, hmn, wt, hwt0, rfl, hW.mv (fun _ _ _ => rfl) (fun j a b => hfvy32 j (by omega) (by omega))⟩⟩, fun j j1 j2 => hfvy32 j (by omega) (by omega)⟩
        · refine z_aload_n C 0 dX7_readClause_61 rfl ?_
          refine z_aload_n C 1 dX7_readClause_62 rfl ?_
          refine z_iconst (z := 0) C dX7_readClause_63 rfl ?_
          refine z_iconst (z := 0) C dX7_readClause_64 rfl ?_
          refine z_bipush (z := 99) C dX7_readClause_65 (by decide) ?_
          have hwcy39 : ¬ tk_w T n f = 0 := by omega
          have hwcy40 : ¬ tk_w T n f = 1 := by omega
          have hwcy41 : ¬ tk_w T n f = 2 := by omega
          have hwcy42 : tk_w T n f = 6 := by omega
          refine z_cV (As := [.ref (ad 883), .int (zI (0)), .int (zI (0)), .int (zI (99))]) (rest := []) (ci := 9) C (c_xTable l D A cs tt N ad _ (by omega) _ _ _ tp T hT n hn f (by omega) hg2 hg1 _ _ _ _ _ _ _ _ _ hP hsl hho B hB (0) (by decide) (0) (99) (by decide)) (lt_K hN (rfl : Nat.blt (2) 952 = true)) hay1 hg2 rfl rfl mv_yX7_readTable q_856 hd_yX7_readTable (by decide) (Nat.le_of_ble_eq_true rfl) (by decide) dX7_readClause_67 rfl (kV0 fun gvy38 hvy38 => ?_)
          obtain ⟨hvy38, hfvy38⟩ := hvy38
          rcases hvy38 with hvy38 | hvy38
          · obtain ⟨vvy38, hvvy38, hbvy38, ⟨tkvy38, tdvy38, hkvy38, htvy38⟩, hpvy38⟩ := hvy38
            refine z_goto (tgt := 126) C dX7_readClause_70 (by decide) ?_
            exact z_vret C hr hlk dX7_readClause_126 (by decide) (by decide) ⟨rfl, rfl, rfl, Or.inl ⟨((sl, ho, wt 1, mn, st, op, ai, fa, mu, uZ tb vvy38.1.1.toNat vvy38.1.2, uZ B vvy38.1.1.toNat 1, Lz), vvy38.2), by simp only [ps_step, if_neg hwcy39, if_neg hwcy40, if_neg hwcy41, if_pos hwcy42, hvvy38]; first | done | rfl, hbvy38, ⟨tkvy38, tdvy38, hkvy38, htvy38⟩, ⟨hpvy38, hsl, hho, hmn, wt, hwt0, rfl, hW.mv (fun _ _ _ => rfl) (fun j a b => hfvy38 j (by omega) (by omega))⟩⟩, fun j j1 j2 => hfvy38 j (by omega) (by omega)⟩
          · obtain ⟨evy38, hvvy38, hxvy38, hpvy38⟩ := hvy38
            refine z_goto (tgt := 126) C dX7_readClause_70 (by decide) ?_
            exact z_vret C hr hlk dX7_readClause_126 (by decide) (by decide) ⟨rfl, rfl, rfl, Or.inr ⟨evy38, by simp only [ps_step, if_neg hwcy39, if_neg hwcy40, if_neg hwcy41, if_pos hwcy42, hvvy38]; first | done | rfl, hxvy38, ⟨hpvy38, hsl, hho, hmn, wt, hwt0, rfl, hW.mv (fun _ _ _ => rfl) (fun j a b => hfvy38 j (by omega) (by omega))⟩⟩, fun j j1 j2 => hfvy38 j (by omega) (by omega)⟩
      · refine z_aload_n C 0 dX7_readClause_44 rfl ?_
        refine z_aload_n C 1 dX7_readClause_45 rfl ?_
        have hwcy44 : ¬ tk_w T n f = 0 := by omega
        have hwcy45 : ¬ tk_w T n f = 1 := by omega
        have hwcy46 : tk_w T n f = 2 := by omega
        refine z_cV (As := [.ref (ad 883)]) (rest := []) (ci := 9) C (c_xHour l D A cs tt N ad _ (by omega) _ _ _ tp T hT n hn f (by omega) hg2 hg1 _ _ _ _ _ _ _ _ _ hP hsl hho) (lt_K hN (rfl : Nat.blt (2) 952 = true)) hay1 hg2 rfl rfl mv_yX7_readHour q_844 hd_yX7_readHour (by decide) (Nat.le_of_ble_eq_true rfl) (by decide) dX7_readClause_46 rfl (kV0 fun gvy43 hvy43 => ?_)
        obtain ⟨hvy43, hfvy43⟩ := hvy43
        rcases hvy43 with hvy43 | hvy43
        · obtain ⟨vvy43, hvvy43, hbvy43, ⟨tkvy43, hkvy43⟩, hpvy43⟩ := hvy43
          have hqvy43 : ho < 24 := by
            by_cases e9 : 24 ≤ ho
            · exfalso; simp only [cl_fin, cl_hour, if_pos e9] at hvvy43; cases hvvy43
            · omega
          refine z_goto (tgt := 126) C dX7_readClause_49 (by decide) ?_
          exact z_vret C hr hlk dX7_readClause_126 (by decide) (by decide) ⟨rfl, rfl, rfl, Or.inl ⟨((sl, ho + 1, wt 1, mn, st, op, uZ ai (ho).toNat vvy43.1.1, uZ fa (ho).toNat vvy43.1.2.1, uZ mu (ho).toNat vvy43.1.2.2, tb, B, Lz), vvy43.2), by simp only [ps_step, if_neg hwcy44, if_neg hwcy45, if_pos hwcy46, hvvy43]; first | done | rfl, hbvy43, ⟨tkvy43, td, hkvy43, hB⟩, ⟨hpvy43, hsl, by show 0 ≤ ho + 1 ∧ ho + 1 ≤ 24; omega, hmn, wt, hwt0, rfl, hW.mv (fun _ _ _ => rfl) (fun j a b => hfvy43 j (by omega) (by omega))⟩⟩, fun j j1 j2 => hfvy43 j (by omega) (by omega)⟩
        · obtain ⟨evy43, hvvy43, hxvy43, hpvy43⟩ := hvy43
          refine z_goto (tgt := 126) C dX7_readClause_49 (by decide) ?_
          exact z_vret C hr hlk dX7_readClause_126 (by decide) (by decide) ⟨rfl, rfl, rfl, Or.inr ⟨evy43, by simp only [ps_step, if_neg hwcy44, if_neg hwcy45, if_pos hwcy46, hvvy43]; first | done | rfl, hxvy43, ⟨hpvy43, hsl, hho, hmn, wt, hwt0, rfl, hW.mv (fun _ _ _ => rfl) (fun j a b => hfvy43 j (by omega) (by omega))⟩⟩, fun j j1 j2 => hfvy43 j (by omega) (by omega)⟩
    · refine z_aload_n C 0 dX7_readClause_26 rfl ?_
      refine z_aload_n C 1 dX7_readClause_27 rfl ?_
      refine z_aload_n C 2 dX7_readClause_28 rfl ?_
      have hwcy48 : ¬ tk_w T n f = 0 := by omega
      have hwcy49 : tk_w T n f = 1 := by omega
      refine z_cV (As := [.ref (ad 883), .ref (ad 890)]) (rest := []) (ci := 9) C (c_xLayer l D A cs tt N ad _ (by omega) _ _ _ tp T hT n hn f (by omega) hg2 hg1 _ _ _ _ _ _ _ _ _ hP hsl hho _ _ _ _ hW hmn) (lt_K hN (rfl : Nat.blt (2) 952 = true)) hay1 hg2 rfl rfl mv_yX7_readLayer q_826 hd_yX7_readLayer (by decide) (Nat.le_of_ble_eq_true rfl) (by decide) dX7_readClause_29 rfl (kV0 fun gvy47 hvy47 => ?_)
      obtain ⟨hvy47, hfvy47⟩ := hvy47
      rcases hvy47 with hvy47 | hvy47
      · obtain ⟨vvy47, hvvy47, hbvy47, ⟨tkvy47, hkvy47⟩, hpvy47, hrvy47, hwvy47⟩ := hvy47
        have hqvy47 := hmn vvy47.1.1.toNat (by omega)
        have hmn9 : ∀ k, k < 4 → 0 ≤ uZ mn vvy47.1.1.toNat (mn vvy47.1.1.toNat + 1) k ∧ uZ mn vvy47.1.1.toNat (mn vvy47.1.1.toNat + 1) k ≤ 12 := uZ_r hmn (by omega)
        refine z_goto (tgt := 126) C dX7_readClause_32 (by decide) ?_
        exact z_vret C hr hlk dX7_readClause_126 (by decide) (by decide) ⟨rfl, rfl, rfl, Or.inl ⟨((sl, ho, wt 1 + 1, uZ mn vvy47.1.1.toNat (mn vvy47.1.1.toNat + 1), st, op, ai, fa, mu, tb, B, (fun j => if j = vvy47.1.1.toNat then la_ (Lz vvy47.1.1.toNat) (mn vvy47.1.1.toNat) vvy47.1.2.1 vvy47.1.2.2.1 vvy47.1.2.2.2.1 vvy47.1.2.2.2.2.1 vvy47.1.2.2.2.2.2 (wt 1) else Lz j)), vvy47.2), by simp only [ps_step, if_neg hwcy48, if_pos hwcy49, hvvy47]; first | done | rfl, hbvy47, ⟨tkvy47, td, hkvy47, hB⟩, ⟨hpvy47, hsl, hho, hmn9, uZ wt 1 (wt 1 + 1), fun k a b => (uZ_n _ _ b).trans (hwt0 k a b), uZ_s _ _ _, isWorld.o0 hwvy47⟩⟩, fun j j1 j2 => hfvy47 j (by omega) (by omega)⟩
      · obtain ⟨evy47, hvvy47, hxvy47, hpvy47, hwvy47⟩ := hvy47
        refine z_goto (tgt := 126) C dX7_readClause_32 (by decide) ?_
        exact z_vret C hr hlk dX7_readClause_126 (by decide) (by decide) ⟨rfl, rfl, rfl, Or.inr ⟨evy47, by simp only [ps_step, if_neg hwcy48, if_pos hwcy49, hvvy47]; first | done | rfl, hxvy47, ⟨hpvy47, hsl, hho, hmn, wt, hwt0, rfl, hwvy47⟩⟩, fun j j1 j2 => hfvy47 j (by omega) (by omega)⟩
  · refine z_aload_n C 0 dX7_readClause_9 rfl ?_
    refine z_aload_n C 1 dX7_readClause_10 rfl ?_
    have hwcy51 : tk_w T n f = 0 := by omega
    refine z_cV (As := [.ref (ad 883)]) (rest := []) (ci := 9) C (c_xSlope l D A cs tt N ad _ (by omega) _ _ _ tp T hT n hn f (by omega) hg2 hg1 _ _ _ _ _ _ _ _ _ hP hsl hho) (lt_K hN (rfl : Nat.blt (2) 952 = true)) hay1 hg2 rfl rfl mv_yX7_readSlope q_805 hd_yX7_readSlope (by decide) (Nat.le_of_ble_eq_true rfl) (by decide) dX7_readClause_11 rfl (kV0 fun gvy50 hvy50 => ?_)
    obtain ⟨hvy50, hfvy50⟩ := hvy50
    rcases hvy50 with hvy50 | hvy50
    · obtain ⟨vvy50, hvvy50, hbvy50, ⟨tkvy50, hkvy50⟩, hpvy50⟩ := hvy50
      have hqvy50 : sl < 4 := by
        by_cases e9 : 4 ≤ sl
        · exfalso; simp only [cl_fin, cl_slope, if_pos e9] at hvvy50; cases hvvy50
        · omega
      refine z_goto (tgt := 126) C dX7_readClause_14 (by decide) ?_
      exact z_vret C hr hlk dX7_readClause_126 (by decide) (by decide) ⟨rfl, rfl, rfl, Or.inl ⟨((sl + 1, ho, wt 1, mn, uZ st (sl).toNat vvy50.1.1, uZ op (sl).toNat vvy50.1.2, ai, fa, mu, tb, B, Lz), vvy50.2), by simp only [ps_step, if_pos hwcy51, hvvy50]; first | done | rfl, hbvy50, ⟨tkvy50, td, hkvy50, hB⟩, ⟨hpvy50, by show 0 ≤ sl + 1 ∧ sl + 1 ≤ 4; omega, hho, hmn, wt, hwt0, rfl, hW.mv (fun _ _ _ => rfl) (fun j a b => hfvy50 j (by omega) (by omega))⟩⟩, fun j j1 j2 => hfvy50 j (by omega) (by omega)⟩
    · obtain ⟨evy50, hvvy50, hxvy50, hpvy50⟩ := hvy50
      refine z_goto (tgt := 126) C dX7_readClause_14 (by decide) ?_
      exact z_vret C hr hlk dX7_readClause_126 (by decide) (by decide) ⟨rfl, rfl, rfl, Or.inr ⟨evy50, by simp only [ps_step, if_pos hwcy51, hvvy50]; first | done | rfl, hxvy50, ⟨hpvy50, hsl, hho, hmn, wt, hwt0, rfl, hW.mv (fun _ _ _ => rfl) (fun j a b => hfvy50 j (by omega) (by omega))⟩⟩, fun j j1 j2 => hfvy50 j (by omega) (by omega)⟩

