def cl_map {a b : Type} (t : a → b) (x : Except (Int × Nat) (a × Nat)) : Except (Int × Nat) (b × Nat) := match x with
  | .error e => .error e
  | .ok v => .ok (t v.1, v.2)
/-- a clause without its semicolon -/
def ps_cl (T : Nat → Int) (n : Nat) (s : Int × Int × Int × (Nat → Int) × (Nat → Int) × (Nat → Int) × (Nat → Int) × (Nat → Int) × (Nat → Int) × (Nat → Int) × (Nat → Int) × (Nat → Nat → Int)) (f : Nat) : Except (Int × Nat) ((Int × Int × Int × (Nat → Int) × (Nat → Int) × (Nat → Int) × (Nat → Int) × (Nat → Int) × (Nat → Int) × (Nat → Int) × (Nat → Int) × (Nat → Nat → Int)) × Nat) :=
  if tk_w T n f = 0 then cl_map (fun v => (s.1 + 1, s.2.1, s.2.2.1, s.2.2.2.1, uZ s.2.2.2.2.1 (s.1).toNat v.1, uZ s.2.2.2.2.2.1 (s.1).toNat v.2, s.2.2.2.2.2.2.1, s.2.2.2.2.2.2.2.1, s.2.2.2.2.2.2.2.2.1, s.2.2.2.2.2.2.2.2.2.1, s.2.2.2.2.2.2.2.2.2.2.1, s.2.2.2.2.2.2.2.2.2.2.2)) (cl_slope T n s.1 f)
  else if tk_w T n f = 1 then cl_map (fun v => (s.1, s.2.1, s.2.2.1 + 1, uZ s.2.2.2.1 v.1.toNat (s.2.2.2.1 v.1.toNat + 1), s.2.2.2.2.1, s.2.2.2.2.2.1, s.2.2.2.2.2.2.1, s.2.2.2.2.2.2.2.1, s.2.2.2.2.2.2.2.2.1, s.2.2.2.2.2.2.2.2.2.1, s.2.2.2.2.2.2.2.2.2.2.1, (fun j => if j = v.1.toNat then la_ (s.2.2.2.2.2.2.2.2.2.2.2 v.1.toNat) (s.2.2.2.1 v.1.toNat) v.2.1 v.2.2.1 v.2.2.2.1 v.2.2.2.2.1 v.2.2.2.2.2 s.2.2.1 else s.2.2.2.2.2.2.2.2.2.2.2 j))) (cl_layer T n s.1 s.2.2.2.1 f)
  else if tk_w T n f = 2 then cl_map (fun v => (s.1, s.2.1 + 1, s.2.2.1, s.2.2.2.1, s.2.2.2.2.1, s.2.2.2.2.2.1, uZ s.2.2.2.2.2.2.1 (s.2.1).toNat v.1, uZ s.2.2.2.2.2.2.2.1 (s.2.1).toNat v.2.1, uZ s.2.2.2.2.2.2.2.2.1 (s.2.1).toNat v.2.2, s.2.2.2.2.2.2.2.2.2.1, s.2.2.2.2.2.2.2.2.2.2.1, s.2.2.2.2.2.2.2.2.2.2.2)) (cl_hour T n s.2.1 f)
  else if tk_w T n f = 6 then cl_map (fun v => (s.1, s.2.1, s.2.2.1, s.2.2.2.1, s.2.2.2.2.1, s.2.2.2.2.2.1, s.2.2.2.2.2.2.1, s.2.2.2.2.2.2.2.1, s.2.2.2.2.2.2.2.2.1, uZ s.2.2.2.2.2.2.2.2.2.1 v.1.toNat v.2, uZ s.2.2.2.2.2.2.2.2.2.2.1 v.1.toNat 1, s.2.2.2.2.2.2.2.2.2.2.2)) (cl_table T n s.2.2.2.2.2.2.2.2.2.2.1 0 0 99 f)
  else if tk_w T n f = 7 then cl_map (fun v => (s.1, s.2.1, s.2.2.1, s.2.2.2.1, s.2.2.2.2.1, s.2.2.2.2.2.1, s.2.2.2.2.2.2.1, s.2.2.2.2.2.2.2.1, s.2.2.2.2.2.2.2.2.1, uZ s.2.2.2.2.2.2.2.2.2.1 v.1.toNat v.2, uZ s.2.2.2.2.2.2.2.2.2.2.1 v.1.toNat 1, s.2.2.2.2.2.2.2.2.2.2.2)) (cl_table T n s.2.2.2.2.2.2.2.2.2.2.1 5 0 99 f)
  else if tk_w T n f = 8 then cl_map (fun v => (s.1, s.2.1, s.2.2.1, s.2.2.2.1, s.2.2.2.2.1, s.2.2.2.2.2.1, s.2.2.2.2.2.2.1, s.2.2.2.2.2.2.2.1, s.2.2.2.2.2.2.2.2.1, uZ s.2.2.2.2.2.2.2.2.2.1 v.1.toNat v.2, uZ s.2.2.2.2.2.2.2.2.2.2.1 v.1.toNat 1, s.2.2.2.2.2.2.2.2.2.2.2)) (cl_table T n s.2.2.2.2.2.2.2.2.2.2.1 10 1 9999 f)
  else .error (1, f)
theorem ps_step_cl (T : Nat → Int) (n : Nat) (s : Int × Int × Int × (Nat → Int) × (Nat → Int) × (Nat → Int) × (Nat → Int) × (Nat → Int) × (Nat → Int) × (Nat → Int) × (Nat → Int) × (Nat → Nat → Int)) (f : Nat) : ps_step T n s f = cl_fin T n (ps_cl T n s f) := by
  unfold ps_step ps_cl
  by_cases h0 : tk_w T n f = 0
  · rw [if_pos h0, if_pos h0]
    cases cl_slope T n s.1 f with
    | error e => rfl
    | ok v =>
      by_cases h9 : tk_so T n v.2 = 3
      · simp only [cl_fin, cl_map, if_pos h9]
      · simp only [cl_fin, cl_map, if_neg h9]
  rw [if_neg h0, if_neg h0]
  by_cases h1 : tk_w T n f = 1
  · rw [if_pos h1, if_pos h1]
    cases cl_layer T n s.1 s.2.2.2.1 f with
    | error e => rfl
    | ok v =>
      by_cases h9 : tk_so T n v.2 = 3
      · simp only [cl_fin, cl_map, if_pos h9]
      · simp only [cl_fin, cl_map, if_neg h9]
  rw [if_neg h1, if_neg h1]
  by_cases h2 : tk_w T n f = 2
  · rw [if_pos h2, if_pos h2]
    cases cl_hour T n s.2.1 f with
    | error e => rfl
    | ok v =>
      by_cases h9 : tk_so T n v.2 = 3
      · simp only [cl_fin, cl_map, if_pos h9]
      · simp only [cl_fin, cl_map, if_neg h9]
  rw [if_neg h2, if_neg h2]
  by_cases h6 : tk_w T n f = 6
  · rw [if_pos h6, if_pos h6]
    cases cl_table T n s.2.2.2.2.2.2.2.2.2.2.1 0 0 99 f with
    | error e => rfl
    | ok v =>
      by_cases h9 : tk_so T n v.2 = 3
      · simp only [cl_fin, cl_map, if_pos h9]
      · simp only [cl_fin, cl_map, if_neg h9]
  rw [if_neg h6, if_neg h6]
  by_cases h7 : tk_w T n f = 7
  · rw [if_pos h7, if_pos h7]
    cases cl_table T n s.2.2.2.2.2.2.2.2.2.2.1 5 0 99 f with
    | error e => rfl
    | ok v =>
      by_cases h9 : tk_so T n v.2 = 3
      · simp only [cl_fin, cl_map, if_pos h9]
      · simp only [cl_fin, cl_map, if_neg h9]
  rw [if_neg h7, if_neg h7]
  by_cases h8 : tk_w T n f = 8
  · rw [if_pos h8, if_pos h8]
    cases cl_table T n s.2.2.2.2.2.2.2.2.2.2.1 10 1 9999 f with
    | error e => rfl
    | ok v =>
      by_cases h9 : tk_so T n v.2 = 3
      · simp only [cl_fin, cl_map, if_pos h9]
      · simp only [cl_fin, cl_map, if_neg h9]
  rw [if_neg h8, if_neg h8]
  rfl
theorem ps_step_er {T : Nat → Int} {n : Nat} {s : Int × Int × Int × (Nat → Int) × (Nat → Int) × (Nat → Int) × (Nat → Int) × (Nat → Int) × (Nat → Int) × (Nat → Int) × (Nat → Int) × (Nat → Nat → Int)} {f : Nat} {e : Int × Nat} (h : ps_cl T n s f = .error e) : ps_step T n s f = .error e := by
  rw [ps_step_cl, h]
  rfl
theorem ps_step_ok {T : Nat → Int} {n : Nat} {s : Int × Int × Int × (Nat → Int) × (Nat → Int) × (Nat → Int) × (Nat → Int) × (Nat → Int) × (Nat → Int) × (Nat → Int) × (Nat → Int) × (Nat → Nat → Int)} {f : Nat} {v : (Int × Int × Int × (Nat → Int) × (Nat → Int) × (Nat → Int) × (Nat → Int) × (Nat → Int) × (Nat → Int) × (Nat → Int) × (Nat → Int) × (Nat → Nat → Int)) × Nat} (h : ps_cl T n s f = .ok v) (h3 : tk_so T n v.2 = 3) : ps_step T n s f = .ok (v.1, tk_nx T n v.2) := by
  rw [ps_step_cl, h]
  simp only [cl_fin, if_pos h3]
theorem ps_step_ns {T : Nat → Int} {n : Nat} {s : Int × Int × Int × (Nat → Int) × (Nat → Int) × (Nat → Int) × (Nat → Int) × (Nat → Int) × (Nat → Int) × (Nat → Int) × (Nat → Int) × (Nat → Nat → Int)} {f : Nat} {v : (Int × Int × Int × (Nat → Int) × (Nat → Int) × (Nat → Int) × (Nat → Int) × (Nat → Int) × (Nat → Int) × (Nat → Int) × (Nat → Int) × (Nat → Nat → Int)) × Nat} (h : ps_cl T n s f = .ok v) (h3 : tk_so T n v.2 ≠ 3) : ps_step T n s f = .error (1, v.2) := by
  rw [ps_step_cl, h]
  simp only [cl_fin, if_neg h3]

set_option maxRecDepth 100000 in
set_option maxHeartbeats 4000000 in
theorem c_yClause1 (l : Launch) (D : va_G) (A : Nat → Prop) (cs : Nat → ClassId) (tt : Nat) (N : Nat) (ad : Nat → Nat) (g : Nat → va_E) (i : Nat) (hN : i + 30 ≤ N) (F : Nat → Int) (hg : g i = mC ad i F) (tp : Nat → Int) (ha13 : g (i + 13) = iA cs 900 tp) (T : Nat → Int) (n : Nat) (hn : n ≤ 900) (hTb : ∀ k, k < n → 0 ≤ T k ∧ T k ≤ 255) (hTt : ∀ k, k < n → tp k = T k) (htp : ∀ k, k < 900 → 0 ≤ tp k ∧ tp k ≤ 255) (f : Nat) (hk : tkR T n F f) (h38 : F 38 = 0) (hfl : f < n) (sl ho nm : Int) (mn st op ai fa mu tb B : Nat → Int) (Lz : Nat → Nat → Int) (hX : xTx cs g i F (sl, ho, nm, mn, st, op, ai, fa, mu, tb, B, Lz)) : zM l yX10_clause1 cX10_clause1 2 none ({ frames := 6, cells := 0, slots := 0, locals := 360 } : Room) D A cs tt N ad g [.ref (ad i)] (rV0 N ad fun g' => (∃ F' : Nat → Int, g' i = mC ad i F' ∧ (∀ f, f ≠ 24 → f ≠ 32 → f ≠ 33 → f ≠ 35 → f ≠ 36 → f ≠ 37 → f ≠ 38 → f ≠ 47 → f ≠ 48 → f ≠ 49 → F' f = F f) ∧ ((∃ v, ps_cl T n (sl, ho, nm, mn, st, op, ai, fa, mu, tb, B, Lz) f = .ok v ∧ F' 38 = 0 ∧ F' 24 = F 24 ∧ f < v.2 ∧ tkR T n F' v.2 ∧ xTx cs g' i F' v.1) ∨ (∃ e : Int × Nat, ps_cl T n (sl, ho, nm, mn, st, op, ai, fa, mu, tb, B, Lz) f = .error e ∧ F' 38 = e.1 ∧ F' 24 = (e.2 : Int) ∧ (1 ≤ e.1 ∧ e.1 ≤ 5) ∧ (∃ f9, tkR T n F' f9) ∧ okTx cs g' i F'))) ∧ ∀ j, j ≠ i → j < i + 16 ∨ i + 23 < j → g' j = g j) := by
  have hay1 : zAt ad (i) (ad i) := rfl
  have hay2 : zAt ad (i + 13) (ad (i + 13)) := rfl
  have hsry3 := srt_b T n f
  have hvly4 := vlu_b hTb f
  have hwby5 := tk_w_b T n f
  have hfny6 := hk.1
  have hwb := tk_w_b T n f
  refine z_of (by decide) (Nat.le_of_ble_eq_true rfl) ?_
  intro pZ eZ sZ mZ below meth cZ C hr hlk hnm
  refine z_lv (lv' := [(0, .ref (ad i))]) [0] rfl ?_
  refine z_aload_n C 0 dX10_clause1_0 rfl ?_
  refine z_get (v := .int (zI (srt (tk_so T n f)))) C (lt_A0 hN rfl) hay1 hg rfl inA_X10 35 (by decide) q_1494 rfl (fv (F := F) (f := 35) hk.2.2.2.2.1) dX10_clause1_1 ?_
  refine z_iconst (z := 1) C dX10_clause1_4 rfl ?_
  refine z_icmp_ne (tgt := 15) C dX10_clause1_5 (by decide) (by omega) (by omega) (fun hby7 => ?_) (fun hby7 => ?_)
  · have hw1 : tk_w T n f = -1 := tk_w_let (fun e9 => by have := srt1.mpr e9; omega)
    refine z_iconst (z := -1) C dX10_clause1_15 rfl ?_
    refine z_istore_n (lv' := [(1, .int (zI (-1))), (0, .ref (ad i))]) C dX10_clause1_16 rfl (by decide) rfl ?_
    refine z_iload_n C 0 dX10_clause1_17 rfl ?_
    refine z_if_ne (tgt := 28) C dX10_clause1_18 (by decide) (by omega) (fun _ => ?_) (fun h => absurd h (by omega))
    refine z_iload_n C 0 dX10_clause1_28 rfl ?_
    refine z_iconst (z := 1) C dX10_clause1_29 rfl ?_
    refine z_icmp_ne (tgt := 40) C dX10_clause1_30 (by decide) (by omega) (by omega) (fun _ => ?_) (fun h => absurd h (by omega))
    refine z_iload_n C 0 dX10_clause1_40 rfl ?_
    refine z_iconst (z := 2) C dX10_clause1_41 rfl ?_
    refine z_icmp_ne (tgt := 52) C dX10_clause1_42 (by decide) (by omega) (by omega) (fun _ => ?_) (fun h => absurd h (by omega))
    refine z_iload_n C 0 dX10_clause1_52 rfl ?_
    refine z_bipush (z := 6) C dX10_clause1_53 (by decide) ?_
    refine z_bipush (z := 8) C dX10_clause1_55 (by decide) ?_
    refine z_cS (As := [.int (zI (-1)), .int (zI (6)), .int (zI (8))]) (rest := []) C (c_X10_within l D A cs tt N ad _ (-1) (by omega) (6) (by omega) (8) (by omega)) ms_yX10_within q_1690 hd_yX10_within (by decide) (Nat.le_of_ble_eq_true rfl) (by decide) dX10_clause1_57 rfl (kI0 fun vy8 gvy8 hvy8 => ?_)
    obtain ⟨hvy8, rfl⟩ := hvy8
    obtain rfl : vy8 = 0 := by omega
    refine z_if_eq (tgt := 70) C dX10_clause1_60 (by decide) (by omega) (fun _ => ?_) (fun h => absurd h (by omega))
    refine z_aload_n C 1 dX10_clause1_70 rfl ?_
    refine z_iconst (z := 0) C dX10_clause1_71 rfl ?_
    refine z_iconst (z := 1) C dX10_clause1_72 rfl ?_
    have h33vy9 : F 33 = (f : Int) := hk.2.2.1
    have h24vy9 : F 24 = F 24 := rfl
    have htvy9 : tkR T n F f := hk
    refine z_cV (As := [.int (zI (0)), .int (zI (1))]) (rest := []) (ci := 12) C (c_yWants l D A cs tt N ad _ i hN _ hg h38 (0) (by omega) (1) (by omega)) (lt_A0 hN rfl) hay1 hg rfl rfl mv_yX10_wants q_1682 hd_yX10_wants (by decide) (Nat.le_of_ble_eq_true rfl) (by decide) dX10_clause1_73 rfl (kI0 fun vy9 gvy9 hvy9 => ?_)
    obtain ⟨⟨Fvy9, hcvy9, hqvy9, hFvy9⟩, hfvy9⟩ := hvy9
    obtain ⟨rfl, hevy9, hbvy9⟩ : vy9 = 0 ∧ Fvy9 38 = 1 ∧ Fvy9 24 = (f : Int) := by omega
    clear hqvy9 h33vy9 h24vy9
    have hkvy9 : tkR T n Fvy9 f := tkR.w htvy9 hFvy9 (by omega)
    refine z_pop C dX10_clause1_76 rfl ?_
    have hFy10 : ∀ f, f ≠ 24 → f ≠ 32 → f ≠ 33 → f ≠ 35 → f ≠ 36 → f ≠ 37 → f ≠ 38 → f ≠ 47 → f ≠ 48 → f ≠ 49 → Fvy9 f = F f := fun f n24 n32 n33 n35 n36 n37 n38 n47 n48 n49 => (hFvy9 f n24 n38)
    have hwcy11 : ¬ tk_w T n f = 0 := by omega
    have hwcy12 : ¬ tk_w T n f = 1 := by omega
    have hwcy13 : ¬ tk_w T n f = 2 := by omega
    have hwcy14 : ¬ tk_w T n f = 6 := by omega
    have hwcy15 : ¬ tk_w T n f = 7 := by omega
    have hwcy16 : ¬ tk_w T n f = 8 := by omega
    have hey17 : Fvy9 24 = (f : Int) := hbvy9
    have hey18 : Fvy9 38 = 1 := hevy9
    have hey19 : Fvy9 32 = ((tk_to T n f : Nat) : Int) := ((hFvy9 32 (by decide) (by decide)).trans hk.2.1)
    have hey20 : Fvy9 47 = F 47 := (hFvy9 47 (by decide) (by decide))
    have hey21 : Fvy9 48 = F 48 := (hFvy9 48 (by decide) (by decide))
    have hey22 : Fvy9 49 = F 49 := (hFvy9 49 (by decide) (by decide))
    have htx9 : okTx cs gvy9 i Fvy9 := hX.ok.mv (fun j a b => by rw [hfvy9 _ (by omega)]) ⟨by omega, by omega, by omega, by have := hk.2.1; omega⟩
    exact z_vret C hr hlk dX10_clause1_77 (by decide) (by decide) ⟨rfl, rfl, rfl, ⟨_, hcvy9, hFy10, Or.inr ⟨(1, f), by simp only [ps_cl, if_neg hwcy11, if_neg hwcy12, if_neg hwcy13, if_neg hwcy14, if_neg hwcy15, if_neg hwcy16], by show Fvy9 38 = 1; omega, by show Fvy9 24 = ((f : Nat) : Int); omega, by show 1 ≤ 1 ∧ 1 ≤ 5; omega, ⟨_, hkvy9⟩, htx9⟩⟩, fun j j1 j2 => by rw [hfvy9 _ (by omega)]⟩
  · refine z_aload_n C 0 dX10_clause1_8 rfl ?_
    refine z_get (v := .int (zI (tk_w T n f))) C (lt_A0 hN rfl) hay1 hg rfl inA_X10 37 (by decide) q_1496 rfl (fv (F := F) (f := 37) hk.2.2.2.2.2.2.1) dX10_clause1_9 ?_
    refine z_goto (tgt := 16) C dX10_clause1_12 (by decide) ?_
    refine z_istore_n (lv' := [(1, .int (zI (tk_w T n f))), (0, .ref (ad i))]) C dX10_clause1_16 rfl (by decide) rfl ?_
    refine z_iload_n C 0 dX10_clause1_17 rfl ?_
    refine z_if_ne (tgt := 28) C dX10_clause1_18 (by decide) (by omega) (fun hby23 => ?_) (fun hby23 => ?_)
    · refine z_iload_n C 0 dX10_clause1_28 rfl ?_
      refine z_iconst (z := 1) C dX10_clause1_29 rfl ?_
      refine z_icmp_ne (tgt := 40) C dX10_clause1_30 (by decide) (by omega) (by omega) (fun hby24 => ?_) (fun hby24 => ?_)
      · refine z_iload_n C 0 dX10_clause1_40 rfl ?_
        refine z_iconst (z := 2) C dX10_clause1_41 rfl ?_
        refine z_icmp_ne (tgt := 52) C dX10_clause1_42 (by decide) (by omega) (by omega) (fun hby25 => ?_) (fun hby25 => ?_)
        · refine z_iload_n C 0 dX10_clause1_52 rfl ?_
          refine z_bipush (z := 6) C dX10_clause1_53 (by decide) ?_
          refine z_bipush (z := 8) C dX10_clause1_55 (by decide) ?_
          refine z_cS (As := [.int (zI (tk_w T n f)), .int (zI (6)), .int (zI (8))]) (rest := []) C (c_X10_within l D A cs tt N ad _ (tk_w T n f) (by omega) (6) (by omega) (8) (by omega)) ms_yX10_within q_1690 hd_yX10_within (by decide) (Nat.le_of_ble_eq_true rfl) (by decide) dX10_clause1_57 rfl (kI0 fun vy26 gvy26 hvy26 => ?_)
          obtain ⟨hvy26, rfl⟩ := hvy26
          rcases hvy26 with ⟨rfl, hxvy26⟩ | ⟨rfl, hxvy26⟩
          · refine z_if_eq (tgt := 70) C dX10_clause1_60 (by decide) (by omega) (fun h => absurd h (by omega)) (fun _ => ?_)
            refine z_aload_n C 1 dX10_clause1_63 rfl ?_
            rcases (show tk_w T n f = 6 ∨ tk_w T n f = 7 ∨ tk_w T n f = 8 by omega) with hwd | hwd | hwd
            · have hwcy28 : ¬ tk_w T n f = 0 := by omega
              have hwcy29 : ¬ tk_w T n f = 1 := by omega
              have hwcy30 : ¬ tk_w T n f = 2 := by omega
              have hwcy31 : tk_w T n f = 6 := by omega
              refine z_cV (As := []) (rest := []) (ci := 12) C (c_yTable0 l D A cs tt N ad _ i hN _ hg _ ha13 T n hn hTb hTt htp f hk h38 hfl sl ho nm mn st op ai fa mu tb B Lz hX hwd) (lt_A0 hN rfl) hay1 hg rfl rfl mv_yX10_table1 q_1713 hd_yX10_table1 (by decide) (Nat.le_of_ble_eq_true rfl) (by decide) dX10_clause1_64 rfl (kV0 fun gvy27 hvy27 => ?_)
              obtain ⟨⟨Fvy27, hcvy27, hFvy27, hqvy27⟩, hfvy27⟩ := hvy27
              rcases hqvy27 with hqvy27 | hqvy27
              · obtain ⟨vvy27, hvvy27, havy27, hbvy27, hlvy27, hkvy27, hxvy27⟩ := hqvy27
                refine z_goto (tgt := 77) C dX10_clause1_67 (by decide) ?_
                exact z_vret C hr hlk dX10_clause1_77 (by decide) (by decide) ⟨rfl, rfl, rfl, ⟨_, hcvy27, hFvy27, Or.inl ⟨((sl, ho, nm, mn, st, op, ai, fa, mu, uZ tb vvy27.1.1.toNat vvy27.1.2, uZ B vvy27.1.1.toNat 1, Lz), vvy27.2), by simp only [ps_cl, if_neg hwcy28, if_neg hwcy29, if_neg hwcy30, if_pos hwcy31, cl_map, hvvy27], havy27, hbvy27, hlvy27, hkvy27, hxvy27⟩⟩, fun j j1 j2 => by rw [hfvy27 _ (by omega) (by omega)]⟩
              · obtain ⟨evy27, hvvy27, havy27, hbvy27, hlvy27, hkvy27, hxvy27⟩ := hqvy27
                refine z_goto (tgt := 77) C dX10_clause1_67 (by decide) ?_
                exact z_vret C hr hlk dX10_clause1_77 (by decide) (by decide) ⟨rfl, rfl, rfl, ⟨_, hcvy27, hFvy27, Or.inr ⟨evy27, by simp only [ps_cl, if_neg hwcy28, if_neg hwcy29, if_neg hwcy30, if_pos hwcy31, cl_map, hvvy27], havy27, hbvy27, hlvy27, hkvy27, hxvy27⟩⟩, fun j j1 j2 => by rw [hfvy27 _ (by omega) (by omega)]⟩
            · have hwcy33 : ¬ tk_w T n f = 0 := by omega
              have hwcy34 : ¬ tk_w T n f = 1 := by omega
              have hwcy35 : ¬ tk_w T n f = 2 := by omega
              have hwcy36 : ¬ tk_w T n f = 6 := by omega
              have hwcy37 : tk_w T n f = 7 := by omega
              refine z_cV (As := []) (rest := []) (ci := 12) C (c_yTable1 l D A cs tt N ad _ i hN _ hg _ ha13 T n hn hTb hTt htp f hk h38 hfl sl ho nm mn st op ai fa mu tb B Lz hX hwd) (lt_A0 hN rfl) hay1 hg rfl rfl mv_yX10_table1 q_1713 hd_yX10_table1 (by decide) (Nat.le_of_ble_eq_true rfl) (by decide) dX10_clause1_64 rfl (kV0 fun gvy32 hvy32 => ?_)
              obtain ⟨⟨Fvy32, hcvy32, hFvy32, hqvy32⟩, hfvy32⟩ := hvy32
              rcases hqvy32 with hqvy32 | hqvy32
              · obtain ⟨vvy32, hvvy32, havy32, hbvy32, hlvy32, hkvy32, hxvy32⟩ := hqvy32
                refine z_goto (tgt := 77) C dX10_clause1_67 (by decide) ?_
                exact z_vret C hr hlk dX10_clause1_77 (by decide) (by decide) ⟨rfl, rfl, rfl, ⟨_, hcvy32, hFvy32, Or.inl ⟨((sl, ho, nm, mn, st, op, ai, fa, mu, uZ tb vvy32.1.1.toNat vvy32.1.2, uZ B vvy32.1.1.toNat 1, Lz), vvy32.2), by simp only [ps_cl, if_neg hwcy33, if_neg hwcy34, if_neg hwcy35, if_neg hwcy36, if_pos hwcy37, cl_map, hvvy32], havy32, hbvy32, hlvy32, hkvy32, hxvy32⟩⟩, fun j j1 j2 => by rw [hfvy32 _ (by omega) (by omega)]⟩
              · obtain ⟨evy32, hvvy32, havy32, hbvy32, hlvy32, hkvy32, hxvy32⟩ := hqvy32
                refine z_goto (tgt := 77) C dX10_clause1_67 (by decide) ?_
                exact z_vret C hr hlk dX10_clause1_77 (by decide) (by decide) ⟨rfl, rfl, rfl, ⟨_, hcvy32, hFvy32, Or.inr ⟨evy32, by simp only [ps_cl, if_neg hwcy33, if_neg hwcy34, if_neg hwcy35, if_neg hwcy36, if_pos hwcy37, cl_map, hvvy32], havy32, hbvy32, hlvy32, hkvy32, hxvy32⟩⟩, fun j j1 j2 => by rw [hfvy32 _ (by omega) (by omega)]⟩
            · have hwcy39 : ¬ tk_w T n f = 0 := by omega
              have hwcy40 : ¬ tk_w T n f = 1 := by omega
              have hwcy41 : ¬ tk_w T n f = 2 := by omega
              have hwcy42 : ¬ tk_w T n f = 6 := by omega
              have hwcy43 : ¬ tk_w T n f = 7 := by omega
              have hwcy44 : tk_w T n f = 8 := by omega
              refine z_cV (As := []) (rest := []) (ci := 12) C (c_yTable2 l D A cs tt N ad _ i hN _ hg _ ha13 T n hn hTb hTt htp f hk h38 hfl sl ho nm mn st op ai fa mu tb B Lz hX hwd) (lt_A0 hN rfl) hay1 hg rfl rfl mv_yX10_table1 q_1713 hd_yX10_table1 (by decide) (Nat.le_of_ble_eq_true rfl) (by decide) dX10_clause1_64 rfl (kV0 fun gvy38 hvy38 => ?_)
              obtain ⟨⟨Fvy38, hcvy38, hFvy38, hqvy38⟩, hfvy38⟩ := hvy38
              rcases hqvy38 with hqvy38 | hqvy38
              · obtain ⟨vvy38, hvvy38, havy38, hbvy38, hlvy38, hkvy38, hxvy38⟩ := hqvy38
                refine z_goto (tgt := 77) C dX10_clause1_67 (by decide) ?_
                exact z_vret C hr hlk dX10_clause1_77 (by decide) (by decide) ⟨rfl, rfl, rfl, ⟨_, hcvy38, hFvy38, Or.inl ⟨((sl, ho, nm, mn, st, op, ai, fa, mu, uZ tb vvy38.1.1.toNat vvy38.1.2, uZ B vvy38.1.1.toNat 1, Lz), vvy38.2), by simp only [ps_cl, if_neg hwcy39, if_neg hwcy40, if_neg hwcy41, if_neg hwcy42, if_neg hwcy43, if_pos hwcy44, cl_map, hvvy38], havy38, hbvy38, hlvy38, hkvy38, hxvy38⟩⟩, fun j j1 j2 => by rw [hfvy38 _ (by omega) (by omega)]⟩
              · obtain ⟨evy38, hvvy38, havy38, hbvy38, hlvy38, hkvy38, hxvy38⟩ := hqvy38
                refine z_goto (tgt := 77) C dX10_clause1_67 (by decide) ?_
                exact z_vret C hr hlk dX10_clause1_77 (by decide) (by decide) ⟨rfl, rfl, rfl, ⟨_, hcvy38, hFvy38, Or.inr ⟨evy38, by simp only [ps_cl, if_neg hwcy39, if_neg hwcy40, if_neg hwcy41, if_neg hwcy42, if_neg hwcy43, if_pos hwcy44, cl_map, hvvy38], havy38, hbvy38, hlvy38, hkvy38, hxvy38⟩⟩, fun j j1 j2 => by rw [hfvy38 _ (by omega) (by omega)]⟩
          · refine z_if_eq (tgt := 70) C dX10_clause1_60 (by decide) (by omega) (fun _ => ?_) (fun h => absurd h (by omega))
            refine z_aload_n C 1 dX10_clause1_70 rfl ?_
            refine z_iconst (z := 0) C dX10_clause1_71 rfl ?_
            refine z_iconst (z := 1) C dX10_clause1_72 rfl ?_
            have h33vy45 : F 33 = (f : Int) := hk.2.2.1
            have h24vy45 : F 24 = F 24 := rfl
            have htvy45 : tkR T n F f := hk
            refine z_cV (As := [.int (zI (0)), .int (zI (1))]) (rest := []) (ci := 12) C (c_yWants l D A cs tt N ad _ i hN _ hg h38 (0) (by omega) (1) (by omega)) (lt_A0 hN rfl) hay1 hg rfl rfl mv_yX10_wants q_1682 hd_yX10_wants (by decide) (Nat.le_of_ble_eq_true rfl) (by decide) dX10_clause1_73 rfl (kI0 fun vy45 gvy45 hvy45 => ?_)
            obtain ⟨⟨Fvy45, hcvy45, hqvy45, hFvy45⟩, hfvy45⟩ := hvy45
            obtain ⟨rfl, hevy45, hbvy45⟩ : vy45 = 0 ∧ Fvy45 38 = 1 ∧ Fvy45 24 = (f : Int) := by omega
            clear hqvy45 h33vy45 h24vy45
            have hkvy45 : tkR T n Fvy45 f := tkR.w htvy45 hFvy45 (by omega)
            refine z_pop C dX10_clause1_76 rfl ?_
            have hFy46 : ∀ f, f ≠ 24 → f ≠ 32 → f ≠ 33 → f ≠ 35 → f ≠ 36 → f ≠ 37 → f ≠ 38 → f ≠ 47 → f ≠ 48 → f ≠ 49 → Fvy45 f = F f := fun f n24 n32 n33 n35 n36 n37 n38 n47 n48 n49 => (hFvy45 f n24 n38)
            have hwcy47 : ¬ tk_w T n f = 0 := by omega
            have hwcy48 : ¬ tk_w T n f = 1 := by omega
            have hwcy49 : ¬ tk_w T n f = 2 := by omega
            have hwcy50 : ¬ tk_w T n f = 6 := by omega
            have hwcy51 : ¬ tk_w T n f = 7 := by omega
            have hwcy52 : ¬ tk_w T n f = 8 := by omega
            have hey53 : Fvy45 24 = (f : Int) := hbvy45
            have hey54 : Fvy45 38 = 1 := hevy45
            have hey55 : Fvy45 32 = ((tk_to T n f : Nat) : Int) := ((hFvy45 32 (by decide) (by decide)).trans hk.2.1)
            have hey56 : Fvy45 47 = F 47 := (hFvy45 47 (by decide) (by decide))
            have hey57 : Fvy45 48 = F 48 := (hFvy45 48 (by decide) (by decide))
            have hey58 : Fvy45 49 = F 49 := (hFvy45 49 (by decide) (by decide))
            have htx9 : okTx cs gvy45 i Fvy45 := hX.ok.mv (fun j a b => by rw [hfvy45 _ (by omega)]) ⟨by omega, by omega, by omega, by have := hk.2.1; omega⟩
            exact z_vret C hr hlk dX10_clause1_77 (by decide) (by decide) ⟨rfl, rfl, rfl, ⟨_, hcvy45, hFy46, Or.inr ⟨(1, f), by simp only [ps_cl, if_neg hwcy47, if_neg hwcy48, if_neg hwcy49, if_neg hwcy50, if_neg hwcy51, if_neg hwcy52], by show Fvy45 38 = 1; omega, by show Fvy45 24 = ((f : Nat) : Int); omega, by show 1 ≤ 1 ∧ 1 ≤ 5; omega, ⟨_, hkvy45⟩, htx9⟩⟩, fun j j1 j2 => by rw [hfvy45 _ (by omega)]⟩
        · refine z_aload_n C 1 dX10_clause1_45 rfl ?_
          have hwcy60 : ¬ tk_w T n f = 0 := by omega
          have hwcy61 : ¬ tk_w T n f = 1 := by omega
          have hwcy62 : tk_w T n f = 2 := by omega
          refine z_cV (As := []) (rest := []) (ci := 12) C (c_yHour l D A cs tt N ad _ i hN _ hg _ ha13 T n hn hTb hTt htp f hk h38 hfl sl ho nm mn st op ai fa mu tb B Lz hX) (lt_A0 hN rfl) hay1 hg rfl rfl mv_yX10_hour1 q_1705 hd_yX10_hour1 (by decide) (Nat.le_of_ble_eq_true rfl) (by decide) dX10_clause1_46 rfl (kV0 fun gvy59 hvy59 => ?_)
          obtain ⟨⟨Fvy59, hcvy59, hFvy59, hqvy59⟩, hfvy59⟩ := hvy59
          rcases hqvy59 with hqvy59 | hqvy59
          · obtain ⟨vvy59, hvvy59, havy59, hbvy59, hlvy59, hkvy59, hxvy59⟩ := hqvy59
            refine z_goto (tgt := 77) C dX10_clause1_49 (by decide) ?_
            exact z_vret C hr hlk dX10_clause1_77 (by decide) (by decide) ⟨rfl, rfl, rfl, ⟨_, hcvy59, hFvy59, Or.inl ⟨((sl, ho + 1, nm, mn, st, op, uZ ai (ho).toNat vvy59.1.1, uZ fa (ho).toNat vvy59.1.2.1, uZ mu (ho).toNat vvy59.1.2.2, tb, B, Lz), vvy59.2), by simp only [ps_cl, if_neg hwcy60, if_neg hwcy61, if_pos hwcy62, cl_map, hvvy59], havy59, hbvy59, hlvy59, hkvy59, hxvy59⟩⟩, fun j j1 j2 => by rw [hfvy59 _ (by omega) (by omega)]⟩
          · obtain ⟨evy59, hvvy59, havy59, hbvy59, hlvy59, hkvy59, hxvy59⟩ := hqvy59
            refine z_goto (tgt := 77) C dX10_clause1_49 (by decide) ?_
            exact z_vret C hr hlk dX10_clause1_77 (by decide) (by decide) ⟨rfl, rfl, rfl, ⟨_, hcvy59, hFvy59, Or.inr ⟨evy59, by simp only [ps_cl, if_neg hwcy60, if_neg hwcy61, if_pos hwcy62, cl_map, hvvy59], havy59, hbvy59, hlvy59, hkvy59, hxvy59⟩⟩, fun j j1 j2 => by rw [hfvy59 _ (by omega) (by omega)]⟩
      · refine z_aload_n C 1 dX10_clause1_33 rfl ?_
        have hwcy64 : ¬ tk_w T n f = 0 := by omega
        have hwcy65 : tk_w T n f = 1 := by omega
        refine z_cV (As := []) (rest := []) (ci := 12) C (c_yLayer l D A cs tt N ad _ i hN _ hg _ ha13 T n hn hTb hTt htp f hk h38 hfl sl ho nm mn st op ai fa mu tb B Lz hX) (lt_A0 hN rfl) hay1 hg rfl rfl mv_yX10_layer1 q_1693 hd_yX10_layer1 (by decide) (Nat.le_of_ble_eq_true rfl) (by decide) dX10_clause1_34 rfl (kV0 fun gvy63 hvy63 => ?_)
        obtain ⟨⟨Fvy63, hcvy63, hFvy63, hqvy63⟩, hfvy63⟩ := hvy63
        rcases hqvy63 with hqvy63 | hqvy63
        · obtain ⟨vvy63, hvvy63, havy63, hbvy63, hlvy63, hkvy63, hxvy63⟩ := hqvy63
          refine z_goto (tgt := 77) C dX10_clause1_37 (by decide) ?_
          exact z_vret C hr hlk dX10_clause1_77 (by decide) (by decide) ⟨rfl, rfl, rfl, ⟨_, hcvy63, hFvy63, Or.inl ⟨((sl, ho, nm + 1, uZ mn vvy63.1.1.toNat (mn vvy63.1.1.toNat + 1), st, op, ai, fa, mu, tb, B, (fun j => if j = vvy63.1.1.toNat then la_ (Lz vvy63.1.1.toNat) (mn vvy63.1.1.toNat) vvy63.1.2.1 vvy63.1.2.2.1 vvy63.1.2.2.2.1 vvy63.1.2.2.2.2.1 vvy63.1.2.2.2.2.2 nm else Lz j)), vvy63.2), by simp only [ps_cl, if_neg hwcy64, if_pos hwcy65, cl_map, hvvy63], havy63, hbvy63, hlvy63, hkvy63, hxvy63⟩⟩, fun j j1 j2 => by rw [hfvy63 _ (by omega) (by omega)]⟩
        · obtain ⟨evy63, hvvy63, havy63, hbvy63, hlvy63, hkvy63, hxvy63⟩ := hqvy63
          refine z_goto (tgt := 77) C dX10_clause1_37 (by decide) ?_
          exact z_vret C hr hlk dX10_clause1_77 (by decide) (by decide) ⟨rfl, rfl, rfl, ⟨_, hcvy63, hFvy63, Or.inr ⟨evy63, by simp only [ps_cl, if_neg hwcy64, if_pos hwcy65, cl_map, hvvy63], havy63, hbvy63, hlvy63, hkvy63, hxvy63⟩⟩, fun j j1 j2 => by rw [hfvy63 _ (by omega) (by omega)]⟩
    · refine z_aload_n C 1 dX10_clause1_21 rfl ?_
      have hwcy67 : tk_w T n f = 0 := by omega
      refine z_cV (As := []) (rest := []) (ci := 12) C (c_ySlope l D A cs tt N ad _ i hN _ hg _ ha13 T n hn hTb hTt htp f hk h38 hfl sl ho nm mn st op ai fa mu tb B Lz hX) (lt_A0 hN rfl) hay1 hg rfl rfl mv_yX10_slope1 q_1678 hd_yX10_slope1 (by decide) (Nat.le_of_ble_eq_true rfl) (by decide) dX10_clause1_22 rfl (kV0 fun gvy66 hvy66 => ?_)
      obtain ⟨⟨Fvy66, hcvy66, hFvy66, hqvy66⟩, hfvy66⟩ := hvy66
      rcases hqvy66 with hqvy66 | hqvy66
      · obtain ⟨vvy66, hvvy66, havy66, hbvy66, hlvy66, hkvy66, hxvy66⟩ := hqvy66
        refine z_goto (tgt := 77) C dX10_clause1_25 (by decide) ?_
        exact z_vret C hr hlk dX10_clause1_77 (by decide) (by decide) ⟨rfl, rfl, rfl, ⟨_, hcvy66, hFvy66, Or.inl ⟨((sl + 1, ho, nm, mn, uZ st (sl).toNat vvy66.1.1, uZ op (sl).toNat vvy66.1.2, ai, fa, mu, tb, B, Lz), vvy66.2), by simp only [ps_cl, if_pos hwcy67, cl_map, hvvy66], havy66, hbvy66, hlvy66, hkvy66, hxvy66⟩⟩, fun j j1 j2 => by rw [hfvy66 _ (by omega) (by omega)]⟩
      · obtain ⟨evy66, hvvy66, havy66, hbvy66, hlvy66, hkvy66, hxvy66⟩ := hqvy66
        refine z_goto (tgt := 77) C dX10_clause1_25 (by decide) ?_
        exact z_vret C hr hlk dX10_clause1_77 (by decide) (by decide) ⟨rfl, rfl, rfl, ⟨_, hcvy66, hFvy66, Or.inr ⟨evy66, by simp only [ps_cl, if_pos hwcy67, cl_map, hvvy66], havy66, hbvy66, hlvy66, hkvy66, hxvy66⟩⟩, fun j j1 j2 => by rw [hfvy66 _ (by omega) (by omega)]⟩

