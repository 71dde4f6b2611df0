section
-- 86nh.ylayer.lean.txt
set_option maxRecDepth 100000 in
set_option maxHeartbeats 4000000 in
theorem c_yLayer (l : Launch) (D : va_G) (A : Nat → Prop) (cs : Nat → ClassId) (tt : Nat) (N : Nat) (ad : Nat → Nat) (g : Nat → va_E) (i : Nat) (hN : i + 30 ≤ N) (F : Nat → Int) (hg : g i = mC ad i F) (tp : Nat → Int) (ha13 : g (i + 13) = iA cs 900 tp) (T : Nat → Int) (n : Nat) (hn : n ≤ 900) (hTb : ∀ k, k < n → 0 ≤ T k ∧ T k ≤ 255) (hTt : ∀ k, k < n → tp k = T k) (htp : ∀ k, k < 900 → 0 ≤ tp k ∧ tp k ≤ 255) (f : Nat) (hk : tkR T n F f) (h38 : F 38 = 0) (hfl : f < n) (sl ho nm : Int) (mn st op ai fa mu tb B : Nat → Int) (Lz : Nat → Nat → Int) (hX : xTx cs g i F (sl, ho, nm, mn, st, op, ai, fa, mu, tb, B, Lz)) : zM l yX10_layer1 cX10_layer1 3 none ({ frames := 5, cells := 0, slots := 0, locals := 300 } : Room) D A cs tt N ad g [.ref (ad i)] (rV0 N ad fun g' => (∃ F' : Nat → Int, g' i = mC ad i F' ∧ (∀ f, f ≠ 24 → f ≠ 32 → f ≠ 33 → f ≠ 35 → f ≠ 36 → f ≠ 37 → f ≠ 38 → f ≠ 47 → f ≠ 48 → f ≠ 49 → F' f = F f) ∧ ((∃ v, cl_layer T n sl mn f = .ok v ∧ F' 38 = 0 ∧ F' 24 = F 24 ∧ f < v.2 ∧ tkR T n F' v.2 ∧ xTx cs g' i F' (sl, ho, nm + 1, uZ mn v.1.1.toNat (mn v.1.1.toNat + 1), st, op, ai, fa, mu, tb, B, (fun j => if j = v.1.1.toNat then la_ (Lz v.1.1.toNat) (mn v.1.1.toNat) v.1.2.1 v.1.2.2.1 v.1.2.2.2.1 v.1.2.2.2.2.1 v.1.2.2.2.2.2 nm else Lz j))) ∨ (∃ e : Int × Nat, cl_layer T n sl mn f = .error e ∧ F' 38 = e.1 ∧ F' 24 = (e.2 : Int) ∧ (1 ≤ e.1 ∧ e.1 ≤ 5) ∧ (∃ f9, tkR T n F' f9) ∧ okTx cs g' i F'))) ∧ ∀ j, j ≠ i → j < i + 16 ∨ i + 23 < j → g' j = g j) := by
  have hay1 : zAt ad (i) (ad i) := rfl
  have hay2 : zAt ad (i + 13) (ad (i + 13)) := rfl
  have hsry3 := srt_b T n f
  have hvly4 := vlu_b hTb f
  have hwby5 := tk_w_b T n f
  have hfny6 := hk.1
  obtain ⟨st1, op1, mn1, ai1, fa1, mu1, tb1, ly1, ⟨ha16, ha17, ha18, ha19, ha20, ha21, ha22, ha23⟩, ⟨⟨t47, t48, t49⟩, hop1, hmn1, hai1, hfa1, htb1, hly1⟩, hrT⟩ := hX
  have r47 : F 47 = sl := hrT.1.1
  have r48 : F 48 = ho := hrT.1.2.1
  have r49 : F 49 = nm := hrT.1.2.2
  have r32 : F 32 = ((tk_to T n f : Nat) : Int) := hk.2.1
  have hto0 := tk_to_nx (T := T) (n := n) (f := f) hk.1.1
  have rsl : ∀ k : Nat, (k : Int) < sl → mn1 k = mn k := fun k h9 => (hrT.2.1 k h9).2.2
  have rtb : ∀ k : Nat, k < 15 → (tb1 k = -1 ∧ B k = 0) ∨ (0 ≤ tb1 k ∧ B k = 1) := fun k h9 => by
    rcases hrT.2.2.2.1 k h9 with ⟨a9, b9, c9⟩ | ⟨a9, b9, c9⟩
    · exact Or.inl ⟨a9, b9⟩
    · exact Or.inr ⟨a9, b9⟩
  have rs4 : 0 ≤ sl ∧ sl ≤ 4 := by omega
  have rh4 : 0 ≤ ho ∧ ho ≤ 24 := by omega
  have hay7 : zAt ad (i + 16) (ad (i + 16)) := rfl
  have hay8 : zAt ad (i + 17) (ad (i + 17)) := rfl
  have hay9 : zAt ad (i + 18) (ad (i + 18)) := rfl
  have hay10 : zAt ad (i + 19) (ad (i + 19)) := rfl
  have hay11 : zAt ad (i + 20) (ad (i + 20)) := rfl
  have hay12 : zAt ad (i + 21) (ad (i + 21)) := rfl
  have hay13 : zAt ad (i + 22) (ad (i + 22)) := rfl
  have hay14 : zAt ad (i + 23) (ad (i + 23)) := rfl
  have htbr : ∀ k, k < 15 → -1 ≤ tb1 k ∧ tb1 k ≤ 9999 := fun k hk => by have h9 := htb1 k hk; omega
  refine z_of (by decide) (Nat.le_of_ble_eq_true rfl) ?_
  intro pZ eZ sZ mZ below meth cZ C hr hlk hnm
  refine z_lv (lv' := [(0, .ref (ad i))]) [0] rfl ?_
  refine z_aload_n C 0 dX10_layer1_0 rfl ?_
  have htvy15 : tkR T n F f := hk
  refine z_cV (As := []) (rest := []) (ci := 12) C (c_yGo l D A cs tt N ad _ i hN _ hg _ ha13 T n hn hTb hTt htp (tk_to T n f) (tk_to_b htvy15.1.1).2.1 htvy15.2.1 htvy15.2.2.2.1 htvy15.2.2.2.2.2.2.2) (lt_A0 hN rfl) hay1 hg rfl rfl mv_yX10_go q_1652 hd_yX10_go (by decide) (Nat.le_of_ble_eq_true rfl) (by decide) dX10_layer1_1 rfl (kV0 fun gvy15 hvy15 => ?_)
  obtain ⟨⟨Fvy15, hcvy15, hjvy15, hFvy15⟩, hfvy15⟩ := hvy15
  have hkvy15 : tkR T n Fvy15 (tk_nx T n f) := hjvy15
  have hnbvy15 := tk_nx_s (T := T) (n := n) (f := f) hfl
  clear hjvy15
  have hsry16 := srt_b T n (tk_nx T n f)
  have hvly17 := vlu_b hTb (tk_nx T n f)
  have hwby18 := tk_w_b T n (tk_nx T n f)
  have hfny19 := hkvy15.1
  refine z_aload_n C 0 dX10_layer1_4 rfl ?_
  refine z_aload_n C 0 dX10_layer1_5 rfl ?_
  refine z_get (v := .int (zI (srt (tk_so T n (tk_nx T n f))))) C (lt_A0 hN rfl) hay1 hcvy15 rfl inA_X10 35 (by decide) q_1494 rfl (fv (F := Fvy15) (f := 35) hkvy15.2.2.2.2.1) dX10_layer1_6 ?_
  refine z_iconst (z := 2) C dX10_layer1_9 rfl ?_
  refine z_icmp_ne (tgt := 17) C dX10_layer1_10 (by decide) (by omega) (by omega) (fun hby20 => ?_) (fun hby20 => ?_)
  · have hsoy21 : tk_so T n (tk_nx T n f) ≠ 2 := fun e9 => by have := srt2.mpr e9; omega
    have hny22 : tk_nu T n 0 3 (tk_nx T n f) = .error (1, (tk_nx T n f)) := by unfold tk_nu; rw [if_pos hsoy21]
    refine z_iconst (z := 0) C dX10_layer1_17 rfl ?_
    refine z_iconst (z := 1) C dX10_layer1_18 rfl ?_
    have h33vy26 : Fvy15 33 = ((tk_nx T n f) : Int) := hkvy15.2.2.1
    have h24vy26 : Fvy15 24 = F 24 := (hFvy15 24 (by decide) (by decide) (by decide) (by decide) (by decide))
    have htvy26 : tkR T n Fvy15 (tk_nx T n f) := hkvy15
    refine z_cV (As := [.int (zI (0)), .int (zI (1))]) (rest := []) (ci := 12) C (c_yWants l D A cs tt N ad _ i hN _ hcvy15 ((hFvy15 38 (by decide) (by decide) (by decide) (by decide) (by decide)).trans h38) (0) (by omega) (1) (by omega)) (lt_A0 hN rfl) hay1 hcvy15 rfl rfl mv_yX10_wants q_1678 hd_yX10_wants (by decide) (Nat.le_of_ble_eq_true rfl) (by decide) dX10_layer1_19 rfl (kI0 fun vy26 gvy26 hvy26 => ?_)
    obtain ⟨⟨Fvy26, hcvy26, hqvy26, hFvy26⟩, hfvy26⟩ := hvy26
    obtain ⟨rfl, hevy26, hbvy26⟩ : vy26 = 0 ∧ Fvy26 38 = 1 ∧ Fvy26 24 = ((tk_nx T n f) : Int) := by omega
    clear hqvy26 h33vy26 h24vy26
    have hkvy26 : tkR T n Fvy26 (tk_nx T n f) := tkR.w htvy26 hFvy26 (by omega)
    refine z_if_eq (tgt := 97) C dX10_layer1_22 (by decide) (by omega) (fun _ => ?_) (fun h => absurd h (by omega))
    have hFy27 : ∀ f, f ≠ 24 → f ≠ 32 → f ≠ 33 → f ≠ 35 → f ≠ 36 → f ≠ 37 → f ≠ 38 → f ≠ 47 → f ≠ 48 → f ≠ 49 → Fvy26 f = F f := fun f n24 n32 n33 n35 n36 n37 n38 n47 n48 n49 => ((hFvy26 f n24 n38).trans (hFvy15 f n32 n33 n35 n36 n37))
    have htky28 : tkR T n Fvy26 (tk_nx T n f) := hkvy26
    have htoy29 := tk_to_w (T := T) (n := n) (f := (tk_nx T n f)) htky28.1.1
    have h32y30 := htky28.2.1
    have hey31 : Fvy26 24 = ((tk_nx T n f) : Int) := hbvy26
    have hey32 : Fvy26 38 = 1 := hevy26
    have hey33 : Fvy26 47 = sl := ((hFvy26 47 (by decide) (by decide)).trans ((hFvy15 47 (by decide) (by decide) (by decide) (by decide) (by decide)).trans r47))
    have hey34 : Fvy26 48 = ho := ((hFvy26 48 (by decide) (by decide)).trans ((hFvy15 48 (by decide) (by decide) (by decide) (by decide) (by decide)).trans r48))
    have hey35 : Fvy26 49 = nm := ((hFvy26 49 (by decide) (by decide)).trans ((hFvy15 49 (by decide) (by decide) (by decide) (by decide) (by decide)).trans r49))
    have hlay37 : ∀ s l : Nat, (s : Int) < Fvy26 47 → (l : Int) < mn1 s → lyT ly1 (84 * s + 7 * l) := by
      intro s l a1 a2
      have hm9 := hmn1 s (by omega)
      exact hly1 s l (by omega) a2
    have hgy38 := (hfvy15 (i + 16) (ne_o (i := i) (c := 16) (d := 0) rfl)).trans ha16
    have hgy39 := (hfvy26 (i + 16) (ne_o (i := i) (c := 16) (d := 0) rfl)).trans hgy38
    have hgy40 := (hfvy15 (i + 17) (ne_o (i := i) (c := 17) (d := 0) rfl)).trans ha17
    have hgy41 := (hfvy26 (i + 17) (ne_o (i := i) (c := 17) (d := 0) rfl)).trans hgy40
    have hgy42 := (hfvy15 (i + 18) (ne_o (i := i) (c := 18) (d := 0) rfl)).trans ha18
    have hgy43 := (hfvy26 (i + 18) (ne_o (i := i) (c := 18) (d := 0) rfl)).trans hgy42
    have hgy44 := (hfvy15 (i + 19) (ne_o (i := i) (c := 19) (d := 0) rfl)).trans ha19
    have hgy45 := (hfvy26 (i + 19) (ne_o (i := i) (c := 19) (d := 0) rfl)).trans hgy44
    have hgy46 := (hfvy15 (i + 20) (ne_o (i := i) (c := 20) (d := 0) rfl)).trans ha20
    have hgy47 := (hfvy26 (i + 20) (ne_o (i := i) (c := 20) (d := 0) rfl)).trans hgy46
    have hgy48 := (hfvy15 (i + 21) (ne_o (i := i) (c := 21) (d := 0) rfl)).trans ha21
    have hgy49 := (hfvy26 (i + 21) (ne_o (i := i) (c := 21) (d := 0) rfl)).trans hgy48
    have hgy50 := (hfvy15 (i + 22) (ne_o (i := i) (c := 22) (d := 0) rfl)).trans ha22
    have hgy51 := (hfvy26 (i + 22) (ne_o (i := i) (c := 22) (d := 0) rfl)).trans hgy50
    have hgy52 := (hfvy15 (i + 23) (ne_o (i := i) (c := 23) (d := 0) rfl)).trans ha23
    have hgy53 := (hfvy26 (i + 23) (ne_o (i := i) (c := 23) (d := 0) rfl)).trans hgy52
    have htxy54 : okTx cs gvy26 i Fvy26 := ⟨_, _, _, _, _, _, _, _, ⟨hgy39, hgy41, hgy43, hgy45, hgy47, hgy49, hgy51, hgy53⟩, ⟨⟨by omega, by omega, by omega⟩, hop1, hmn1, hai1, hfa1, htb1, hlay37⟩⟩
    exact z_vret C hr hlk dX10_layer1_97 (by decide) (by decide) ⟨rfl, rfl, rfl, ⟨_, hcvy26, hFy27, Or.inr ⟨(1, (tk_nx T n f)), by simp only [cl_layer, cl_layer2, hny22], by show Fvy26 38 = 1; omega, by show Fvy26 24 = (((tk_nx T n f) : Nat) : Int); omega, by show 1 ≤ 1 ∧ 1 ≤ 5; omega, ⟨_, htky28⟩, htxy54⟩⟩, fun j j1 j2 => by rw [hfvy26 _ (by omega)]; rw [hfvy15 _ (by omega)]⟩
  · have hsoy23 : tk_so T n (tk_nx T n f) = 2 := srt2.mp (by omega)
    have hvly24 : vlu T n (tk_nx T n f) = tk_va T n (tk_nx T n f) := vlu2 hsoy23
    have hfny25 := (so_ty (T := T) (n := n) (f := (tk_nx T n f)) (by omega)).1
    refine z_iconst (z := 1) C dX10_layer1_13 rfl ?_
    refine z_goto (tgt := 18) C dX10_layer1_14 (by decide) ?_
    refine z_iconst (z := 1) C dX10_layer1_18 rfl ?_
    have h33vy55 : Fvy15 33 = ((tk_nx T n f) : Int) := hkvy15.2.2.1
    have h24vy55 : Fvy15 24 = F 24 := (hFvy15 24 (by decide) (by decide) (by decide) (by decide) (by decide))
    have htvy55 : tkR T n Fvy15 (tk_nx T n f) := hkvy15
    refine z_cV (As := [.int (zI (1)), .int (zI (1))]) (rest := []) (ci := 12) C (c_yWants l D A cs tt N ad _ i hN _ hcvy15 ((hFvy15 38 (by decide) (by decide) (by decide) (by decide) (by decide)).trans h38) (1) (by omega) (1) (by omega)) (lt_A0 hN rfl) hay1 hcvy15 rfl rfl mv_yX10_wants q_1678 hd_yX10_wants (by decide) (Nat.le_of_ble_eq_true rfl) (by decide) dX10_layer1_19 rfl (kI0 fun vy55 gvy55 hvy55 => ?_)
    obtain ⟨⟨Fvy55, hcvy55, hqvy55, hFvy55⟩, hfvy55⟩ := hvy55
    obtain ⟨rfl, hevy55, hbvy55⟩ : vy55 = 1 ∧ Fvy55 38 = 0 ∧ Fvy55 24 = F 24 := by omega
    clear hqvy55 h33vy55 h24vy55
    have hkvy55 : tkR T n Fvy55 (tk_nx T n f) := tkR.w htvy55 hFvy55 (by omega)
    refine z_if_eq (tgt := 97) C dX10_layer1_22 (by decide) (by omega) (fun h => absurd h (by omega)) (fun _ => ?_)
    refine z_aload_n C 0 dX10_layer1_25 rfl ?_
    refine z_aload_n C 0 dX10_layer1_26 rfl ?_
    refine z_get (v := .int (zI (tk_va T n (tk_nx T n f)))) C (lt_A0 hN rfl) hay1 hcvy55 rfl inA_X10 36 (by decide) q_1495 rfl (fv (F := Fvy55) (f := 36) ((hFvy55 36 (by decide) (by decide)).trans (hkvy15.2.2.2.2.2.1.trans hvly24))) dX10_layer1_27 ?_
    refine z_iconst (z := 4) C dX10_layer1_30 rfl ?_
    refine z_icmp_ge (tgt := 38) C dX10_layer1_31 (by decide) (by omega) (by omega) (fun hby56 => ?_) (fun hby56 => ?_)
    · have hny57 : tk_nu T n 0 3 (tk_nx T n f) = .error (2, (tk_nx T n f)) := by unfold tk_nu; rw [if_neg (by omega), if_pos (by omega)]
      refine z_iconst (z := 0) C dX10_layer1_38 rfl ?_
      refine z_iconst (z := 2) C dX10_layer1_39 rfl ?_
      have h33vy59 : Fvy55 33 = ((tk_nx T n f) : Int) := ((hFvy55 33 (by decide) (by decide)).trans hkvy15.2.2.1)
      have h24vy59 : Fvy55 24 = F 24 := hbvy55
      have htvy59 : tkR T n Fvy55 (tk_nx T n f) := hkvy55
      refine z_cV (As := [.int (zI (0)), .int (zI (2))]) (rest := []) (ci := 12) C (c_yWants l D A cs tt N ad _ i hN _ hcvy55 hevy55 (0) (by omega) (2) (by omega)) (lt_A0 hN rfl) hay1 hcvy55 rfl rfl mv_yX10_wants q_1678 hd_yX10_wants (by decide) (Nat.le_of_ble_eq_true rfl) (by decide) dX10_layer1_40 rfl (kI0 fun vy59 gvy59 hvy59 => ?_)
      obtain ⟨⟨Fvy59, hcvy59, hqvy59, hFvy59⟩, hfvy59⟩ := hvy59
      obtain ⟨rfl, hevy59, hbvy59⟩ : vy59 = 0 ∧ Fvy59 38 = 2 ∧ Fvy59 24 = ((tk_nx T n f) : Int) := by omega
      clear hqvy59 h33vy59 h24vy59
      have hkvy59 : tkR T n Fvy59 (tk_nx T n f) := tkR.w htvy59 hFvy59 (by omega)
      refine z_if_eq (tgt := 97) C dX10_layer1_43 (by decide) (by omega) (fun _ => ?_) (fun h => absurd h (by omega))
      have hFy60 : ∀ f, f ≠ 24 → f ≠ 32 → f ≠ 33 → f ≠ 35 → f ≠ 36 → f ≠ 37 → f ≠ 38 → f ≠ 47 → f ≠ 48 → f ≠ 49 → Fvy59 f = F f := fun f n24 n32 n33 n35 n36 n37 n38 n47 n48 n49 => ((hFvy59 f n24 n38).trans ((hFvy55 f n24 n38).trans (hFvy15 f n32 n33 n35 n36 n37)))
      have htky61 : tkR T n Fvy59 (tk_nx T n f) := hkvy59
      have htoy62 := tk_to_w (T := T) (n := n) (f := (tk_nx T n f)) htky61.1.1
      have h32y63 := htky61.2.1
      have hey64 : Fvy59 24 = ((tk_nx T n f) : Int) := hbvy59
      have hey65 : Fvy59 38 = 2 := hevy59
      have hey66 : Fvy59 47 = sl := ((hFvy59 47 (by decide) (by decide)).trans ((hFvy55 47 (by decide) (by decide)).trans ((hFvy15 47 (by decide) (by decide) (by decide) (by decide) (by decide)).trans r47)))
      have hey67 : Fvy59 48 = ho := ((hFvy59 48 (by decide) (by decide)).trans ((hFvy55 48 (by decide) (by decide)).trans ((hFvy15 48 (by decide) (by decide) (by decide) (by decide) (by decide)).trans r48)))
      have hey68 : Fvy59 49 = nm := ((hFvy59 49 (by decide) (by decide)).trans ((hFvy55 49 (by decide) (by decide)).trans ((hFvy15 49 (by decide) (by decide) (by decide) (by decide) (by decide)).trans r49)))
      have hlay70 : ∀ s l : Nat, (s : Int) < Fvy59 47 → (l : Int) < mn1 s → lyT ly1 (84 * s + 7 * l) := by
        intro s l a1 a2
        have hm9 := hmn1 s (by omega)
        exact hly1 s l (by omega) a2
      have hgy71 := (hfvy15 (i + 16) (ne_o (i := i) (c := 16) (d := 0) rfl)).trans ha16
      have hgy72 := (hfvy55 (i + 16) (ne_o (i := i) (c := 16) (d := 0) rfl)).trans hgy71
      have hgy73 := (hfvy59 (i + 16) (ne_o (i := i) (c := 16) (d := 0) rfl)).trans hgy72
      have hgy74 := (hfvy15 (i + 17) (ne_o (i := i) (c := 17) (d := 0) rfl)).trans ha17
      have hgy75 := (hfvy55 (i + 17) (ne_o (i := i) (c := 17) (d := 0) rfl)).trans hgy74
      have hgy76 := (hfvy59 (i + 17) (ne_o (i := i) (c := 17) (d := 0) rfl)).trans hgy75
      have hgy77 := (hfvy15 (i + 18) (ne_o (i := i) (c := 18) (d := 0) rfl)).trans ha18
      have hgy78 := (hfvy55 (i + 18) (ne_o (i := i) (c := 18) (d := 0) rfl)).trans hgy77
      have hgy79 := (hfvy59 (i + 18) (ne_o (i := i) (c := 18) (d := 0) rfl)).trans hgy78
      have hgy80 := (hfvy15 (i + 19) (ne_o (i := i) (c := 19) (d := 0) rfl)).trans ha19
      have hgy81 := (hfvy55 (i + 19) (ne_o (i := i) (c := 19) (d := 0) rfl)).trans hgy80
      have hgy82 := (hfvy59 (i + 19) (ne_o (i := i) (c := 19) (d := 0) rfl)).trans hgy81
      have hgy83 := (hfvy15 (i + 20) (ne_o (i := i) (c := 20) (d := 0) rfl)).trans ha20
      have hgy84 := (hfvy55 (i + 20) (ne_o (i := i) (c := 20) (d := 0) rfl)).trans hgy83
      have hgy85 := (hfvy59 (i + 20) (ne_o (i := i) (c := 20) (d := 0) rfl)).trans hgy84
      have hgy86 := (hfvy15 (i + 21) (ne_o (i := i) (c := 21) (d := 0) rfl)).trans ha21
      have hgy87 := (hfvy55 (i + 21) (ne_o (i := i) (c := 21) (d := 0) rfl)).trans hgy86
      have hgy88 := (hfvy59 (i + 21) (ne_o (i := i) (c := 21) (d := 0) rfl)).trans hgy87
      have hgy89 := (hfvy15 (i + 22) (ne_o (i := i) (c := 22) (d := 0) rfl)).trans ha22
      have hgy90 := (hfvy55 (i + 22) (ne_o (i := i) (c := 22) (d := 0) rfl)).trans hgy89
      have hgy91 := (hfvy59 (i + 22) (ne_o (i := i) (c := 22) (d := 0) rfl)).trans hgy90
      have hgy92 := (hfvy15 (i + 23) (ne_o (i := i) (c := 23) (d := 0) rfl)).trans ha23
      have hgy93 := (hfvy55 (i + 23) (ne_o (i := i) (c := 23) (d := 0) rfl)).trans hgy92
      have hgy94 := (hfvy59 (i + 23) (ne_o (i := i) (c := 23) (d := 0) rfl)).trans hgy93
      have htxy95 : okTx cs gvy59 i Fvy59 := ⟨_, _, _, _, _, _, _, _, ⟨hgy73, hgy76, hgy79, hgy82, hgy85, hgy88, hgy91, hgy94⟩, ⟨⟨by omega, by omega, by omega⟩, hop1, hmn1, hai1, hfa1, htb1, hlay70⟩⟩
      exact z_vret C hr hlk dX10_layer1_97 (by decide) (by decide) ⟨rfl, rfl, rfl, ⟨_, hcvy59, hFy60, Or.inr ⟨(2, (tk_nx T n f)), by simp only [cl_layer, cl_layer2, hny57], by show Fvy59 38 = 2; omega, by show Fvy59 24 = (((tk_nx T n f) : Nat) : Int); omega, by show 1 ≤ 2 ∧ 2 ≤ 5; omega, ⟨_, htky61⟩, htxy95⟩⟩, fun j j1 j2 => by rw [hfvy59 _ (by omega)]; rw [hfvy55 _ (by omega)]; rw [hfvy15 _ (by omega)]⟩
    · have hny58 : tk_nu T n 0 3 (tk_nx T n f) = .ok (tk_va T n (tk_nx T n f), tk_nx T n (tk_nx T n f)) := by unfold tk_nu; rw [if_neg (by omega), if_neg (by omega)]
      refine z_iconst (z := 1) C dX10_layer1_34 rfl ?_
      refine z_goto (tgt := 39) C dX10_layer1_35 (by decide) ?_
      refine z_iconst (z := 2) C dX10_layer1_39 rfl ?_
      have h33vy96 : Fvy55 33 = ((tk_nx T n f) : Int) := ((hFvy55 33 (by decide) (by decide)).trans hkvy15.2.2.1)
      have h24vy96 : Fvy55 24 = F 24 := hbvy55
      have htvy96 : tkR T n Fvy55 (tk_nx T n f) := hkvy55
      refine z_cV (As := [.int (zI (1)), .int (zI (2))]) (rest := []) (ci := 12) C (c_yWants l D A cs tt N ad _ i hN _ hcvy55 hevy55 (1) (by omega) (2) (by omega)) (lt_A0 hN rfl) hay1 hcvy55 rfl rfl mv_yX10_wants q_1678 hd_yX10_wants (by decide) (Nat.le_of_ble_eq_true rfl) (by decide) dX10_layer1_40 rfl (kI0 fun vy96 gvy96 hvy96 => ?_)
      obtain ⟨⟨Fvy96, hcvy96, hqvy96, hFvy96⟩, hfvy96⟩ := hvy96
      obtain ⟨rfl, hevy96, hbvy96⟩ : vy96 = 1 ∧ Fvy96 38 = 0 ∧ Fvy96 24 = F 24 := by omega
      clear hqvy96 h33vy96 h24vy96
      have hkvy96 : tkR T n Fvy96 (tk_nx T n f) := tkR.w htvy96 hFvy96 (by omega)
      refine z_if_eq (tgt := 97) C dX10_layer1_43 (by decide) (by omega) (fun h => absurd h (by omega)) (fun _ => ?_)
      refine z_aload_n C 0 dX10_layer1_46 rfl ?_
      refine z_aload_n C 0 dX10_layer1_47 rfl ?_
      refine z_get (v := .int (zI (tk_va T n (tk_nx T n f)))) C (lt_A0 hN rfl) hay1 hcvy96 rfl inA_X10 36 (by decide) q_1495 rfl (fv (F := Fvy96) (f := 36) ((hFvy96 36 (by decide) (by decide)).trans ((hFvy55 36 (by decide) (by decide)).trans (hkvy15.2.2.2.2.2.1.trans hvly24)))) dX10_layer1_48 ?_
      refine z_aload_n C 0 dX10_layer1_51 rfl ?_
      refine z_get (v := .int (zI (sl))) C (lt_A0 hN rfl) hay1 hcvy96 rfl inA_X10 47 (by decide) q_1506 rfl (fv (F := Fvy96) (f := 47) ((hFvy96 47 (by decide) (by decide)).trans ((hFvy55 47 (by decide) (by decide)).trans ((hFvy15 47 (by decide) (by decide) (by decide) (by decide) (by decide)).trans r47)))) dX10_layer1_52 ?_
      refine z_icmp_ge (tgt := 62) C dX10_layer1_55 (by decide) (by omega) (by omega) (fun hby97 => ?_) (fun hby97 => ?_)
      · have hscy98 : (sl ≤ tk_va T n (tk_nx T n f)) := by omega
        refine z_iconst (z := 0) C dX10_layer1_62 rfl ?_
        refine z_iconst (z := 3) C dX10_layer1_63 rfl ?_
        have h33vy100 : Fvy96 33 = ((tk_nx T n f) : Int) := ((hFvy96 33 (by decide) (by decide)).trans ((hFvy55 33 (by decide) (by decide)).trans hkvy15.2.2.1))
        have h24vy100 : Fvy96 24 = F 24 := hbvy96
        have htvy100 : tkR T n Fvy96 (tk_nx T n f) := hkvy96
        refine z_cV (As := [.int (zI (0)), .int (zI (3))]) (rest := []) (ci := 12) C (c_yWants l D A cs tt N ad _ i hN _ hcvy96 hevy96 (0) (by omega) (3) (by omega)) (lt_A0 hN rfl) hay1 hcvy96 rfl rfl mv_yX10_wants q_1678 hd_yX10_wants (by decide) (Nat.le_of_ble_eq_true rfl) (by decide) dX10_layer1_64 rfl (kI0 fun vy100 gvy100 hvy100 => ?_)
        obtain ⟨⟨Fvy100, hcvy100, hqvy100, hFvy100⟩, hfvy100⟩ := hvy100
        obtain ⟨rfl, hevy100, hbvy100⟩ : vy100 = 0 ∧ Fvy100 38 = 3 ∧ Fvy100 24 = ((tk_nx T n f) : Int) := by omega
        clear hqvy100 h33vy100 h24vy100
        have hkvy100 : tkR T n Fvy100 (tk_nx T n f) := tkR.w htvy100 hFvy100 (by omega)
        refine z_if_eq (tgt := 97) C dX10_layer1_67 (by decide) (by omega) (fun _ => ?_) (fun h => absurd h (by omega))
        have hFy101 : ∀ f, f ≠ 24 → f ≠ 32 → f ≠ 33 → f ≠ 35 → f ≠ 36 → f ≠ 37 → f ≠ 38 → f ≠ 47 → f ≠ 48 → f ≠ 49 → Fvy100 f = F f := fun f n24 n32 n33 n35 n36 n37 n38 n47 n48 n49 => ((hFvy100 f n24 n38).trans ((hFvy96 f n24 n38).trans ((hFvy55 f n24 n38).trans (hFvy15 f n32 n33 n35 n36 n37))))
        have htky102 : tkR T n Fvy100 (tk_nx T n f) := hkvy100
        have htoy103 := tk_to_w (T := T) (n := n) (f := (tk_nx T n f)) htky102.1.1
        have h32y104 := htky102.2.1
        have hey105 : Fvy100 24 = ((tk_nx T n f) : Int) := hbvy100
        have hey106 : Fvy100 38 = 3 := hevy100
        have hey107 : Fvy100 47 = sl := ((hFvy100 47 (by decide) (by decide)).trans ((hFvy96 47 (by decide) (by decide)).trans ((hFvy55 47 (by decide) (by decide)).trans ((hFvy15 47 (by decide) (by decide) (by decide) (by decide) (by decide)).trans r47))))
        have hey108 : Fvy100 48 = ho := ((hFvy100 48 (by decide) (by decide)).trans ((hFvy96 48 (by decide) (by decide)).trans ((hFvy55 48 (by decide) (by decide)).trans ((hFvy15 48 (by decide) (by decide) (by decide) (by decide) (by decide)).trans r48))))
        have hey109 : Fvy100 49 = nm := ((hFvy100 49 (by decide) (by decide)).trans ((hFvy96 49 (by decide) (by decide)).trans ((hFvy55 49 (by decide) (by decide)).trans ((hFvy15 49 (by decide) (by decide) (by decide) (by decide) (by decide)).trans r49))))
        have hlay111 : ∀ s l : Nat, (s : Int) < Fvy100 47 → (l : Int) < mn1 s → lyT ly1 (84 * s + 7 * l) := by
          intro s l a1 a2
          have hm9 := hmn1 s (by omega)
          exact hly1 s l (by omega) a2
        have hgy112 := (hfvy15 (i + 16) (ne_o (i := i) (c := 16) (d := 0) rfl)).trans ha16
        have hgy113 := (hfvy55 (i + 16) (ne_o (i := i) (c := 16) (d := 0) rfl)).trans hgy112
        have hgy114 := (hfvy96 (i + 16) (ne_o (i := i) (c := 16) (d := 0) rfl)).trans hgy113
        have hgy115 := (hfvy100 (i + 16) (ne_o (i := i) (c := 16) (d := 0) rfl)).trans hgy114
        have hgy116 := (hfvy15 (i + 17) (ne_o (i := i) (c := 17) (d := 0) rfl)).trans ha17
        have hgy117 := (hfvy55 (i + 17) (ne_o (i := i) (c := 17) (d := 0) rfl)).trans hgy116
        have hgy118 := (hfvy96 (i + 17) (ne_o (i := i) (c := 17) (d := 0) rfl)).trans hgy117
        have hgy119 := (hfvy100 (i + 17) (ne_o (i := i) (c := 17) (d := 0) rfl)).trans hgy118
        have hgy120 := (hfvy15 (i + 18) (ne_o (i := i) (c := 18) (d := 0) rfl)).trans ha18
        have hgy121 := (hfvy55 (i + 18) (ne_o (i := i) (c := 18) (d := 0) rfl)).trans hgy120
        have hgy122 := (hfvy96 (i + 18) (ne_o (i := i) (c := 18) (d := 0) rfl)).trans hgy121
        have hgy123 := (hfvy100 (i + 18) (ne_o (i := i) (c := 18) (d := 0) rfl)).trans hgy122
        have hgy124 := (hfvy15 (i + 19) (ne_o (i := i) (c := 19) (d := 0) rfl)).trans ha19
        have hgy125 := (hfvy55 (i + 19) (ne_o (i := i) (c := 19) (d := 0) rfl)).trans hgy124
        have hgy126 := (hfvy96 (i + 19) (ne_o (i := i) (c := 19) (d := 0) rfl)).trans hgy125
        have hgy127 := (hfvy100 (i + 19) (ne_o (i := i) (c := 19) (d := 0) rfl)).trans hgy126
        have hgy128 := (hfvy15 (i + 20) (ne_o (i := i) (c := 20) (d := 0) rfl)).trans ha20
        have hgy129 := (hfvy55 (i + 20) (ne_o (i := i) (c := 20) (d := 0) rfl)).trans hgy128
        have hgy130 := (hfvy96 (i + 20) (ne_o (i := i) (c := 20) (d := 0) rfl)).trans hgy129
        have hgy131 := (hfvy100 (i + 20) (ne_o (i := i) (c := 20) (d := 0) rfl)).trans hgy130
        have hgy132 := (hfvy15 (i + 21) (ne_o (i := i) (c := 21) (d := 0) rfl)).trans ha21
        have hgy133 := (hfvy55 (i + 21) (ne_o (i := i) (c := 21) (d := 0) rfl)).trans hgy132
        have hgy134 := (hfvy96 (i + 21) (ne_o (i := i) (c := 21) (d := 0) rfl)).trans hgy133
        have hgy135 := (hfvy100 (i + 21) (ne_o (i := i) (c := 21) (d := 0) rfl)).trans hgy134
        have hgy136 := (hfvy15 (i + 22) (ne_o (i := i) (c := 22) (d := 0) rfl)).trans ha22
        have hgy137 := (hfvy55 (i + 22) (ne_o (i := i) (c := 22) (d := 0) rfl)).trans hgy136
        have hgy138 := (hfvy96 (i + 22) (ne_o (i := i) (c := 22) (d := 0) rfl)).trans hgy137
        have hgy139 := (hfvy100 (i + 22) (ne_o (i := i) (c := 22) (d := 0) rfl)).trans hgy138
        have hgy140 := (hfvy15 (i + 23) (ne_o (i := i) (c := 23) (d := 0) rfl)).trans ha23
        have hgy141 := (hfvy55 (i + 23) (ne_o (i := i) (c := 23) (d := 0) rfl)).trans hgy140
        have hgy142 := (hfvy96 (i + 23) (ne_o (i := i) (c := 23) (d := 0) rfl)).trans hgy141
        have hgy143 := (hfvy100 (i + 23) (ne_o (i := i) (c := 23) (d := 0) rfl)).trans hgy142
        have htxy144 : okTx cs gvy100 i Fvy100 := ⟨_, _, _, _, _, _, _, _, ⟨hgy115, hgy119, hgy123, hgy127, hgy131, hgy135, hgy139, hgy143⟩, ⟨⟨by omega, by omega, by omega⟩, hop1, hmn1, hai1, hfa1, htb1, hlay111⟩⟩
        exact z_vret C hr hlk dX10_layer1_97 (by decide) (by decide) ⟨rfl, rfl, rfl, ⟨_, hcvy100, hFy101, Or.inr ⟨(3, (tk_nx T n f)), by simp only [cl_layer, cl_layer2, hny58, if_pos hscy98], by show Fvy100 38 = 3; omega, by show Fvy100 24 = (((tk_nx T n f) : Nat) : Int); omega, by show 1 ≤ 3 ∧ 3 ≤ 5; omega, ⟨_, htky102⟩, htxy144⟩⟩, fun j j1 j2 => by rw [hfvy100 _ (by omega)]; rw [hfvy96 _ (by omega)]; rw [hfvy55 _ (by omega)]; rw [hfvy15 _ (by omega)]⟩
      · have hscy99 : ¬ (sl ≤ tk_va T n (tk_nx T n f)) := by omega
        refine z_iconst (z := 1) C dX10_layer1_58 rfl ?_
        refine z_goto (tgt := 63) C dX10_layer1_59 (by decide) ?_
        refine z_iconst (z := 3) C dX10_layer1_63 rfl ?_
        have h33vy145 : Fvy96 33 = ((tk_nx T n f) : Int) := ((hFvy96 33 (by decide) (by decide)).trans ((hFvy55 33 (by decide) (by decide)).trans hkvy15.2.2.1))
        have h24vy145 : Fvy96 24 = F 24 := hbvy96
        have htvy145 : tkR T n Fvy96 (tk_nx T n f) := hkvy96
        refine z_cV (As := [.int (zI (1)), .int (zI (3))]) (rest := []) (ci := 12) C (c_yWants l D A cs tt N ad _ i hN _ hcvy96 hevy96 (1) (by omega) (3) (by omega)) (lt_A0 hN rfl) hay1 hcvy96 rfl rfl mv_yX10_wants q_1678 hd_yX10_wants (by decide) (Nat.le_of_ble_eq_true rfl) (by decide) dX10_layer1_64 rfl (kI0 fun vy145 gvy145 hvy145 => ?_)
        obtain ⟨⟨Fvy145, hcvy145, hqvy145, hFvy145⟩, hfvy145⟩ := hvy145
        obtain ⟨rfl, hevy145, hbvy145⟩ : vy145 = 1 ∧ Fvy145 38 = 0 ∧ Fvy145 24 = F 24 := by omega
        clear hqvy145 h33vy145 h24vy145
        have hkvy145 : tkR T n Fvy145 (tk_nx T n f) := tkR.w htvy145 hFvy145 (by omega)
        refine z_if_eq (tgt := 97) C dX10_layer1_67 (by decide) (by omega) (fun h => absurd h (by omega)) (fun _ => ?_)
        refine z_aload_n C 0 dX10_layer1_70 rfl ?_
        refine z_aload_n C 0 dX10_layer1_71 rfl ?_
        refine z_get (v := .ref (ad (i + 18))) C (lt_A0 hN rfl) hay1 hcvy145 rfl inA_X10 41 (by decide) q_1500 rfl rfl dX10_layer1_72 ?_
        refine z_aload_n C 0 dX10_layer1_75 rfl ?_
        refine z_get (v := .int (zI (tk_va T n (tk_nx T n f)))) C (lt_A0 hN rfl) hay1 hcvy145 rfl inA_X10 36 (by decide) q_1495 rfl (fv (F := Fvy145) (f := 36) ((hFvy145 36 (by decide) (by decide)).trans ((hFvy96 36 (by decide) (by decide)).trans ((hFvy55 36 (by decide) (by decide)).trans (hkvy15.2.2.2.2.2.1.trans hvly24))))) dX10_layer1_76 ?_
        obtain ⟨ny146, hny146⟩ : ∃ n9 : Nat, tk_va T n (tk_nx T n f) = (n9 : Int) := ⟨(tk_va T n (tk_nx T n f)).toNat, by omega⟩
        rw [hny146]
        have hgy147 := (hfvy15 (i + 18) (ne_o (i := i) (c := 18) (d := 0) rfl)).trans ha18
        have hgy148 := (hfvy55 (i + 18) (ne_o (i := i) (c := 18) (d := 0) rfl)).trans hgy147
        have hgy149 := (hfvy96 (i + 18) (ne_o (i := i) (c := 18) (d := 0) rfl)).trans hgy148
        have hgy150 := (hfvy145 (i + 18) (ne_o (i := i) (c := 18) (d := 0) rfl)).trans hgy149
        refine z_iald C (lt_A (c := 18) hN rfl) hay9 hgy150 (ny146) (by omega) (by omega) (by decide) dX10_layer1_79 ?_
        have hrfy151 := hmn1 (ny146) (by omega)
        refine z_bipush (z := 12) C dX10_layer1_80 (by decide) ?_
        refine z_icmp_ge (tgt := 89) C dX10_layer1_82 (by decide) (by omega) (by omega) (fun hby152 => ?_) (fun hby152 => ?_)
        · have hmqy153 := rsl (tk_va T n (tk_nx T n f)).toNat (by omega)
          rw [show (tk_va T n (tk_nx T n f)).toNat = ny146 by omega] at hmqy153
          have hscy154 : (12 ≤ mn (tk_va T n (tk_nx T n f)).toNat) := by rw [show (tk_va T n (tk_nx T n f)).toNat = ny146 by omega]; omega
          refine z_iconst (z := 0) C dX10_layer1_89 rfl ?_
          refine z_iconst (z := 2) C dX10_layer1_90 rfl ?_
          have h33vy157 : Fvy145 33 = ((tk_nx T n f) : Int) := ((hFvy145 33 (by decide) (by decide)).trans ((hFvy96 33 (by decide) (by decide)).trans ((hFvy55 33 (by decide) (by decide)).trans hkvy15.2.2.1)))
          have h24vy157 : Fvy145 24 = F 24 := hbvy145
          have htvy157 : tkR T n Fvy145 (tk_nx T n f) := hkvy145
          refine z_cV (As := [.int (zI (0)), .int (zI (2))]) (rest := []) (ci := 12) C (c_yWants l D A cs tt N ad _ i hN _ hcvy145 hevy145 (0) (by omega) (2) (by omega)) (lt_A0 hN rfl) hay1 hcvy145 rfl rfl mv_yX10_wants q_1678 hd_yX10_wants (by decide) (Nat.le_of_ble_eq_true rfl) (by decide) dX10_layer1_91 rfl (kI0 fun vy157 gvy157 hvy157 => ?_)
          obtain ⟨⟨Fvy157, hcvy157, hqvy157, hFvy157⟩, hfvy157⟩ := hvy157
          obtain ⟨rfl, hevy157, hbvy157⟩ : vy157 = 0 ∧ Fvy157 38 = 2 ∧ Fvy157 24 = ((tk_nx T n f) : Int) := by omega
          clear hqvy157 h33vy157 h24vy157
          have hkvy157 : tkR T n Fvy157 (tk_nx T n f) := tkR.w htvy157 hFvy157 (by omega)
          refine z_if_ne (tgt := 98) C dX10_layer1_94 (by decide) (by omega) (fun h => absurd h (by omega)) (fun _ => ?_)
          have hFy158 : ∀ f, f ≠ 24 → f ≠ 32 → f ≠ 33 → f ≠ 35 → f ≠ 36 → f ≠ 37 → f ≠ 38 → f ≠ 47 → f ≠ 48 → f ≠ 49 → Fvy157 f = F f := fun f n24 n32 n33 n35 n36 n37 n38 n47 n48 n49 => ((hFvy157 f n24 n38).trans ((hFvy145 f n24 n38).trans ((hFvy96 f n24 n38).trans ((hFvy55 f n24 n38).trans (hFvy15 f n32 n33 n35 n36 n37)))))
          have htky159 : tkR T n Fvy157 (tk_nx T n f) := hkvy157
          have htoy160 := tk_to_w (T := T) (n := n) (f := (tk_nx T n f)) htky159.1.1
          have h32y161 := htky159.2.1
          have hey162 : Fvy157 24 = ((tk_nx T n f) : Int) := hbvy157
          have hey163 : Fvy157 38 = 2 := hevy157
          have hey164 : Fvy157 47 = sl := ((hFvy157 47 (by decide) (by decide)).trans ((hFvy145 47 (by decide) (by decide)).trans ((hFvy96 47 (by decide) (by decide)).trans ((hFvy55 47 (by decide) (by decide)).trans ((hFvy15 47 (by decide) (by decide) (by decide) (by decide) (by decide)).trans r47)))))
          have hey165 : Fvy157 48 = ho := ((hFvy157 48 (by decide) (by decide)).trans ((hFvy145 48 (by decide) (by decide)).trans ((hFvy96 48 (by decide) (by decide)).trans ((hFvy55 48 (by decide) (by decide)).trans ((hFvy15 48 (by decide) (by decide) (by decide) (by decide) (by decide)).trans r48)))))
          have hey166 : Fvy157 49 = nm := ((hFvy157 49 (by decide) (by decide)).trans ((hFvy145 49 (by decide) (by decide)).trans ((hFvy96 49 (by decide) (by decide)).trans ((hFvy55 49 (by decide) (by decide)).trans ((hFvy15 49 (by decide) (by decide) (by decide) (by decide) (by decide)).trans r49)))))
          have hlay168 : ∀ s l : Nat, (s : Int) < Fvy157 47 → (l : Int) < mn1 s → lyT ly1 (84 * s + 7 * l) := by
            intro s l a1 a2
            have hm9 := hmn1 s (by omega)
            exact hly1 s l (by omega) a2
          have hgy169 := (hfvy15 (i + 16) (ne_o (i := i) (c := 16) (d := 0) rfl)).trans ha16
          have hgy170 := (hfvy55 (i + 16) (ne_o (i := i) (c := 16) (d := 0) rfl)).trans hgy169
          have hgy171 := (hfvy96 (i + 16) (ne_o (i := i) (c := 16) (d := 0) rfl)).trans hgy170
          have hgy172 := (hfvy145 (i + 16) (ne_o (i := i) (c := 16) (d := 0) rfl)).trans hgy171
          have hgy173 := (hfvy157 (i + 16) (ne_o (i := i) (c := 16) (d := 0) rfl)).trans hgy172
          have hgy174 := (hfvy15 (i + 17) (ne_o (i := i) (c := 17) (d := 0) rfl)).trans ha17
          have hgy175 := (hfvy55 (i + 17) (ne_o (i := i) (c := 17) (d := 0) rfl)).trans hgy174
          have hgy176 := (hfvy96 (i + 17) (ne_o (i := i) (c := 17) (d := 0) rfl)).trans hgy175
          have hgy177 := (hfvy145 (i + 17) (ne_o (i := i) (c := 17) (d := 0) rfl)).trans hgy176
          have hgy178 := (hfvy157 (i + 17) (ne_o (i := i) (c := 17) (d := 0) rfl)).trans hgy177
          have hgy179 := (hfvy157 (i + 18) (ne_o (i := i) (c := 18) (d := 0) rfl)).trans hgy150
          have hgy180 := (hfvy15 (i + 19) (ne_o (i := i) (c := 19) (d := 0) rfl)).trans ha19
          have hgy181 := (hfvy55 (i + 19) (ne_o (i := i) (c := 19) (d := 0) rfl)).trans hgy180
          have hgy182 := (hfvy96 (i + 19) (ne_o (i := i) (c := 19) (d := 0) rfl)).trans hgy181
          have hgy183 := (hfvy145 (i + 19) (ne_o (i := i) (c := 19) (d := 0) rfl)).trans hgy182
          have hgy184 := (hfvy157 (i + 19) (ne_o (i := i) (c := 19) (d := 0) rfl)).trans hgy183
          have hgy185 := (hfvy15 (i + 20) (ne_o (i := i) (c := 20) (d := 0) rfl)).trans ha20
          have hgy186 := (hfvy55 (i + 20) (ne_o (i := i) (c := 20) (d := 0) rfl)).trans hgy185
          have hgy187 := (hfvy96 (i + 20) (ne_o (i := i) (c := 20) (d := 0) rfl)).trans hgy186
          have hgy188 := (hfvy145 (i + 20) (ne_o (i := i) (c := 20) (d := 0) rfl)).trans hgy187
          have hgy189 := (hfvy157 (i + 20) (ne_o (i := i) (c := 20) (d := 0) rfl)).trans hgy188
          have hgy190 := (hfvy15 (i + 21) (ne_o (i := i) (c := 21) (d := 0) rfl)).trans ha21
          have hgy191 := (hfvy55 (i + 21) (ne_o (i := i) (c := 21) (d := 0) rfl)).trans hgy190
          have hgy192 := (hfvy96 (i + 21) (ne_o (i := i) (c := 21) (d := 0) rfl)).trans hgy191
          have hgy193 := (hfvy145 (i + 21) (ne_o (i := i) (c := 21) (d := 0) rfl)).trans hgy192
          have hgy194 := (hfvy157 (i + 21) (ne_o (i := i) (c := 21) (d := 0) rfl)).trans hgy193
          have hgy195 := (hfvy15 (i + 22) (ne_o (i := i) (c := 22) (d := 0) rfl)).trans ha22
          have hgy196 := (hfvy55 (i + 22) (ne_o (i := i) (c := 22) (d := 0) rfl)).trans hgy195
          have hgy197 := (hfvy96 (i + 22) (ne_o (i := i) (c := 22) (d := 0) rfl)).trans hgy196
          have hgy198 := (hfvy145 (i + 22) (ne_o (i := i) (c := 22) (d := 0) rfl)).trans hgy197
          have hgy199 := (hfvy157 (i + 22) (ne_o (i := i) (c := 22) (d := 0) rfl)).trans hgy198
          have hgy200 := (hfvy15 (i + 23) (ne_o (i := i) (c := 23) (d := 0) rfl)).trans ha23
          have hgy201 := (hfvy55 (i + 23) (ne_o (i := i) (c := 23) (d := 0) rfl)).trans hgy200
          have hgy202 := (hfvy96 (i + 23) (ne_o (i := i) (c := 23) (d := 0) rfl)).trans hgy201
          have hgy203 := (hfvy145 (i + 23) (ne_o (i := i) (c := 23) (d := 0) rfl)).trans hgy202
          have hgy204 := (hfvy157 (i + 23) (ne_o (i := i) (c := 23) (d := 0) rfl)).trans hgy203
          have htxy205 : okTx cs gvy157 i Fvy157 := ⟨_, _, _, _, _, _, _, _, ⟨hgy173, hgy178, hgy179, hgy184, hgy189, hgy194, hgy199, hgy204⟩, ⟨⟨by omega, by omega, by omega⟩, hop1, hmn1, hai1, hfa1, htb1, hlay168⟩⟩
          exact z_vret C hr hlk dX10_layer1_97 (by decide) (by decide) ⟨rfl, rfl, rfl, ⟨_, hcvy157, hFy158, Or.inr ⟨(2, (tk_nx T n f)), by simp only [cl_layer, cl_layer2, hny58, if_neg hscy99, if_pos hscy154], by show Fvy157 38 = 2; omega, by show Fvy157 24 = (((tk_nx T n f) : Nat) : Int); omega, by show 1 ≤ 2 ∧ 2 ≤ 5; omega, ⟨_, htky159⟩, htxy205⟩⟩, fun j j1 j2 => by rw [hfvy157 _ (by omega)]; rw [hfvy145 _ (by omega)]; rw [hfvy96 _ (by omega)]; rw [hfvy55 _ (by omega)]; rw [hfvy15 _ (by omega)]⟩
        · have hmqy155 := rsl (tk_va T n (tk_nx T n f)).toNat (by omega)
          rw [show (tk_va T n (tk_nx T n f)).toNat = ny146 by omega] at hmqy155
          have hscy156 : ¬ (12 ≤ mn (tk_va T n (tk_nx T n f)).toNat) := by rw [show (tk_va T n (tk_nx T n f)).toNat = ny146 by omega]; omega
          refine z_iconst (z := 1) C dX10_layer1_85 rfl ?_
          refine z_goto (tgt := 90) C dX10_layer1_86 (by decide) ?_
          refine z_iconst (z := 2) C dX10_layer1_90 rfl ?_
          have h33vy206 : Fvy145 33 = ((tk_nx T n f) : Int) := ((hFvy145 33 (by decide) (by decide)).trans ((hFvy96 33 (by decide) (by decide)).trans ((hFvy55 33 (by decide) (by decide)).trans hkvy15.2.2.1)))
          have h24vy206 : Fvy145 24 = F 24 := hbvy145
          have htvy206 : tkR T n Fvy145 (tk_nx T n f) := hkvy145
          refine z_cV (As := [.int (zI (1)), .int (zI (2))]) (rest := []) (ci := 12) C (c_yWants l D A cs tt N ad _ i hN _ hcvy145 hevy145 (1) (by omega) (2) (by omega)) (lt_A0 hN rfl) hay1 hcvy145 rfl rfl mv_yX10_wants q_1678 hd_yX10_wants (by decide) (Nat.le_of_ble_eq_true rfl) (by decide) dX10_layer1_91 rfl (kI0 fun vy206 gvy206 hvy206 => ?_)
          obtain ⟨⟨Fvy206, hcvy206, hqvy206, hFvy206⟩, hfvy206⟩ := hvy206
          obtain ⟨rfl, hevy206, hbvy206⟩ : vy206 = 1 ∧ Fvy206 38 = 0 ∧ Fvy206 24 = F 24 := by omega
          clear hqvy206 h33vy206 h24vy206
          have hkvy206 : tkR T n Fvy206 (tk_nx T n f) := tkR.w htvy206 hFvy206 (by omega)
          refine z_if_ne (tgt := 98) C dX10_layer1_94 (by decide) (by omega) (fun _ => ?_) (fun h => absurd h (by omega))
          refine z_aload_n C 0 dX10_layer1_98 rfl ?_
          refine z_get (v := .int (zI (tk_va T n (tk_nx T n f)))) C (lt_A0 hN rfl) hay1 hcvy206 rfl inA_X10 36 (by decide) q_1495 rfl (fv (F := Fvy206) (f := 36) ((hFvy206 36 (by decide) (by decide)).trans ((hFvy145 36 (by decide) (by decide)).trans ((hFvy96 36 (by decide) (by decide)).trans ((hFvy55 36 (by decide) (by decide)).trans (hkvy15.2.2.2.2.2.1.trans hvly24)))))) dX10_layer1_99 ?_
          rw [hny146]
          refine z_istore_n (lv' := [(1, .int (zI ((ny146 : Int)))), (0, .ref (ad i))]) C dX10_layer1_102 rfl (by decide) rfl ?_
          refine z_bipush (z := 84) C dX10_layer1_103 (by decide) ?_
          refine z_iload_n C 0 dX10_layer1_105 rfl ?_
          refine z_imul C dX10_layer1_106 ?_
          refine z_bipush (z := 7) C dX10_layer1_107 (by decide) ?_
          refine z_aload_n C 1 dX10_layer1_109 rfl ?_
          refine z_get (v := .ref (ad (i + 18))) C (lt_A0 hN rfl) hay1 hcvy206 rfl inA_X10 41 (by decide) q_1500 rfl rfl dX10_layer1_110 ?_
          refine z_iload_n C 0 dX10_layer1_113 rfl ?_
          have hgy207 := (hfvy206 (i + 18) (ne_o (i := i) (c := 18) (d := 0) rfl)).trans hgy150
          refine z_iald C (lt_A (c := 18) hN rfl) hay9 hgy207 (ny146) (by omega) (by omega) (by decide) dX10_layer1_114 ?_
          have hrfy208 := hmn1 (ny146) (by omega)
          refine z_imul C dX10_layer1_115 ?_
          refine z_iadd C dX10_layer1_116 ?_
          obtain ⟨kqy209, hkqy209⟩ : ∃ n9 : Nat, (84 * ((ny146 : Int))) + (7 * (mn1 (ny146))) = (n9 : Int) := ⟨((84 * ((ny146 : Int))) + (7 * (mn1 (ny146)))).toNat, by omega⟩
          rw [hkqy209]
          refine z_istore_n (lv' := [(2, .int (zI ((kqy209 : Int)))), (1, .int (zI ((ny146 : Int)))), (0, .ref (ad i))]) C dX10_layer1_117 rfl (by decide) rfl ?_
          refine z_aload_n C 2 dX10_layer1_118 rfl ?_
          have hgy210 := (hfvy15 (i + 13) (ne_o (i := i) (c := 13) (d := 0) rfl)).trans ha13
          have hgy211 := (hfvy55 (i + 13) (ne_o (i := i) (c := 13) (d := 0) rfl)).trans hgy210
          have hgy212 := (hfvy96 (i + 13) (ne_o (i := i) (c := 13) (d := 0) rfl)).trans hgy211
          have hgy213 := (hfvy145 (i + 13) (ne_o (i := i) (c := 13) (d := 0) rfl)).trans hgy212
          have hgy214 := (hfvy206 (i + 13) (ne_o (i := i) (c := 13) (d := 0) rfl)).trans hgy213
          have htvy215 : tkR T n Fvy206 (tk_nx T n f) := hkvy206
          refine z_cV (As := []) (rest := []) (ci := 12) C (c_yGo l D A cs tt N ad _ i hN _ hcvy206 _ hgy214 T n hn hTb hTt htp (tk_to T n (tk_nx T n f)) (tk_to_b htvy215.1.1).2.1 htvy215.2.1 htvy215.2.2.2.1 htvy215.2.2.2.2.2.2.2) (lt_A0 hN rfl) hay1 hcvy206 rfl rfl mv_yX10_go q_1652 hd_yX10_go (by decide) (Nat.le_of_ble_eq_true rfl) (by decide) dX10_layer1_119 rfl (kV0 fun gvy215 hvy215 => ?_)
          obtain ⟨⟨Fvy215, hcvy215, hjvy215, hFvy215⟩, hfvy215⟩ := hvy215
          have hkvy215 : tkR T n Fvy215 (tk_nx T n (tk_nx T n f)) := hjvy215
          have hnbvy215 := tk_nx_w (T := T) (n := n) (f := (tk_nx T n f)) htvy215.1.1
          clear hjvy215
          have hsry216 := srt_b T n (tk_nx T n (tk_nx T n f))
          have hvly217 := vlu_b hTb (tk_nx T n (tk_nx T n f))
          have hwby218 := tk_w_b T n (tk_nx T n (tk_nx T n f))
          have hfny219 := hkvy215.1
          refine z_aload_n C 2 dX10_layer1_122 rfl ?_
          refine z_aload_n C 2 dX10_layer1_123 rfl ?_
          have hgy221 := (hfvy215 (i + 13) (ne_o (i := i) (c := 13) (d := 0) rfl)).trans hgy214
          refine z_cV (As := []) (rest := [.ref (ad i)]) (ci := 12) C (c_yIsKind l D A cs tt N ad _ i hN _ hcvy215 tp T n hn hTb hTt htp (tk_nx T n (tk_nx T n f)) hkvy215) (lt_A0 hN rfl) hay1 hcvy215 rfl rfl mv_yX10_isKind q_1693 hd_yX10_isKind (by decide) (Nat.le_of_ble_eq_true rfl) (by decide) dX10_layer1_124 rfl (kI0 fun vy220 gvy220 hvy220 => ?_)
          obtain ⟨hvy220, rfl⟩ := hvy220
          rcases hvy220 with ⟨rfl, hxvy220⟩ | ⟨rfl, hxvy220⟩
          · refine z_iconst (z := 1) C dX10_layer1_127 rfl ?_
            have h33vy222 : Fvy215 33 = ((tk_nx T n (tk_nx T n f)) : Int) := hkvy215.2.2.1
            have h24vy222 : Fvy215 24 = F 24 := ((hFvy215 24 (by decide) (by decide) (by decide) (by decide) (by decide)).trans hbvy206)
            have htvy222 : tkR T n Fvy215 (tk_nx T n (tk_nx T n f)) := hkvy215
            refine z_cV (As := [.int (zI (1)), .int (zI (1))]) (rest := []) (ci := 12) C (c_yWants l D A cs tt N ad _ i hN _ hcvy215 ((hFvy215 38 (by decide) (by decide) (by decide) (by decide) (by decide)).trans hevy206) (1) (by omega) (1) (by omega)) (lt_A0 hN rfl) hay1 hcvy215 rfl rfl mv_yX10_wants q_1678 hd_yX10_wants (by decide) (Nat.le_of_ble_eq_true rfl) (by decide) dX10_layer1_128 rfl (kI0 fun vy222 gvy222 hvy222 => ?_)
            obtain ⟨⟨Fvy222, hcvy222, hqvy222, hFvy222⟩, hfvy222⟩ := hvy222
            obtain ⟨rfl, hevy222, hbvy222⟩ : vy222 = 1 ∧ Fvy222 38 = 0 ∧ Fvy222 24 = F 24 := by omega
            clear hqvy222 h33vy222 h24vy222
            have hkvy222 : tkR T n Fvy222 (tk_nx T n (tk_nx T n f)) := tkR.w htvy222 hFvy222 (by omega)
            refine z_if_ne (tgt := 135) C dX10_layer1_131 (by decide) (by omega) (fun _ => ?_) (fun h => absurd h (by omega))
            refine z_aload_n C 2 dX10_layer1_135 rfl ?_
            refine z_get (v := .ref (ad (i + 23))) C (lt_A0 hN rfl) hay1 hcvy222 rfl inA_X10 46 (by decide) q_1505 rfl rfl dX10_layer1_136 ?_
            refine z_iload_n C 0 dX10_layer1_139 rfl ?_
            refine z_iconst (z := 0) C dX10_layer1_140 rfl ?_
            refine z_iadd C dX10_layer1_141 ?_
            refine z_aload_n C 2 dX10_layer1_142 rfl ?_
            have hgy224 := (hfvy222 (i + 13) (ne_o (i := i) (c := 13) (d := 0) rfl)).trans hgy221
            refine z_cV (As := []) (rest := [.int (zI (((kqy209 : Int)) + 0)), .ref (ad (i + 23))]) (ci := 12) C (c_yKindHere l D A cs tt N ad _ i hN _ hcvy222 tp T n hn hTb hTt htp (tk_nx T n (tk_nx T n f)) hkvy222 hxvy220) (lt_A0 hN rfl) hay1 hcvy222 rfl rfl mv_yX10_kindHere q_1697 hd_yX10_kindHere (by decide) (Nat.le_of_ble_eq_true rfl) (by decide) dX10_layer1_143 rfl (kI0 fun vy223 gvy223 hvy223 => ?_)
            obtain ⟨rfl, rfl⟩ := hvy223
            have hkbvy223 : 0 ≤ tk_kd T n (tk_nx T n (tk_nx T n f)) ∧ tk_kd T n (tk_nx T n (tk_nx T n f)) ≤ 4 := by have hkc := tk_kd_c T n (tk_nx T n (tk_nx T n f)); omega
            have hgy225 := (hfvy15 (i + 23) (ne_o (i := i) (c := 23) (d := 0) rfl)).trans ha23
            have hgy226 := (hfvy55 (i + 23) (ne_o (i := i) (c := 23) (d := 0) rfl)).trans hgy225
            have hgy227 := (hfvy96 (i + 23) (ne_o (i := i) (c := 23) (d := 0) rfl)).trans hgy226
            have hgy228 := (hfvy145 (i + 23) (ne_o (i := i) (c := 23) (d := 0) rfl)).trans hgy227
            have hgy229 := (hfvy206 (i + 23) (ne_o (i := i) (c := 23) (d := 0) rfl)).trans hgy228
            have hgy230 := (hfvy215 (i + 23) (ne_o (i := i) (c := 23) (d := 0) rfl)).trans hgy229
            have hgy231 := (hfvy222 (i + 23) (ne_o (i := i) (c := 23) (d := 0) rfl)).trans hgy230
            refine z_iast C (lt_A (c := 23) hN rfl) hay14 hgy231 (kqy209) (by omega) (by omega) (by decide) dX10_layer1_146 (fun gy232 egy233 => ?_)
            have hgy234 := up_s egy233
            obtain ⟨ry235, hvy236⟩ : ∃ rZ9 : Nat → Int, rZ9 = uZ ly1 (kqy209) (tk_kd T n (tk_nx T n (tk_nx T n f))) := ⟨_, rfl⟩
            rw [← hvy236] at hgy234
            refine z_aload_n C 2 dX10_layer1_147 rfl ?_
            have hgy237 := up_n egy233 hcvy222 (ne_o (i := i) (c := 0) (d := 23) rfl)
            have hgy238 := up_n egy233 hgy224 (ne_o (i := i) (c := 13) (d := 23) rfl)
            have htvy239 : tkR T n Fvy222 (tk_nx T n (tk_nx T n f)) := hkvy222
            refine z_cV (As := []) (rest := []) (ci := 12) C (c_yGo l D A cs tt N ad _ i hN _ hgy237 _ hgy238 T n hn hTb hTt htp (tk_to T n (tk_nx T n (tk_nx T n f))) (tk_to_b htvy239.1.1).2.1 htvy239.2.1 htvy239.2.2.2.1 htvy239.2.2.2.2.2.2.2) (lt_A0 hN rfl) hay1 hgy237 rfl rfl mv_yX10_go q_1652 hd_yX10_go (by decide) (Nat.le_of_ble_eq_true rfl) (by decide) dX10_layer1_148 rfl (kV0 fun gvy239 hvy239 => ?_)
            obtain ⟨⟨Fvy239, hcvy239, hjvy239, hFvy239⟩, hfvy239⟩ := hvy239
            have hkvy239 : tkR T n Fvy239 (tk_nx T n (tk_nx T n (tk_nx T n f))) := hjvy239
            have hnbvy239 := tk_nx_w (T := T) (n := n) (f := (tk_nx T n (tk_nx T n f))) htvy239.1.1
            clear hjvy239
            have hsry240 := srt_b T n (tk_nx T n (tk_nx T n (tk_nx T n f)))
            have hvly241 := vlu_b hTb (tk_nx T n (tk_nx T n (tk_nx T n f)))
            have hwby242 := tk_w_b T n (tk_nx T n (tk_nx T n (tk_nx T n f)))
            have hfny243 := hkvy239.1
            refine z_aload_n C 2 dX10_layer1_151 rfl ?_
            refine z_get (v := .ref (ad (i + 23))) C (lt_A0 hN rfl) hay1 hcvy239 rfl inA_X10 46 (by decide) q_1505 rfl rfl dX10_layer1_152 ?_
            refine z_iload_n C 0 dX10_layer1_155 rfl ?_
            refine z_iconst (z := 1) C dX10_layer1_156 rfl ?_
            refine z_iadd C dX10_layer1_157 ?_
            refine z_aload_n C 2 dX10_layer1_158 rfl ?_
            refine z_iconst (z := 1) C dX10_layer1_159 rfl ?_
            refine z_bipush (z := 99) C dX10_layer1_160 (by decide) ?_
            have hgy244 := (hfvy239 (i + 13) (ne_o (i := i) (c := 13) (d := 0) rfl)).trans hgy238
            have h24vy245 : Fvy239 24 = F 24 := ((hFvy239 24 (by decide) (by decide) (by decide) (by decide) (by decide)).trans hbvy222)
            refine z_cV (As := [.int (zI (1)), .int (zI (99))]) (rest := [.int (zI (((kqy209 : Int)) + 1)), .ref (ad (i + 23))]) (ci := 12) C (c_yNumber l D A cs tt N ad _ i hN _ hcvy239 _ hgy244 T n hn hTb hTt htp (tk_nx T n (tk_nx T n (tk_nx T n f))) hkvy239 ((hFvy239 38 (by decide) (by decide) (by decide) (by decide) (by decide)).trans hevy222) (1) (by omega) (99) (by omega)) (lt_A0 hN rfl) hay1 hcvy239 rfl rfl mv_yX10_number q_1682 hd_yX10_number (by decide) (Nat.le_of_ble_eq_true rfl) (by decide) dX10_layer1_162 rfl (kI0 fun vy245 gvy245 hvy245 => ?_)
            obtain ⟨⟨Fvy245, hcvy245, hqvy245, hFvy245⟩, hfvy245⟩ := hvy245
            rcases hqvy245 with hqvy245 | hqvy245
            · obtain ⟨hnvy245, hrvy245, hltvy245, hevy245, hb0vy245, hkvy245⟩ := hqvy245
              have hbvy245 : Fvy245 24 = F 24 := hb0vy245.trans h24vy245
              have hnbvy245 := tk_nx_s (T := T) (n := n) (f := (tk_nx T n (tk_nx T n (tk_nx T n f)))) hltvy245
              clear hb0vy245 h24vy245
              have hsry246 := srt_b T n (tk_nx T n (tk_nx T n (tk_nx T n (tk_nx T n f))))
              have hvly247 := vlu_b hTb (tk_nx T n (tk_nx T n (tk_nx T n (tk_nx T n f))))
              have hwby248 := tk_w_b T n (tk_nx T n (tk_nx T n (tk_nx T n (tk_nx T n f))))
              have hfny249 := hkvy245.1
              have hgy250 := (hfvy239 (i + 23) (ne_o (i := i) (c := 23) (d := 0) rfl)).trans hgy234
              have hgy251 := (hfvy245 (i + 23) (ne_o (i := i) (c := 23) (d := 0) rfl)).trans hgy250
              refine z_iast C (lt_A (c := 23) hN rfl) hay14 hgy251 (kqy209 + 1) (by omega) (by omega) (by decide) dX10_layer1_165 (fun gy252 egy253 => ?_)
              have hgy254 := up_s egy253
              obtain ⟨ry255, hvy256⟩ : ∃ rZ9 : Nat → Int, rZ9 = uZ ry235 (kqy209 + 1) (vy245) := ⟨_, rfl⟩
              rw [← hvy256] at hgy254
              refine z_aload_n C 2 dX10_layer1_166 rfl ?_
              have hgy257 := up_n egy253 hcvy245 (ne_o (i := i) (c := 0) (d := 23) rfl)
              refine z_get (v := .int (zI (0))) C (lt_A0 hN rfl) hay1 hgy257 rfl inA_X10 38 (by decide) q_1497 rfl (fv (F := Fvy245) (f := 38) hevy245) dX10_layer1_167 ?_
              refine z_if_ne (tgt := 188) C dX10_layer1_170 (by decide) (by omega) (fun h => absurd h (by omega)) (fun _ => ?_)
              refine z_aload_n C 2 dX10_layer1_173 rfl ?_
              refine z_get (v := .ref (ad (i + 23))) C (lt_A0 hN rfl) hay1 hgy257 rfl inA_X10 46 (by decide) q_1505 rfl rfl dX10_layer1_174 ?_
              refine z_iload_n C 0 dX10_layer1_177 rfl ?_
              refine z_iconst (z := 2) C dX10_layer1_178 rfl ?_
              refine z_iadd C dX10_layer1_179 ?_
              refine z_aload_n C 2 dX10_layer1_180 rfl ?_
              refine z_iconst (z := 0) C dX10_layer1_181 rfl ?_
              refine z_bipush (z := 99) C dX10_layer1_182 (by decide) ?_
              have hgy258 := (hfvy245 (i + 13) (ne_o (i := i) (c := 13) (d := 0) rfl)).trans hgy244
              have hgy259 := up_n egy253 hgy258 (ne_o (i := i) (c := 13) (d := 23) rfl)
              have h24vy260 : Fvy245 24 = F 24 := hbvy245
              refine z_cV (As := [.int (zI (0)), .int (zI (99))]) (rest := [.int (zI (((kqy209 : Int)) + 2)), .ref (ad (i + 23))]) (ci := 12) C (c_yNumber l D A cs tt N ad _ i hN _ hgy257 _ hgy259 T n hn hTb hTt htp (tk_nx T n (tk_nx T n (tk_nx T n (tk_nx T n f)))) hkvy245 hevy245 (0) (by omega) (99) (by omega)) (lt_A0 hN rfl) hay1 hgy257 rfl rfl mv_yX10_number q_1682 hd_yX10_number (by decide) (Nat.le_of_ble_eq_true rfl) (by decide) dX10_layer1_184 rfl (kI0 fun vy260 gvy260 hvy260 => ?_)
              obtain ⟨⟨Fvy260, hcvy260, hqvy260, hFvy260⟩, hfvy260⟩ := hvy260
              rcases hqvy260 with hqvy260 | hqvy260
              · obtain ⟨hnvy260, hrvy260, hltvy260, hevy260, hb0vy260, hkvy260⟩ := hqvy260
                have hbvy260 : Fvy260 24 = F 24 := hb0vy260.trans h24vy260
                have hnbvy260 := tk_nx_s (T := T) (n := n) (f := (tk_nx T n (tk_nx T n (tk_nx T n (tk_nx T n f))))) hltvy260
                clear hb0vy260 h24vy260
                have hsry261 := srt_b T n (tk_nx T n (tk_nx T n (tk_nx T n (tk_nx T n (tk_nx T n f)))))
                have hvly262 := vlu_b hTb (tk_nx T n (tk_nx T n (tk_nx T n (tk_nx T n (tk_nx T n f)))))
                have hwby263 := tk_w_b T n (tk_nx T n (tk_nx T n (tk_nx T n (tk_nx T n (tk_nx T n f)))))
                have hfny264 := hkvy260.1
                have hgy265 := (hfvy260 (i + 23) (ne_o (i := i) (c := 23) (d := 0) rfl)).trans hgy254
                refine z_iast C (lt_A (c := 23) hN rfl) hay14 hgy265 (kqy209 + 2) (by omega) (by omega) (by decide) dX10_layer1_187 (fun gy266 egy267 => ?_)
                have hgy268 := up_s egy267
                obtain ⟨ry269, hvy270⟩ : ∃ rZ9 : Nat → Int, rZ9 = uZ ry255 (kqy209 + 2) (vy260) := ⟨_, rfl⟩
                rw [← hvy270] at hgy268
                refine z_aload_n C 2 dX10_layer1_188 rfl ?_
                have hgy271 := up_n egy267 hcvy260 (ne_o (i := i) (c := 0) (d := 23) rfl)
                refine z_get (v := .int (zI (0))) C (lt_A0 hN rfl) hay1 hgy271 rfl inA_X10 38 (by decide) q_1497 rfl (fv (F := Fvy260) (f := 38) hevy260) dX10_layer1_189 ?_
                refine z_if_ne (tgt := 272) C dX10_layer1_192 (by decide) (by omega) (fun h => absurd h (by omega)) (fun _ => ?_)
                refine z_aload_n C 2 dX10_layer1_195 rfl ?_
                refine z_aload_n C 2 dX10_layer1_196 rfl ?_
                refine z_get (v := .int (zI (srt (tk_so T n (tk_nx T n (tk_nx T n (tk_nx T n (tk_nx T n (tk_nx T n f))))))))) C (lt_A0 hN rfl) hay1 hgy271 rfl inA_X10 35 (by decide) q_1494 rfl (fv (F := Fvy260) (f := 35) hkvy260.2.2.2.2.1) dX10_layer1_197 ?_
                refine z_iconst (z := 2) C dX10_layer1_200 rfl ?_
                refine z_icmp_ne (tgt := 208) C dX10_layer1_201 (by decide) (by omega) (by omega) (fun hby272 => ?_) (fun hby272 => ?_)
                · have hsoy273 : tk_so T n (tk_nx T n (tk_nx T n (tk_nx T n (tk_nx T n (tk_nx T n f))))) ≠ 2 := fun e9 => by have := srt2.mpr e9; omega
                  have hny274 : tk_nu T n 1 999 (tk_nx T n (tk_nx T n (tk_nx T n (tk_nx T n (tk_nx T n f))))) = .error (1, (tk_nx T n (tk_nx T n (tk_nx T n (tk_nx T n (tk_nx T n f)))))) := by unfold tk_nu; rw [if_pos hsoy273]
                  refine z_iconst (z := 0) C dX10_layer1_208 rfl ?_
                  refine z_iconst (z := 1) C dX10_layer1_209 rfl ?_
                  have h33vy278 : Fvy260 33 = ((tk_nx T n (tk_nx T n (tk_nx T n (tk_nx T n (tk_nx T n f))))) : Int) := hkvy260.2.2.1
                  have h24vy278 : Fvy260 24 = F 24 := hbvy260
                  have htvy278 : tkR T n Fvy260 (tk_nx T n (tk_nx T n (tk_nx T n (tk_nx T n (tk_nx T n f))))) := hkvy260
                  refine z_cV (As := [.int (zI (0)), .int (zI (1))]) (rest := []) (ci := 12) C (c_yWants l D A cs tt N ad _ i hN _ hgy271 hevy260 (0) (by omega) (1) (by omega)) (lt_A0 hN rfl) hay1 hgy271 rfl rfl mv_yX10_wants q_1678 hd_yX10_wants (by decide) (Nat.le_of_ble_eq_true rfl) (by decide) dX10_layer1_210 rfl (kI0 fun vy278 gvy278 hvy278 => ?_)
                  obtain ⟨⟨Fvy278, hcvy278, hqvy278, hFvy278⟩, hfvy278⟩ := hvy278
                  obtain ⟨rfl, hevy278, hbvy278⟩ : vy278 = 0 ∧ Fvy278 38 = 1 ∧ Fvy278 24 = ((tk_nx T n (tk_nx T n (tk_nx T n (tk_nx T n (tk_nx T n f))))) : Int) := by omega
                  clear hqvy278 h33vy278 h24vy278
                  have hkvy278 : tkR T n Fvy278 (tk_nx T n (tk_nx T n (tk_nx T n (tk_nx T n (tk_nx T n f))))) := tkR.w htvy278 hFvy278 (by omega)
                  refine z_if_eq (tgt := 272) C dX10_layer1_213 (by decide) (by omega) (fun _ => ?_) (fun h => absurd h (by omega))
                  have hFy279 : ∀ f, f ≠ 24 → f ≠ 32 → f ≠ 33 → f ≠ 35 → f ≠ 36 → f ≠ 37 → f ≠ 38 → f ≠ 47 → f ≠ 48 → f ≠ 49 → Fvy278 f = F f := fun f n24 n32 n33 n35 n36 n37 n38 n47 n48 n49 => ((hFvy278 f n24 n38).trans ((hFvy260 f n24 n32 n33 n35 n36 n37 n38).trans ((hFvy245 f n24 n32 n33 n35 n36 n37 n38).trans ((hFvy239 f n32 n33 n35 n36 n37).trans ((hFvy222 f n24 n38).trans ((hFvy215 f n32 n33 n35 n36 n37).trans ((hFvy206 f n24 n38).trans ((hFvy145 f n24 n38).trans ((hFvy96 f n24 n38).trans ((hFvy55 f n24 n38).trans (hFvy15 f n32 n33 n35 n36 n37)))))))))))
                  have htky280 : tkR T n Fvy278 (tk_nx T n (tk_nx T n (tk_nx T n (tk_nx T n (tk_nx T n f))))) := hkvy278
                  have htoy281 := tk_to_w (T := T) (n := n) (f := (tk_nx T n (tk_nx T n (tk_nx T n (tk_nx T n (tk_nx T n f)))))) htky280.1.1
                  have h32y282 := htky280.2.1
                  have hey283 : Fvy278 24 = ((tk_nx T n (tk_nx T n (tk_nx T n (tk_nx T n (tk_nx T n f))))) : Int) := hbvy278
                  have hey284 : Fvy278 38 = 1 := hevy278
                  have hey285 : Fvy278 47 = sl := ((hFvy278 47 (by decide) (by decide)).trans ((hFvy260 47 (by decide) (by decide) (by decide) (by decide) (by decide) (by decide) (by decide)).trans ((hFvy245 47 (by decide) (by decide) (by decide) (by decide) (by decide) (by decide) (by decide)).trans ((hFvy239 47 (by decide) (by decide) (by decide) (by decide) (by decide)).trans ((hFvy222 47 (by decide) (by decide)).trans ((hFvy215 47 (by decide) (by decide) (by decide) (by decide) (by decide)).trans ((hFvy206 47 (by decide) (by decide)).trans ((hFvy145 47 (by decide) (by decide)).trans ((hFvy96 47 (by decide) (by decide)).trans ((hFvy55 47 (by decide) (by decide)).trans ((hFvy15 47 (by decide) (by decide) (by decide) (by decide) (by decide)).trans r47)))))))))))
                  have hey286 : Fvy278 48 = ho := ((hFvy278 48 (by decide) (by decide)).trans ((hFvy260 48 (by decide) (by decide) (by decide) (by decide) (by decide) (by decide) (by decide)).trans ((hFvy245 48 (by decide) (by decide) (by decide) (by decide) (by decide) (by decide) (by decide)).trans ((hFvy239 48 (by decide) (by decide) (by decide) (by decide) (by decide)).trans ((hFvy222 48 (by decide) (by decide)).trans ((hFvy215 48 (by decide) (by decide) (by decide) (by decide) (by decide)).trans ((hFvy206 48 (by decide) (by decide)).trans ((hFvy145 48 (by decide) (by decide)).trans ((hFvy96 48 (by decide) (by decide)).trans ((hFvy55 48 (by decide) (by decide)).trans ((hFvy15 48 (by decide) (by decide) (by decide) (by decide) (by decide)).trans r48)))))))))))
                  have hey287 : Fvy278 49 = nm := ((hFvy278 49 (by decide) (by decide)).trans ((hFvy260 49 (by decide) (by decide) (by decide) (by decide) (by decide) (by decide) (by decide)).trans ((hFvy245 49 (by decide) (by decide) (by decide) (by decide) (by decide) (by decide) (by decide)).trans ((hFvy239 49 (by decide) (by decide) (by decide) (by decide) (by decide)).trans ((hFvy222 49 (by decide) (by decide)).trans ((hFvy215 49 (by decide) (by decide) (by decide) (by decide) (by decide)).trans ((hFvy206 49 (by decide) (by decide)).trans ((hFvy145 49 (by decide) (by decide)).trans ((hFvy96 49 (by decide) (by decide)).trans ((hFvy55 49 (by decide) (by decide)).trans ((hFvy15 49 (by decide) (by decide) (by decide) (by decide) (by decide)).trans r49)))))))))))
                  have hfry290 : ∀ j, j ≠ kqy209 + 2 → j ≠ kqy209 + 1 → j ≠ kqy209 → ry269 j = ly1 j := fun j n0 n1 n2 => (congrFun hvy270 _).trans ((uZ_n _ _ n0).trans ((congrFun hvy256 _).trans ((uZ_n _ _ n1).trans ((congrFun hvy236 _).trans ((uZ_n _ _ n2).trans (rfl))))))
                  have hlay289 : ∀ s l : Nat, (s : Int) < Fvy278 47 → (l : Int) < mn1 s → lyT ry269 (84 * s + 7 * l) := by
                    intro s l a1 a2
                    have hm9 := hmn1 s (by omega)
                    by_cases e : s = ny146
                    · subst e; exact (hly1 s l (by omega) a2).ext (fun j b1 b2 => hfry290 j (by omega) (by omega) (by omega))
                    · exact (hly1 s l (by omega) a2).ext (fun j b1 b2 => hfry290 j (by omega) (by omega) (by omega))
                  have hgy291 := (hfvy15 (i + 16) (ne_o (i := i) (c := 16) (d := 0) rfl)).trans ha16
                  have hgy292 := (hfvy55 (i + 16) (ne_o (i := i) (c := 16) (d := 0) rfl)).trans hgy291
                  have hgy293 := (hfvy96 (i + 16) (ne_o (i := i) (c := 16) (d := 0) rfl)).trans hgy292
                  have hgy294 := (hfvy145 (i + 16) (ne_o (i := i) (c := 16) (d := 0) rfl)).trans hgy293
                  have hgy295 := (hfvy206 (i + 16) (ne_o (i := i) (c := 16) (d := 0) rfl)).trans hgy294
                  have hgy296 := (hfvy215 (i + 16) (ne_o (i := i) (c := 16) (d := 0) rfl)).trans hgy295
                  have hgy297 := (hfvy222 (i + 16) (ne_o (i := i) (c := 16) (d := 0) rfl)).trans hgy296
                  have hgy298 := up_n egy233 hgy297 (ne_o (i := i) (c := 16) (d := 23) rfl)
                  have hgy299 := (hfvy239 (i + 16) (ne_o (i := i) (c := 16) (d := 0) rfl)).trans hgy298
                  have hgy300 := (hfvy245 (i + 16) (ne_o (i := i) (c := 16) (d := 0) rfl)).trans hgy299
                  have hgy301 := up_n egy253 hgy300 (ne_o (i := i) (c := 16) (d := 23) rfl)
                  have hgy302 := (hfvy260 (i + 16) (ne_o (i := i) (c := 16) (d := 0) rfl)).trans hgy301
                  have hgy303 := up_n egy267 hgy302 (ne_o (i := i) (c := 16) (d := 23) rfl)
                  have hgy304 := (hfvy278 (i + 16) (ne_o (i := i) (c := 16) (d := 0) rfl)).trans hgy303
                  have hgy305 := (hfvy15 (i + 17) (ne_o (i := i) (c := 17) (d := 0) rfl)).trans ha17
                  have hgy306 := (hfvy55 (i + 17) (ne_o (i := i) (c := 17) (d := 0) rfl)).trans hgy305
                  have hgy307 := (hfvy96 (i + 17) (ne_o (i := i) (c := 17) (d := 0) rfl)).trans hgy306
                  have hgy308 := (hfvy145 (i + 17) (ne_o (i := i) (c := 17) (d := 0) rfl)).trans hgy307
                  have hgy309 := (hfvy206 (i + 17) (ne_o (i := i) (c := 17) (d := 0) rfl)).trans hgy308
                  have hgy310 := (hfvy215 (i + 17) (ne_o (i := i) (c := 17) (d := 0) rfl)).trans hgy309
                  have hgy311 := (hfvy222 (i + 17) (ne_o (i := i) (c := 17) (d := 0) rfl)).trans hgy310
                  have hgy312 := up_n egy233 hgy311 (ne_o (i := i) (c := 17) (d := 23) rfl)
                  have hgy313 := (hfvy239 (i + 17) (ne_o (i := i) (c := 17) (d := 0) rfl)).trans hgy312
                  have hgy314 := (hfvy245 (i + 17) (ne_o (i := i) (c := 17) (d := 0) rfl)).trans hgy313
                  have hgy315 := up_n egy253 hgy314 (ne_o (i := i) (c := 17) (d := 23) rfl)
                  have hgy316 := (hfvy260 (i + 17) (ne_o (i := i) (c := 17) (d := 0) rfl)).trans hgy315
                  have hgy317 := up_n egy267 hgy316 (ne_o (i := i) (c := 17) (d := 23) rfl)
                  have hgy318 := (hfvy278 (i + 17) (ne_o (i := i) (c := 17) (d := 0) rfl)).trans hgy317
                  have hgy319 := (hfvy215 (i + 18) (ne_o (i := i) (c := 18) (d := 0) rfl)).trans hgy207
                  have hgy320 := (hfvy222 (i + 18) (ne_o (i := i) (c := 18) (d := 0) rfl)).trans hgy319
                  have hgy321 := up_n egy233 hgy320 (ne_o (i := i) (c := 18) (d := 23) rfl)
                  have hgy322 := (hfvy239 (i + 18) (ne_o (i := i) (c := 18) (d := 0) rfl)).trans hgy321
                  have hgy323 := (hfvy245 (i + 18) (ne_o (i := i) (c := 18) (d := 0) rfl)).trans hgy322
                  have hgy324 := up_n egy253 hgy323 (ne_o (i := i) (c := 18) (d := 23) rfl)
                  have hgy325 := (hfvy260 (i + 18) (ne_o (i := i) (c := 18) (d := 0) rfl)).trans hgy324
                  have hgy326 := up_n egy267 hgy325 (ne_o (i := i) (c := 18) (d := 23) rfl)
                  have hgy327 := (hfvy278 (i + 18) (ne_o (i := i) (c := 18) (d := 0) rfl)).trans hgy326
                  have hgy328 := (hfvy15 (i + 19) (ne_o (i := i) (c := 19) (d := 0) rfl)).trans ha19
                  have hgy329 := (hfvy55 (i + 19) (ne_o (i := i) (c := 19) (d := 0) rfl)).trans hgy328
                  have hgy330 := (hfvy96 (i + 19) (ne_o (i := i) (c := 19) (d := 0) rfl)).trans hgy329
                  have hgy331 := (hfvy145 (i + 19) (ne_o (i := i) (c := 19) (d := 0) rfl)).trans hgy330
                  have hgy332 := (hfvy206 (i + 19) (ne_o (i := i) (c := 19) (d := 0) rfl)).trans hgy331
                  have hgy333 := (hfvy215 (i + 19) (ne_o (i := i) (c := 19) (d := 0) rfl)).trans hgy332
                  have hgy334 := (hfvy222 (i + 19) (ne_o (i := i) (c := 19) (d := 0) rfl)).trans hgy333
                  have hgy335 := up_n egy233 hgy334 (ne_o (i := i) (c := 19) (d := 23) rfl)
                  have hgy336 := (hfvy239 (i + 19) (ne_o (i := i) (c := 19) (d := 0) rfl)).trans hgy335
                  have hgy337 := (hfvy245 (i + 19) (ne_o (i := i) (c := 19) (d := 0) rfl)).trans hgy336
                  have hgy338 := up_n egy253 hgy337 (ne_o (i := i) (c := 19) (d := 23) rfl)
                  have hgy339 := (hfvy260 (i + 19) (ne_o (i := i) (c := 19) (d := 0) rfl)).trans hgy338
                  have hgy340 := up_n egy267 hgy339 (ne_o (i := i) (c := 19) (d := 23) rfl)
                  have hgy341 := (hfvy278 (i + 19) (ne_o (i := i) (c := 19) (d := 0) rfl)).trans hgy340
                  have hgy342 := (hfvy15 (i + 20) (ne_o (i := i) (c := 20) (d := 0) rfl)).trans ha20
                  have hgy343 := (hfvy55 (i + 20) (ne_o (i := i) (c := 20) (d := 0) rfl)).trans hgy342
                  have hgy344 := (hfvy96 (i + 20) (ne_o (i := i) (c := 20) (d := 0) rfl)).trans hgy343
                  have hgy345 := (hfvy145 (i + 20) (ne_o (i := i) (c := 20) (d := 0) rfl)).trans hgy344
                  have hgy346 := (hfvy206 (i + 20) (ne_o (i := i) (c := 20) (d := 0) rfl)).trans hgy345
                  have hgy347 := (hfvy215 (i + 20) (ne_o (i := i) (c := 20) (d := 0) rfl)).trans hgy346
                  have hgy348 := (hfvy222 (i + 20) (ne_o (i := i) (c := 20) (d := 0) rfl)).trans hgy347
                  have hgy349 := up_n egy233 hgy348 (ne_o (i := i) (c := 20) (d := 23) rfl)
                  have hgy350 := (hfvy239 (i + 20) (ne_o (i := i) (c := 20) (d := 0) rfl)).trans hgy349
                  have hgy351 := (hfvy245 (i + 20) (ne_o (i := i) (c := 20) (d := 0) rfl)).trans hgy350
                  have hgy352 := up_n egy253 hgy351 (ne_o (i := i) (c := 20) (d := 23) rfl)
                  have hgy353 := (hfvy260 (i + 20) (ne_o (i := i) (c := 20) (d := 0) rfl)).trans hgy352
                  have hgy354 := up_n egy267 hgy353 (ne_o (i := i) (c := 20) (d := 23) rfl)
                  have hgy355 := (hfvy278 (i + 20) (ne_o (i := i) (c := 20) (d := 0) rfl)).trans hgy354
                  have hgy356 := (hfvy15 (i + 21) (ne_o (i := i) (c := 21) (d := 0) rfl)).trans ha21
                  have hgy357 := (hfvy55 (i + 21) (ne_o (i := i) (c := 21) (d := 0) rfl)).trans hgy356
                  have hgy358 := (hfvy96 (i + 21) (ne_o (i := i) (c := 21) (d := 0) rfl)).trans hgy357
                  have hgy359 := (hfvy145 (i + 21) (ne_o (i := i) (c := 21) (d := 0) rfl)).trans hgy358
                  have hgy360 := (hfvy206 (i + 21) (ne_o (i := i) (c := 21) (d := 0) rfl)).trans hgy359
                  have hgy361 := (hfvy215 (i + 21) (ne_o (i := i) (c := 21) (d := 0) rfl)).trans hgy360
                  have hgy362 := (hfvy222 (i + 21) (ne_o (i := i) (c := 21) (d := 0) rfl)).trans hgy361
                  have hgy363 := up_n egy233 hgy362 (ne_o (i := i) (c := 21) (d := 23) rfl)
                  have hgy364 := (hfvy239 (i + 21) (ne_o (i := i) (c := 21) (d := 0) rfl)).trans hgy363
                  have hgy365 := (hfvy245 (i + 21) (ne_o (i := i) (c := 21) (d := 0) rfl)).trans hgy364
                  have hgy366 := up_n egy253 hgy365 (ne_o (i := i) (c := 21) (d := 23) rfl)
                  have hgy367 := (hfvy260 (i + 21) (ne_o (i := i) (c := 21) (d := 0) rfl)).trans hgy366
                  have hgy368 := up_n egy267 hgy367 (ne_o (i := i) (c := 21) (d := 23) rfl)
                  have hgy369 := (hfvy278 (i + 21) (ne_o (i := i) (c := 21) (d := 0) rfl)).trans hgy368
                  have hgy370 := (hfvy15 (i + 22) (ne_o (i := i) (c := 22) (d := 0) rfl)).trans ha22
                  have hgy371 := (hfvy55 (i + 22) (ne_o (i := i) (c := 22) (d := 0) rfl)).trans hgy370
                  have hgy372 := (hfvy96 (i + 22) (ne_o (i := i) (c := 22) (d := 0) rfl)).trans hgy371
                  have hgy373 := (hfvy145 (i + 22) (ne_o (i := i) (c := 22) (d := 0) rfl)).trans hgy372
                  have hgy374 := (hfvy206 (i + 22) (ne_o (i := i) (c := 22) (d := 0) rfl)).trans hgy373
                  have hgy375 := (hfvy215 (i + 22) (ne_o (i := i) (c := 22) (d := 0) rfl)).trans hgy374
                  have hgy376 := (hfvy222 (i + 22) (ne_o (i := i) (c := 22) (d := 0) rfl)).trans hgy375
                  have hgy377 := up_n egy233 hgy376 (ne_o (i := i) (c := 22) (d := 23) rfl)
                  have hgy378 := (hfvy239 (i + 22) (ne_o (i := i) (c := 22) (d := 0) rfl)).trans hgy377
                  have hgy379 := (hfvy245 (i + 22) (ne_o (i := i) (c := 22) (d := 0) rfl)).trans hgy378
                  have hgy380 := up_n egy253 hgy379 (ne_o (i := i) (c := 22) (d := 23) rfl)
                  have hgy381 := (hfvy260 (i + 22) (ne_o (i := i) (c := 22) (d := 0) rfl)).trans hgy380
                  have hgy382 := up_n egy267 hgy381 (ne_o (i := i) (c := 22) (d := 23) rfl)
                  have hgy383 := (hfvy278 (i + 22) (ne_o (i := i) (c := 22) (d := 0) rfl)).trans hgy382
                  have hgy384 := (hfvy278 (i + 23) (ne_o (i := i) (c := 23) (d := 0) rfl)).trans hgy268
                  have htxy385 : okTx cs gvy278 i Fvy278 := ⟨_, _, _, _, _, _, _, _, ⟨hgy304, hgy318, hgy327, hgy341, hgy355, hgy369, hgy383, hgy384⟩, ⟨⟨by omega, by omega, by omega⟩, hop1, hmn1, hai1, hfa1, htb1, hlay289⟩⟩
                  exact z_vret C hr hlk dX10_layer1_272 (by decide) (by decide) ⟨rfl, rfl, rfl, ⟨_, hcvy278, hFy279, Or.inr ⟨(1, (tk_nx T n (tk_nx T n (tk_nx T n (tk_nx T n (tk_nx T n f)))))), by simp only [cl_layer, cl_layer2, hny58, if_neg hscy99, if_neg hscy156, if_neg hxvy220, hnvy245, hnvy260, hny274], by show Fvy278 38 = 1; omega, by show Fvy278 24 = (((tk_nx T n (tk_nx T n (tk_nx T n (tk_nx T n (tk_nx T n f))))) : Nat) : Int); omega, by show 1 ≤ 1 ∧ 1 ≤ 5; omega, ⟨_, htky280⟩, htxy385⟩⟩, fun j j1 j2 => by rw [hfvy278 _ (by omega)]; rw [egy267, va_up_ne _ _ (by omega)]; rw [hfvy260 _ (by omega)]; rw [egy253, va_up_ne _ _ (by omega)]; rw [hfvy245 _ (by omega)]; rw [hfvy239 _ (by omega)]; rw [egy233, va_up_ne _ _ (by omega)]; rw [hfvy222 _ (by omega)]; rw [hfvy215 _ (by omega)]; rw [hfvy206 _ (by omega)]; rw [hfvy145 _ (by omega)]; rw [hfvy96 _ (by omega)]; rw [hfvy55 _ (by omega)]; rw [hfvy15 _ (by omega)]⟩
                · have hsoy275 : tk_so T n (tk_nx T n (tk_nx T n (tk_nx T n (tk_nx T n (tk_nx T n f))))) = 2 := srt2.mp (by omega)
                  have hvly276 : vlu T n (tk_nx T n (tk_nx T n (tk_nx T n (tk_nx T n (tk_nx T n f))))) = tk_va T n (tk_nx T n (tk_nx T n (tk_nx T n (tk_nx T n (tk_nx T n f))))) := vlu2 hsoy275
                  have hfny277 := (so_ty (T := T) (n := n) (f := (tk_nx T n (tk_nx T n (tk_nx T n (tk_nx T n (tk_nx T n f)))))) (by omega)).1
                  refine z_iconst (z := 1) C dX10_layer1_204 rfl ?_
                  refine z_goto (tgt := 209) C dX10_layer1_205 (by decide) ?_
                  refine z_iconst (z := 1) C dX10_layer1_209 rfl ?_
                  have h33vy386 : Fvy260 33 = ((tk_nx T n (tk_nx T n (tk_nx T n (tk_nx T n (tk_nx T n f))))) : Int) := hkvy260.2.2.1
                  have h24vy386 : Fvy260 24 = F 24 := hbvy260
                  have htvy386 : tkR T n Fvy260 (tk_nx T n (tk_nx T n (tk_nx T n (tk_nx T n (tk_nx T n f))))) := hkvy260
                  refine z_cV (As := [.int (zI (1)), .int (zI (1))]) (rest := []) (ci := 12) C (c_yWants l D A cs tt N ad _ i hN _ hgy271 hevy260 (1) (by omega) (1) (by omega)) (lt_A0 hN rfl) hay1 hgy271 rfl rfl mv_yX10_wants q_1678 hd_yX10_wants (by decide) (Nat.le_of_ble_eq_true rfl) (by decide) dX10_layer1_210 rfl (kI0 fun vy386 gvy386 hvy386 => ?_)
                  obtain ⟨⟨Fvy386, hcvy386, hqvy386, hFvy386⟩, hfvy386⟩ := hvy386
                  obtain ⟨rfl, hevy386, hbvy386⟩ : vy386 = 1 ∧ Fvy386 38 = 0 ∧ Fvy386 24 = F 24 := by omega
                  clear hqvy386 h33vy386 h24vy386
                  have hkvy386 : tkR T n Fvy386 (tk_nx T n (tk_nx T n (tk_nx T n (tk_nx T n (tk_nx T n f))))) := tkR.w htvy386 hFvy386 (by omega)
                  refine z_if_eq (tgt := 272) C dX10_layer1_213 (by decide) (by omega) (fun h => absurd h (by omega)) (fun _ => ?_)
                  refine z_aload_n C 2 dX10_layer1_216 rfl ?_
                  refine z_aload_n C 2 dX10_layer1_217 rfl ?_
                  refine z_get (v := .int (zI (tk_va T n (tk_nx T n (tk_nx T n (tk_nx T n (tk_nx T n (tk_nx T n f)))))))) C (lt_A0 hN rfl) hay1 hcvy386 rfl inA_X10 36 (by decide) q_1495 rfl (fv (F := Fvy386) (f := 36) ((hFvy386 36 (by decide) (by decide)).trans (hkvy260.2.2.2.2.2.1.trans hvly276))) dX10_layer1_218 ?_
                  refine z_iconst (z := 1) C dX10_layer1_221 rfl ?_
                  refine z_sipush (z := 999) C dX10_layer1_222 (by decide) ?_
                  refine z_cS (As := [.int (zI (tk_va T n (tk_nx T n (tk_nx T n (tk_nx T n (tk_nx T n (tk_nx T n f))))))), .int (zI (1)), .int (zI (999))]) (rest := [.ref (ad i)]) C (c_X10_within l D A cs tt N ad _ (tk_va T n (tk_nx T n (tk_nx T n (tk_nx T n (tk_nx T n (tk_nx T n f)))))) (by omega) (1) (by omega) (999) (by omega)) ms_yX10_within q_1686 hd_yX10_within (by decide) (Nat.le_of_ble_eq_true rfl) (by decide) dX10_layer1_225 rfl (kI0 fun vy387 gvy387 hvy387 => ?_)
                  obtain ⟨hvy387, rfl⟩ := hvy387
                  rcases hvy387 with ⟨rfl, hxvy387⟩ | ⟨rfl, hxvy387⟩
                  · have hny388 : tk_nu T n 1 999 (tk_nx T n (tk_nx T n (tk_nx T n (tk_nx T n (tk_nx T n f))))) = .ok (tk_va T n (tk_nx T n (tk_nx T n (tk_nx T n (tk_nx T n (tk_nx T n f))))), tk_nx T n (tk_nx T n (tk_nx T n (tk_nx T n (tk_nx T n (tk_nx T n f)))))) := by unfold tk_nu; rw [if_neg (by omega), if_neg (by omega)]
                    refine z_iconst (z := 2) C dX10_layer1_228 rfl ?_
                    have h33vy389 : Fvy386 33 = ((tk_nx T n (tk_nx T n (tk_nx T n (tk_nx T n (tk_nx T n f))))) : Int) := ((hFvy386 33 (by decide) (by decide)).trans hkvy260.2.2.1)
                    have h24vy389 : Fvy386 24 = F 24 := hbvy386
                    have htvy389 : tkR T n Fvy386 (tk_nx T n (tk_nx T n (tk_nx T n (tk_nx T n (tk_nx T n f))))) := hkvy386
                    refine z_cV (As := [.int (zI (1)), .int (zI (2))]) (rest := []) (ci := 12) C (c_yWants l D A cs tt N ad _ i hN _ hcvy386 hevy386 (1) (by omega) (2) (by omega)) (lt_A0 hN rfl) hay1 hcvy386 rfl rfl mv_yX10_wants q_1678 hd_yX10_wants (by decide) (Nat.le_of_ble_eq_true rfl) (by decide) dX10_layer1_229 rfl (kI0 fun vy389 gvy389 hvy389 => ?_)
                    obtain ⟨⟨Fvy389, hcvy389, hqvy389, hFvy389⟩, hfvy389⟩ := hvy389
                    obtain ⟨rfl, hevy389, hbvy389⟩ : vy389 = 1 ∧ Fvy389 38 = 0 ∧ Fvy389 24 = F 24 := by omega
                    clear hqvy389 h33vy389 h24vy389
                    have hkvy389 : tkR T n Fvy389 (tk_nx T n (tk_nx T n (tk_nx T n (tk_nx T n (tk_nx T n f))))) := tkR.w htvy389 hFvy389 (by omega)
                    refine z_if_eq (tgt := 272) C dX10_layer1_232 (by decide) (by omega) (fun h => absurd h (by omega)) (fun _ => ?_)
                    refine z_aload_n C 2 dX10_layer1_235 rfl ?_
                    refine z_aload_n C 2 dX10_layer1_236 rfl ?_
                    refine z_get (v := .int (zI (tk_va T n (tk_nx T n (tk_nx T n (tk_nx T n (tk_nx T n (tk_nx T n f)))))))) C (lt_A0 hN rfl) hay1 hcvy389 rfl inA_X10 36 (by decide) q_1495 rfl (fv (F := Fvy389) (f := 36) ((hFvy389 36 (by decide) (by decide)).trans ((hFvy386 36 (by decide) (by decide)).trans (hkvy260.2.2.2.2.2.1.trans hvly276)))) dX10_layer1_237 ?_
                    refine z_aload_n C 2 dX10_layer1_240 rfl ?_
                    refine z_get (v := .ref (ad (i + 23))) C (lt_A0 hN rfl) hay1 hcvy389 rfl inA_X10 46 (by decide) q_1505 rfl rfl dX10_layer1_241 ?_
                    refine z_iload_n C 0 dX10_layer1_244 rfl ?_
                    refine z_iconst (z := 1) C dX10_layer1_245 rfl ?_
                    refine z_iadd C dX10_layer1_246 ?_
                    have hgy390 := (hfvy386 (i + 23) (ne_o (i := i) (c := 23) (d := 0) rfl)).trans hgy268
                    have hgy391 := (hfvy389 (i + 23) (ne_o (i := i) (c := 23) (d := 0) rfl)).trans hgy390
                    refine z_iald C (lt_A (c := 23) hN rfl) hay14 hgy391 (kqy209 + 1) (by omega) (by omega) (by decide) dX10_layer1_247 ?_
                    rw [show ry269 (kqy209 + 1) = vy245 from (congrFun hvy270 _).trans ((uZ_n _ _ (by omega)).trans ((congrFun hvy256 _).trans (uZ_s _ _ _)))]
                    refine z_aload_n C 2 dX10_layer1_248 rfl ?_
                    refine z_get (v := .ref (ad (i + 23))) C (lt_A0 hN rfl) hay1 hcvy389 rfl inA_X10 46 (by decide) q_1505 rfl rfl dX10_layer1_249 ?_
                    refine z_iload_n C 0 dX10_layer1_252 rfl ?_
                    refine z_iconst (z := 2) C dX10_layer1_253 rfl ?_
                    refine z_iadd C dX10_layer1_254 ?_
                    refine z_iald C (lt_A (c := 23) hN rfl) hay14 hgy391 (kqy209 + 2) (by omega) (by omega) (by decide) dX10_layer1_255 ?_
                    rw [show ry269 (kqy209 + 2) = vy260 from (congrFun hvy270 _).trans (uZ_s _ _ _)]
                    refine z_iadd C dX10_layer1_256 ?_
                    refine z_icmp_lt (tgt := 264) C dX10_layer1_257 (by decide) (by omega) (by omega) (fun hby392 => ?_) (fun hby392 => ?_)
                    · have hscy393 : (tk_va T n (tk_nx T n (tk_nx T n (tk_nx T n (tk_nx T n (tk_nx T n f))))) < vy245 + vy260) := by omega
                      refine z_iconst (z := 0) C dX10_layer1_264 rfl ?_
                      refine z_iconst (z := 5) C dX10_layer1_265 rfl ?_
                      have h33vy395 : Fvy389 33 = ((tk_nx T n (tk_nx T n (tk_nx T n (tk_nx T n (tk_nx T n f))))) : Int) := ((hFvy389 33 (by decide) (by decide)).trans ((hFvy386 33 (by decide) (by decide)).trans hkvy260.2.2.1))
                      have h24vy395 : Fvy389 24 = F 24 := hbvy389
                      have htvy395 : tkR T n Fvy389 (tk_nx T n (tk_nx T n (tk_nx T n (tk_nx T n (tk_nx T n f))))) := hkvy389
                      refine z_cV (As := [.int (zI (0)), .int (zI (5))]) (rest := []) (ci := 12) C (c_yWants l D A cs tt N ad _ i hN _ hcvy389 hevy389 (0) (by omega) (5) (by omega)) (lt_A0 hN rfl) hay1 hcvy389 rfl rfl mv_yX10_wants q_1678 hd_yX10_wants (by decide) (Nat.le_of_ble_eq_true rfl) (by decide) dX10_layer1_266 rfl (kI0 fun vy395 gvy395 hvy395 => ?_)
                      obtain ⟨⟨Fvy395, hcvy395, hqvy395, hFvy395⟩, hfvy395⟩ := hvy395
                      obtain ⟨rfl, hevy395, hbvy395⟩ : vy395 = 0 ∧ Fvy395 38 = 5 ∧ Fvy395 24 = ((tk_nx T n (tk_nx T n (tk_nx T n (tk_nx T n (tk_nx T n f))))) : Int) := by omega
                      clear hqvy395 h33vy395 h24vy395
                      have hkvy395 : tkR T n Fvy395 (tk_nx T n (tk_nx T n (tk_nx T n (tk_nx T n (tk_nx T n f))))) := tkR.w htvy395 hFvy395 (by omega)
                      refine z_if_ne (tgt := 273) C dX10_layer1_269 (by decide) (by omega) (fun h => absurd h (by omega)) (fun _ => ?_)
                      have hFy396 : ∀ f, f ≠ 24 → f ≠ 32 → f ≠ 33 → f ≠ 35 → f ≠ 36 → f ≠ 37 → f ≠ 38 → f ≠ 47 → f ≠ 48 → f ≠ 49 → Fvy395 f = F f := fun f n24 n32 n33 n35 n36 n37 n38 n47 n48 n49 => ((hFvy395 f n24 n38).trans ((hFvy389 f n24 n38).trans ((hFvy386 f n24 n38).trans ((hFvy260 f n24 n32 n33 n35 n36 n37 n38).trans ((hFvy245 f n24 n32 n33 n35 n36 n37 n38).trans ((hFvy239 f n32 n33 n35 n36 n37).trans ((hFvy222 f n24 n38).trans ((hFvy215 f n32 n33 n35 n36 n37).trans ((hFvy206 f n24 n38).trans ((hFvy145 f n24 n38).trans ((hFvy96 f n24 n38).trans ((hFvy55 f n24 n38).trans (hFvy15 f n32 n33 n35 n36 n37)))))))))))))
                      have htky397 : tkR T n Fvy395 (tk_nx T n (tk_nx T n (tk_nx T n (tk_nx T n (tk_nx T n f))))) := hkvy395
                      have htoy398 := tk_to_w (T := T) (n := n) (f := (tk_nx T n (tk_nx T n (tk_nx T n (tk_nx T n (tk_nx T n f)))))) htky397.1.1
                      have h32y399 := htky397.2.1
                      have hey400 : Fvy395 24 = ((tk_nx T n (tk_nx T n (tk_nx T n (tk_nx T n (tk_nx T n f))))) : Int) := hbvy395
                      have hey401 : Fvy395 38 = 5 := hevy395
                      have hey402 : Fvy395 47 = sl := ((hFvy395 47 (by decide) (by decide)).trans ((hFvy389 47 (by decide) (by decide)).trans ((hFvy386 47 (by decide) (by decide)).trans ((hFvy260 47 (by decide) (by decide) (by decide) (by decide) (by decide) (by decide) (by decide)).trans ((hFvy245 47 (by decide) (by decide) (by decide) (by decide) (by decide) (by decide) (by decide)).trans ((hFvy239 47 (by decide) (by decide) (by decide) (by decide) (by decide)).trans ((hFvy222 47 (by decide) (by decide)).trans ((hFvy215 47 (by decide) (by decide) (by decide) (by decide) (by decide)).trans ((hFvy206 47 (by decide) (by decide)).trans ((hFvy145 47 (by decide) (by decide)).trans ((hFvy96 47 (by decide) (by decide)).trans ((hFvy55 47 (by decide) (by decide)).trans ((hFvy15 47 (by decide) (by decide) (by decide) (by decide) (by decide)).trans r47)))))))))))))
                      have hey403 : Fvy395 48 = ho := ((hFvy395 48 (by decide) (by decide)).trans ((hFvy389 48 (by decide) (by decide)).trans ((hFvy386 48 (by decide) (by decide)).trans ((hFvy260 48 (by decide) (by decide) (by decide) (by decide) (by decide) (by decide) (by decide)).trans ((hFvy245 48 (by decide) (by decide) (by decide) (by decide) (by decide) (by decide) (by decide)).trans ((hFvy239 48 (by decide) (by decide) (by decide) (by decide) (by decide)).trans ((hFvy222 48 (by decide) (by decide)).trans ((hFvy215 48 (by decide) (by decide) (by decide) (by decide) (by decide)).trans ((hFvy206 48 (by decide) (by decide)).trans ((hFvy145 48 (by decide) (by decide)).trans ((hFvy96 48 (by decide) (by decide)).trans ((hFvy55 48 (by decide) (by decide)).trans ((hFvy15 48 (by decide) (by decide) (by decide) (by decide) (by decide)).trans r48)))))))))))))
                      have hey404 : Fvy395 49 = nm := ((hFvy395 49 (by decide) (by decide)).trans ((hFvy389 49 (by decide) (by decide)).trans ((hFvy386 49 (by decide) (by decide)).trans ((hFvy260 49 (by decide) (by decide) (by decide) (by decide) (by decide) (by decide) (by decide)).trans ((hFvy245 49 (by decide) (by decide) (by decide) (by decide) (by decide) (by decide) (by decide)).trans ((hFvy239 49 (by decide) (by decide) (by decide) (by decide) (by decide)).trans ((hFvy222 49 (by decide) (by decide)).trans ((hFvy215 49 (by decide) (by decide) (by decide) (by decide) (by decide)).trans ((hFvy206 49 (by decide) (by decide)).trans ((hFvy145 49 (by decide) (by decide)).trans ((hFvy96 49 (by decide) (by decide)).trans ((hFvy55 49 (by decide) (by decide)).trans ((hFvy15 49 (by decide) (by decide) (by decide) (by decide) (by decide)).trans r49)))))))))))))
                      have hfry407 : ∀ j, j ≠ kqy209 + 2 → j ≠ kqy209 + 1 → j ≠ kqy209 → ry269 j = ly1 j := fun j n0 n1 n2 => (congrFun hvy270 _).trans ((uZ_n _ _ n0).trans ((congrFun hvy256 _).trans ((uZ_n _ _ n1).trans ((congrFun hvy236 _).trans ((uZ_n _ _ n2).trans (rfl))))))
                      have hlay406 : ∀ s l : Nat, (s : Int) < Fvy395 47 → (l : Int) < mn1 s → lyT ry269 (84 * s + 7 * l) := by
                        intro s l a1 a2
                        have hm9 := hmn1 s (by omega)
                        by_cases e : s = ny146
                        · subst e; exact (hly1 s l (by omega) a2).ext (fun j b1 b2 => hfry407 j (by omega) (by omega) (by omega))
                        · exact (hly1 s l (by omega) a2).ext (fun j b1 b2 => hfry407 j (by omega) (by omega) (by omega))
                      have hgy408 := (hfvy15 (i + 16) (ne_o (i := i) (c := 16) (d := 0) rfl)).trans ha16
                      have hgy409 := (hfvy55 (i + 16) (ne_o (i := i) (c := 16) (d := 0) rfl)).trans hgy408
                      have hgy410 := (hfvy96 (i + 16) (ne_o (i := i) (c := 16) (d := 0) rfl)).trans hgy409
                      have hgy411 := (hfvy145 (i + 16) (ne_o (i := i) (c := 16) (d := 0) rfl)).trans hgy410
                      have hgy412 := (hfvy206 (i + 16) (ne_o (i := i) (c := 16) (d := 0) rfl)).trans hgy411
                      have hgy413 := (hfvy215 (i + 16) (ne_o (i := i) (c := 16) (d := 0) rfl)).trans hgy412
                      have hgy414 := (hfvy222 (i + 16) (ne_o (i := i) (c := 16) (d := 0) rfl)).trans hgy413
                      have hgy415 := up_n egy233 hgy414 (ne_o (i := i) (c := 16) (d := 23) rfl)
                      have hgy416 := (hfvy239 (i + 16) (ne_o (i := i) (c := 16) (d := 0) rfl)).trans hgy415
                      have hgy417 := (hfvy245 (i + 16) (ne_o (i := i) (c := 16) (d := 0) rfl)).trans hgy416
                      have hgy418 := up_n egy253 hgy417 (ne_o (i := i) (c := 16) (d := 23) rfl)
                      have hgy419 := (hfvy260 (i + 16) (ne_o (i := i) (c := 16) (d := 0) rfl)).trans hgy418
                      have hgy420 := up_n egy267 hgy419 (ne_o (i := i) (c := 16) (d := 23) rfl)
                      have hgy421 := (hfvy386 (i + 16) (ne_o (i := i) (c := 16) (d := 0) rfl)).trans hgy420
                      have hgy422 := (hfvy389 (i + 16) (ne_o (i := i) (c := 16) (d := 0) rfl)).trans hgy421
                      have hgy423 := (hfvy395 (i + 16) (ne_o (i := i) (c := 16) (d := 0) rfl)).trans hgy422
                      have hgy424 := (hfvy15 (i + 17) (ne_o (i := i) (c := 17) (d := 0) rfl)).trans ha17
                      have hgy425 := (hfvy55 (i + 17) (ne_o (i := i) (c := 17) (d := 0) rfl)).trans hgy424
                      have hgy426 := (hfvy96 (i + 17) (ne_o (i := i) (c := 17) (d := 0) rfl)).trans hgy425
                      have hgy427 := (hfvy145 (i + 17) (ne_o (i := i) (c := 17) (d := 0) rfl)).trans hgy426
                      have hgy428 := (hfvy206 (i + 17) (ne_o (i := i) (c := 17) (d := 0) rfl)).trans hgy427
                      have hgy429 := (hfvy215 (i + 17) (ne_o (i := i) (c := 17) (d := 0) rfl)).trans hgy428
                      have hgy430 := (hfvy222 (i + 17) (ne_o (i := i) (c := 17) (d := 0) rfl)).trans hgy429
                      have hgy431 := up_n egy233 hgy430 (ne_o (i := i) (c := 17) (d := 23) rfl)
                      have hgy432 := (hfvy239 (i + 17) (ne_o (i := i) (c := 17) (d := 0) rfl)).trans hgy431
                      have hgy433 := (hfvy245 (i + 17) (ne_o (i := i) (c := 17) (d := 0) rfl)).trans hgy432
                      have hgy434 := up_n egy253 hgy433 (ne_o (i := i) (c := 17) (d := 23) rfl)
                      have hgy435 := (hfvy260 (i + 17) (ne_o (i := i) (c := 17) (d := 0) rfl)).trans hgy434
                      have hgy436 := up_n egy267 hgy435 (ne_o (i := i) (c := 17) (d := 23) rfl)
                      have hgy437 := (hfvy386 (i + 17) (ne_o (i := i) (c := 17) (d := 0) rfl)).trans hgy436
                      have hgy438 := (hfvy389 (i + 17) (ne_o (i := i) (c := 17) (d := 0) rfl)).trans hgy437
                      have hgy439 := (hfvy395 (i + 17) (ne_o (i := i) (c := 17) (d := 0) rfl)).trans hgy438
                      have hgy440 := (hfvy215 (i + 18) (ne_o (i := i) (c := 18) (d := 0) rfl)).trans hgy207
                      have hgy441 := (hfvy222 (i + 18) (ne_o (i := i) (c := 18) (d := 0) rfl)).trans hgy440
                      have hgy442 := up_n egy233 hgy441 (ne_o (i := i) (c := 18) (d := 23) rfl)
                      have hgy443 := (hfvy239 (i + 18) (ne_o (i := i) (c := 18) (d := 0) rfl)).trans hgy442
                      have hgy444 := (hfvy245 (i + 18) (ne_o (i := i) (c := 18) (d := 0) rfl)).trans hgy443
                      have hgy445 := up_n egy253 hgy444 (ne_o (i := i) (c := 18) (d := 23) rfl)
                      have hgy446 := (hfvy260 (i + 18) (ne_o (i := i) (c := 18) (d := 0) rfl)).trans hgy445
                      have hgy447 := up_n egy267 hgy446 (ne_o (i := i) (c := 18) (d := 23) rfl)
                      have hgy448 := (hfvy386 (i + 18) (ne_o (i := i) (c := 18) (d := 0) rfl)).trans hgy447
                      have hgy449 := (hfvy389 (i + 18) (ne_o (i := i) (c := 18) (d := 0) rfl)).trans hgy448
                      have hgy450 := (hfvy395 (i + 18) (ne_o (i := i) (c := 18) (d := 0) rfl)).trans hgy449
                      have hgy451 := (hfvy15 (i + 19) (ne_o (i := i) (c := 19) (d := 0) rfl)).trans ha19
                      have hgy452 := (hfvy55 (i + 19) (ne_o (i := i) (c := 19) (d := 0) rfl)).trans hgy451
                      have hgy453 := (hfvy96 (i + 19) (ne_o (i := i) (c := 19) (d := 0) rfl)).trans hgy452
                      have hgy454 := (hfvy145 (i + 19) (ne_o (i := i) (c := 19) (d := 0) rfl)).trans hgy453
                      have hgy455 := (hfvy206 (i + 19) (ne_o (i := i) (c := 19) (d := 0) rfl)).trans hgy454
                      have hgy456 := (hfvy215 (i + 19) (ne_o (i := i) (c := 19) (d := 0) rfl)).trans hgy455
                      have hgy457 := (hfvy222 (i + 19) (ne_o (i := i) (c := 19) (d := 0) rfl)).trans hgy456
                      have hgy458 := up_n egy233 hgy457 (ne_o (i := i) (c := 19) (d := 23) rfl)
                      have hgy459 := (hfvy239 (i + 19) (ne_o (i := i) (c := 19) (d := 0) rfl)).trans hgy458
                      have hgy460 := (hfvy245 (i + 19) (ne_o (i := i) (c := 19) (d := 0) rfl)).trans hgy459
                      have hgy461 := up_n egy253 hgy460 (ne_o (i := i) (c := 19) (d := 23) rfl)
                      have hgy462 := (hfvy260 (i + 19) (ne_o (i := i) (c := 19) (d := 0) rfl)).trans hgy461
                      have hgy463 := up_n egy267 hgy462 (ne_o (i := i) (c := 19) (d := 23) rfl)
                      have hgy464 := (hfvy386 (i + 19) (ne_o (i := i) (c := 19) (d := 0) rfl)).trans hgy463
                      have hgy465 := (hfvy389 (i + 19) (ne_o (i := i) (c := 19) (d := 0) rfl)).trans hgy464
                      have hgy466 := (hfvy395 (i + 19) (ne_o (i := i) (c := 19) (d := 0) rfl)).trans hgy465
                      have hgy467 := (hfvy15 (i + 20) (ne_o (i := i) (c := 20) (d := 0) rfl)).trans ha20
                      have hgy468 := (hfvy55 (i + 20) (ne_o (i := i) (c := 20) (d := 0) rfl)).trans hgy467
                      have hgy469 := (hfvy96 (i + 20) (ne_o (i := i) (c := 20) (d := 0) rfl)).trans hgy468
                      have hgy470 := (hfvy145 (i + 20) (ne_o (i := i) (c := 20) (d := 0) rfl)).trans hgy469
                      have hgy471 := (hfvy206 (i + 20) (ne_o (i := i) (c := 20) (d := 0) rfl)).trans hgy470
                      have hgy472 := (hfvy215 (i + 20) (ne_o (i := i) (c := 20) (d := 0) rfl)).trans hgy471
                      have hgy473 := (hfvy222 (i + 20) (ne_o (i := i) (c := 20) (d := 0) rfl)).trans hgy472
                      have hgy474 := up_n egy233 hgy473 (ne_o (i := i) (c := 20) (d := 23) rfl)
                      have hgy475 := (hfvy239 (i + 20) (ne_o (i := i) (c := 20) (d := 0) rfl)).trans hgy474
                      have hgy476 := (hfvy245 (i + 20) (ne_o (i := i) (c := 20) (d := 0) rfl)).trans hgy475
                      have hgy477 := up_n egy253 hgy476 (ne_o (i := i) (c := 20) (d := 23) rfl)
                      have hgy478 := (hfvy260 (i + 20) (ne_o (i := i) (c := 20) (d := 0) rfl)).trans hgy477
                      have hgy479 := up_n egy267 hgy478 (ne_o (i := i) (c := 20) (d := 23) rfl)
                      have hgy480 := (hfvy386 (i + 20) (ne_o (i := i) (c := 20) (d := 0) rfl)).trans hgy479
                      have hgy481 := (hfvy389 (i + 20) (ne_o (i := i) (c := 20) (d := 0) rfl)).trans hgy480
                      have hgy482 := (hfvy395 (i + 20) (ne_o (i := i) (c := 20) (d := 0) rfl)).trans hgy481
                      have hgy483 := (hfvy15 (i + 21) (ne_o (i := i) (c := 21) (d := 0) rfl)).trans ha21
                      have hgy484 := (hfvy55 (i + 21) (ne_o (i := i) (c := 21) (d := 0) rfl)).trans hgy483
                      have hgy485 := (hfvy96 (i + 21) (ne_o (i := i) (c := 21) (d := 0) rfl)).trans hgy484
                      have hgy486 := (hfvy145 (i + 21) (ne_o (i := i) (c := 21) (d := 0) rfl)).trans hgy485
                      have hgy487 := (hfvy206 (i + 21) (ne_o (i := i) (c := 21) (d := 0) rfl)).trans hgy486
                      have hgy488 := (hfvy215 (i + 21) (ne_o (i := i) (c := 21) (d := 0) rfl)).trans hgy487
                      have hgy489 := (hfvy222 (i + 21) (ne_o (i := i) (c := 21) (d := 0) rfl)).trans hgy488
                      have hgy490 := up_n egy233 hgy489 (ne_o (i := i) (c := 21) (d := 23) rfl)
                      have hgy491 := (hfvy239 (i + 21) (ne_o (i := i) (c := 21) (d := 0) rfl)).trans hgy490
                      have hgy492 := (hfvy245 (i + 21) (ne_o (i := i) (c := 21) (d := 0) rfl)).trans hgy491
                      have hgy493 := up_n egy253 hgy492 (ne_o (i := i) (c := 21) (d := 23) rfl)
                      have hgy494 := (hfvy260 (i + 21) (ne_o (i := i) (c := 21) (d := 0) rfl)).trans hgy493
                      have hgy495 := up_n egy267 hgy494 (ne_o (i := i) (c := 21) (d := 23) rfl)
                      have hgy496 := (hfvy386 (i + 21) (ne_o (i := i) (c := 21) (d := 0) rfl)).trans hgy495
                      have hgy497 := (hfvy389 (i + 21) (ne_o (i := i) (c := 21) (d := 0) rfl)).trans hgy496
                      have hgy498 := (hfvy395 (i + 21) (ne_o (i := i) (c := 21) (d := 0) rfl)).trans hgy497
                      have hgy499 := (hfvy15 (i + 22) (ne_o (i := i) (c := 22) (d := 0) rfl)).trans ha22
                      have hgy500 := (hfvy55 (i + 22) (ne_o (i := i) (c := 22) (d := 0) rfl)).trans hgy499
                      have hgy501 := (hfvy96 (i + 22) (ne_o (i := i) (c := 22) (d := 0) rfl)).trans hgy500
                      have hgy502 := (hfvy145 (i + 22) (ne_o (i := i) (c := 22) (d := 0) rfl)).trans hgy501
                      have hgy503 := (hfvy206 (i + 22) (ne_o (i := i) (c := 22) (d := 0) rfl)).trans hgy502
                      have hgy504 := (hfvy215 (i + 22) (ne_o (i := i) (c := 22) (d := 0) rfl)).trans hgy503
                      have hgy505 := (hfvy222 (i + 22) (ne_o (i := i) (c := 22) (d := 0) rfl)).trans hgy504
                      have hgy506 := up_n egy233 hgy505 (ne_o (i := i) (c := 22) (d := 23) rfl)
                      have hgy507 := (hfvy239 (i + 22) (ne_o (i := i) (c := 22) (d := 0) rfl)).trans hgy506
                      have hgy508 := (hfvy245 (i + 22) (ne_o (i := i) (c := 22) (d := 0) rfl)).trans hgy507
                      have hgy509 := up_n egy253 hgy508 (ne_o (i := i) (c := 22) (d := 23) rfl)
                      have hgy510 := (hfvy260 (i + 22) (ne_o (i := i) (c := 22) (d := 0) rfl)).trans hgy509
                      have hgy511 := up_n egy267 hgy510 (ne_o (i := i) (c := 22) (d := 23) rfl)
                      have hgy512 := (hfvy386 (i + 22) (ne_o (i := i) (c := 22) (d := 0) rfl)).trans hgy511
                      have hgy513 := (hfvy389 (i + 22) (ne_o (i := i) (c := 22) (d := 0) rfl)).trans hgy512
                      have hgy514 := (hfvy395 (i + 22) (ne_o (i := i) (c := 22) (d := 0) rfl)).trans hgy513
                      have hgy515 := (hfvy395 (i + 23) (ne_o (i := i) (c := 23) (d := 0) rfl)).trans hgy391
                      have htxy516 : okTx cs gvy395 i Fvy395 := ⟨_, _, _, _, _, _, _, _, ⟨hgy423, hgy439, hgy450, hgy466, hgy482, hgy498, hgy514, hgy515⟩, ⟨⟨by omega, by omega, by omega⟩, hop1, hmn1, hai1, hfa1, htb1, hlay406⟩⟩
                      exact z_vret C hr hlk dX10_layer1_272 (by decide) (by decide) ⟨rfl, rfl, rfl, ⟨_, hcvy395, hFy396, Or.inr ⟨(5, (tk_nx T n (tk_nx T n (tk_nx T n (tk_nx T n (tk_nx T n f)))))), by simp only [cl_layer, cl_layer2, hny58, if_neg hscy99, if_neg hscy156, if_neg hxvy220, hnvy245, hnvy260, hny388, if_pos hscy393], by show Fvy395 38 = 5; omega, by show Fvy395 24 = (((tk_nx T n (tk_nx T n (tk_nx T n (tk_nx T n (tk_nx T n f))))) : Nat) : Int); omega, by show 1 ≤ 5 ∧ 5 ≤ 5; omega, ⟨_, htky397⟩, htxy516⟩⟩, fun j j1 j2 => by rw [hfvy395 _ (by omega)]; rw [hfvy389 _ (by omega)]; rw [hfvy386 _ (by omega)]; rw [egy267, va_up_ne _ _ (by omega)]; rw [hfvy260 _ (by omega)]; rw [egy253, va_up_ne _ _ (by omega)]; rw [hfvy245 _ (by omega)]; rw [hfvy239 _ (by omega)]; rw [egy233, va_up_ne _ _ (by omega)]; rw [hfvy222 _ (by omega)]; rw [hfvy215 _ (by omega)]; rw [hfvy206 _ (by omega)]; rw [hfvy145 _ (by omega)]; rw [hfvy96 _ (by omega)]; rw [hfvy55 _ (by omega)]; rw [hfvy15 _ (by omega)]⟩
                    · have hscy394 : ¬ (tk_va T n (tk_nx T n (tk_nx T n (tk_nx T n (tk_nx T n (tk_nx T n f))))) < vy245 + vy260) := by omega
                      refine z_iconst (z := 1) C dX10_layer1_260 rfl ?_
                      refine z_goto (tgt := 265) C dX10_layer1_261 (by decide) ?_
                      refine z_iconst (z := 5) C dX10_layer1_265 rfl ?_
                      have h33vy517 : Fvy389 33 = ((tk_nx T n (tk_nx T n (tk_nx T n (tk_nx T n (tk_nx T n f))))) : Int) := ((hFvy389 33 (by decide) (by decide)).trans ((hFvy386 33 (by decide) (by decide)).trans hkvy260.2.2.1))
                      have h24vy517 : Fvy389 24 = F 24 := hbvy389
                      have htvy517 : tkR T n Fvy389 (tk_nx T n (tk_nx T n (tk_nx T n (tk_nx T n (tk_nx T n f))))) := hkvy389
                      refine z_cV (As := [.int (zI (1)), .int (zI (5))]) (rest := []) (ci := 12) C (c_yWants l D A cs tt N ad _ i hN _ hcvy389 hevy389 (1) (by omega) (5) (by omega)) (lt_A0 hN rfl) hay1 hcvy389 rfl rfl mv_yX10_wants q_1678 hd_yX10_wants (by decide) (Nat.le_of_ble_eq_true rfl) (by decide) dX10_layer1_266 rfl (kI0 fun vy517 gvy517 hvy517 => ?_)
                      obtain ⟨⟨Fvy517, hcvy517, hqvy517, hFvy517⟩, hfvy517⟩ := hvy517
                      obtain ⟨rfl, hevy517, hbvy517⟩ : vy517 = 1 ∧ Fvy517 38 = 0 ∧ Fvy517 24 = F 24 := by omega
                      clear hqvy517 h33vy517 h24vy517
                      have hkvy517 : tkR T n Fvy517 (tk_nx T n (tk_nx T n (tk_nx T n (tk_nx T n (tk_nx T n f))))) := tkR.w htvy517 hFvy517 (by omega)
                      refine z_if_ne (tgt := 273) C dX10_layer1_269 (by decide) (by omega) (fun _ => ?_) (fun h => absurd h (by omega))
                      refine z_aload_n C 2 dX10_layer1_273 rfl ?_
                      refine z_get (v := .ref (ad (i + 23))) C (lt_A0 hN rfl) hay1 hcvy517 rfl inA_X10 46 (by decide) q_1505 rfl rfl dX10_layer1_274 ?_
                      refine z_iload_n C 0 dX10_layer1_277 rfl ?_
                      refine z_iconst (z := 3) C dX10_layer1_278 rfl ?_
                      refine z_iadd C dX10_layer1_279 ?_
                      refine z_aload_n C 2 dX10_layer1_280 rfl ?_
                      refine z_get (v := .int (zI (tk_va T n (tk_nx T n (tk_nx T n (tk_nx T n (tk_nx T n (tk_nx T n f)))))))) C (lt_A0 hN rfl) hay1 hcvy517 rfl inA_X10 36 (by decide) q_1495 rfl (fv (F := Fvy517) (f := 36) ((hFvy517 36 (by decide) (by decide)).trans ((hFvy389 36 (by decide) (by decide)).trans ((hFvy386 36 (by decide) (by decide)).trans (hkvy260.2.2.2.2.2.1.trans hvly276))))) dX10_layer1_281 ?_
                      have hgy518 := (hfvy517 (i + 23) (ne_o (i := i) (c := 23) (d := 0) rfl)).trans hgy391
                      refine z_iast C (lt_A (c := 23) hN rfl) hay14 hgy518 (kqy209 + 3) (by omega) (by omega) (by decide) dX10_layer1_284 (fun gy519 egy520 => ?_)
                      have hgy521 := up_s egy520
                      obtain ⟨ry522, hvy523⟩ : ∃ rZ9 : Nat → Int, rZ9 = uZ ry269 (kqy209 + 3) (tk_va T n (tk_nx T n (tk_nx T n (tk_nx T n (tk_nx T n (tk_nx T n f)))))) := ⟨_, rfl⟩
                      rw [← hvy523] at hgy521
                      refine z_aload_n C 2 dX10_layer1_285 rfl ?_
                      have hgy524 := up_n egy520 hcvy517 (ne_o (i := i) (c := 0) (d := 23) rfl)
                      have hgy525 := (hfvy260 (i + 13) (ne_o (i := i) (c := 13) (d := 0) rfl)).trans hgy259
                      have hgy526 := up_n egy267 hgy525 (ne_o (i := i) (c := 13) (d := 23) rfl)
                      have hgy527 := (hfvy386 (i + 13) (ne_o (i := i) (c := 13) (d := 0) rfl)).trans hgy526
                      have hgy528 := (hfvy389 (i + 13) (ne_o (i := i) (c := 13) (d := 0) rfl)).trans hgy527
                      have hgy529 := (hfvy517 (i + 13) (ne_o (i := i) (c := 13) (d := 0) rfl)).trans hgy528
                      have hgy530 := up_n egy520 hgy529 (ne_o (i := i) (c := 13) (d := 23) rfl)
                      have htvy531 : tkR T n Fvy517 (tk_nx T n (tk_nx T n (tk_nx T n (tk_nx T n (tk_nx T n f))))) := hkvy517
                      refine z_cV (As := []) (rest := []) (ci := 12) C (c_yGo l D A cs tt N ad _ i hN _ hgy524 _ hgy530 T n hn hTb hTt htp (tk_to T n (tk_nx T n (tk_nx T n (tk_nx T n (tk_nx T n (tk_nx T n f)))))) (tk_to_b htvy531.1.1).2.1 htvy531.2.1 htvy531.2.2.2.1 htvy531.2.2.2.2.2.2.2) (lt_A0 hN rfl) hay1 hgy524 rfl rfl mv_yX10_go q_1652 hd_yX10_go (by decide) (Nat.le_of_ble_eq_true rfl) (by decide) dX10_layer1_286 rfl (kV0 fun gvy531 hvy531 => ?_)
                      obtain ⟨⟨Fvy531, hcvy531, hjvy531, hFvy531⟩, hfvy531⟩ := hvy531
                      have hkvy531 : tkR T n Fvy531 (tk_nx T n (tk_nx T n (tk_nx T n (tk_nx T n (tk_nx T n (tk_nx T n f)))))) := hjvy531
                      have hnbvy531 := tk_nx_w (T := T) (n := n) (f := (tk_nx T n (tk_nx T n (tk_nx T n (tk_nx T n (tk_nx T n f)))))) htvy531.1.1
                      clear hjvy531
                      have hsry532 := srt_b T n (tk_nx T n (tk_nx T n (tk_nx T n (tk_nx T n (tk_nx T n (tk_nx T n f))))))
                      have hvly533 := vlu_b hTb (tk_nx T n (tk_nx T n (tk_nx T n (tk_nx T n (tk_nx T n (tk_nx T n f))))))
                      have hwby534 := tk_w_b T n (tk_nx T n (tk_nx T n (tk_nx T n (tk_nx T n (tk_nx T n (tk_nx T n f))))))
                      have hfny535 := hkvy531.1
                      refine z_aload_n C 2 dX10_layer1_289 rfl ?_
                      refine z_get (v := .ref (ad (i + 23))) C (lt_A0 hN rfl) hay1 hcvy531 rfl inA_X10 46 (by decide) q_1505 rfl rfl dX10_layer1_290 ?_
                      refine z_iload_n C 0 dX10_layer1_293 rfl ?_
                      refine z_iconst (z := 4) C dX10_layer1_294 rfl ?_
                      refine z_iadd C dX10_layer1_295 ?_
                      refine z_aload_n C 2 dX10_layer1_296 rfl ?_
                      refine z_iconst (z := 0) C dX10_layer1_297 rfl ?_
                      refine z_sipush (z := 300) C dX10_layer1_298 (by decide) ?_
                      have hgy536 := (hfvy531 (i + 13) (ne_o (i := i) (c := 13) (d := 0) rfl)).trans hgy530
                      have h24vy537 : Fvy531 24 = F 24 := ((hFvy531 24 (by decide) (by decide) (by decide) (by decide) (by decide)).trans hbvy517)
                      refine z_cV (As := [.int (zI (0)), .int (zI (300))]) (rest := [.int (zI (((kqy209 : Int)) + 4)), .ref (ad (i + 23))]) (ci := 12) C (c_yNumber l D A cs tt N ad _ i hN _ hcvy531 _ hgy536 T n hn hTb hTt htp (tk_nx T n (tk_nx T n (tk_nx T n (tk_nx T n (tk_nx T n (tk_nx T n f)))))) hkvy531 ((hFvy531 38 (by decide) (by decide) (by decide) (by decide) (by decide)).trans hevy517) (0) (by omega) (300) (by omega)) (lt_A0 hN rfl) hay1 hcvy531 rfl rfl mv_yX10_number q_1682 hd_yX10_number (by decide) (Nat.le_of_ble_eq_true rfl) (by decide) dX10_layer1_301 rfl (kI0 fun vy537 gvy537 hvy537 => ?_)
                      obtain ⟨⟨Fvy537, hcvy537, hqvy537, hFvy537⟩, hfvy537⟩ := hvy537
                      rcases hqvy537 with hqvy537 | hqvy537
                      · obtain ⟨hnvy537, hrvy537, hltvy537, hevy537, hb0vy537, hkvy537⟩ := hqvy537
                        have hbvy537 : Fvy537 24 = F 24 := hb0vy537.trans h24vy537
                        have hnbvy537 := tk_nx_s (T := T) (n := n) (f := (tk_nx T n (tk_nx T n (tk_nx T n (tk_nx T n (tk_nx T n (tk_nx T n f))))))) hltvy537
                        clear hb0vy537 h24vy537
                        have hsry538 := srt_b T n (tk_nx T n (tk_nx T n (tk_nx T n (tk_nx T n (tk_nx T n (tk_nx T n (tk_nx T n f)))))))
                        have hvly539 := vlu_b hTb (tk_nx T n (tk_nx T n (tk_nx T n (tk_nx T n (tk_nx T n (tk_nx T n (tk_nx T n f)))))))
                        have hwby540 := tk_w_b T n (tk_nx T n (tk_nx T n (tk_nx T n (tk_nx T n (tk_nx T n (tk_nx T n (tk_nx T n f)))))))
                        have hfny541 := hkvy537.1
                        refine z_ineg C dX10_layer1_304 ?_
                        have hgy542 := (hfvy531 (i + 23) (ne_o (i := i) (c := 23) (d := 0) rfl)).trans hgy521
                        have hgy543 := (hfvy537 (i + 23) (ne_o (i := i) (c := 23) (d := 0) rfl)).trans hgy542
                        refine z_iast C (lt_A (c := 23) hN rfl) hay14 hgy543 (kqy209 + 4) (by omega) (by omega) (by decide) dX10_layer1_305 (fun gy544 egy545 => ?_)
                        have hgy546 := up_s egy545
                        obtain ⟨ry547, hvy548⟩ : ∃ rZ9 : Nat → Int, rZ9 = uZ ry522 (kqy209 + 4) (-(vy537)) := ⟨_, rfl⟩
                        rw [← hvy548] at hgy546
                        refine z_aload_n C 2 dX10_layer1_306 rfl ?_
                        have hgy549 := up_n egy545 hcvy537 (ne_o (i := i) (c := 0) (d := 23) rfl)
                        refine z_get (v := .ref (ad (i + 23))) C (lt_A0 hN rfl) hay1 hgy549 rfl inA_X10 46 (by decide) q_1505 rfl rfl dX10_layer1_307 ?_
                        refine z_iload_n C 0 dX10_layer1_310 rfl ?_
                        refine z_iconst (z := 5) C dX10_layer1_311 rfl ?_
                        refine z_iadd C dX10_layer1_312 ?_
                        refine z_iconst (z := 0) C dX10_layer1_313 rfl ?_
                        refine z_iast C (lt_A (c := 23) hN rfl) hay14 hgy546 (kqy209 + 5) (by omega) (by omega) (by decide) dX10_layer1_314 (fun gy550 egy551 => ?_)
                        have hgy552 := up_s egy551
                        obtain ⟨ry553, hvy554⟩ : ∃ rZ9 : Nat → Int, rZ9 = uZ ry547 (kqy209 + 5) (0) := ⟨_, rfl⟩
                        rw [← hvy554] at hgy552
                        refine z_aload_n C 2 dX10_layer1_315 rfl ?_
                        have hgy555 := up_n egy551 hgy549 (ne_o (i := i) (c := 0) (d := 23) rfl)
                        refine z_get (v := .ref (ad (i + 23))) C (lt_A0 hN rfl) hay1 hgy555 rfl inA_X10 46 (by decide) q_1505 rfl rfl dX10_layer1_316 ?_
                        refine z_iload_n C 0 dX10_layer1_319 rfl ?_
                        refine z_bipush (z := 6) C dX10_layer1_320 (by decide) ?_
                        refine z_iadd C dX10_layer1_322 ?_
                        refine z_aload_n C 2 dX10_layer1_323 rfl ?_
                        refine z_get (v := .int (zI (nm))) C (lt_A0 hN rfl) hay1 hgy555 rfl inA_X10 49 (by decide) q_1508 rfl (fv (F := Fvy537) (f := 49) ((hFvy537 49 (by decide) (by decide) (by decide) (by decide) (by decide) (by decide) (by decide)).trans ((hFvy531 49 (by decide) (by decide) (by decide) (by decide) (by decide)).trans ((hFvy517 49 (by decide) (by decide)).trans ((hFvy389 49 (by decide) (by decide)).trans ((hFvy386 49 (by decide) (by decide)).trans ((hFvy260 49 (by decide) (by decide) (by decide) (by decide) (by decide) (by decide) (by decide)).trans ((hFvy245 49 (by decide) (by decide) (by decide) (by decide) (by decide) (by decide) (by decide)).trans ((hFvy239 49 (by decide) (by decide) (by decide) (by decide) (by decide)).trans ((hFvy222 49 (by decide) (by decide)).trans ((hFvy215 49 (by decide) (by decide) (by decide) (by decide) (by decide)).trans ((hFvy206 49 (by decide) (by decide)).trans ((hFvy145 49 (by decide) (by decide)).trans ((hFvy96 49 (by decide) (by decide)).trans ((hFvy55 49 (by decide) (by decide)).trans ((hFvy15 49 (by decide) (by decide) (by decide) (by decide) (by decide)).trans r49)))))))))))))))) dX10_layer1_324 ?_
                        refine z_iast C (lt_A (c := 23) hN rfl) hay14 hgy552 (kqy209 + 6) (by omega) (by omega) (by decide) dX10_layer1_327 (fun gy556 egy557 => ?_)
                        have hgy558 := up_s egy557
                        obtain ⟨ry559, hvy560⟩ : ∃ rZ9 : Nat → Int, rZ9 = uZ ry553 (kqy209 + 6) (nm) := ⟨_, rfl⟩
                        rw [← hvy560] at hgy558
                        refine z_aload_n C 2 dX10_layer1_328 rfl ?_
                        have hgy561 := up_n egy557 hgy555 (ne_o (i := i) (c := 0) (d := 23) rfl)
                        refine z_get (v := .ref (ad (i + 18))) C (lt_A0 hN rfl) hay1 hgy561 rfl inA_X10 41 (by decide) q_1500 rfl rfl dX10_layer1_329 ?_
                        refine z_iload_n C 1 dX10_layer1_332 rfl ?_
                        refine z_dup2 C dX10_layer1_333 rfl rfl ?_
                        have hgy562 := (hfvy215 (i + 18) (ne_o (i := i) (c := 18) (d := 0) rfl)).trans hgy207
                        have hgy563 := (hfvy222 (i + 18) (ne_o (i := i) (c := 18) (d := 0) rfl)).trans hgy562
                        have hgy564 := up_n egy233 hgy563 (ne_o (i := i) (c := 18) (d := 23) rfl)
                        have hgy565 := (hfvy239 (i + 18) (ne_o (i := i) (c := 18) (d := 0) rfl)).trans hgy564
                        have hgy566 := (hfvy245 (i + 18) (ne_o (i := i) (c := 18) (d := 0) rfl)).trans hgy565
                        have hgy567 := up_n egy253 hgy566 (ne_o (i := i) (c := 18) (d := 23) rfl)
                        have hgy568 := (hfvy260 (i + 18) (ne_o (i := i) (c := 18) (d := 0) rfl)).trans hgy567
                        have hgy569 := up_n egy267 hgy568 (ne_o (i := i) (c := 18) (d := 23) rfl)
                        have hgy570 := (hfvy386 (i + 18) (ne_o (i := i) (c := 18) (d := 0) rfl)).trans hgy569
                        have hgy571 := (hfvy389 (i + 18) (ne_o (i := i) (c := 18) (d := 0) rfl)).trans hgy570
                        have hgy572 := (hfvy517 (i + 18) (ne_o (i := i) (c := 18) (d := 0) rfl)).trans hgy571
                        have hgy573 := up_n egy520 hgy572 (ne_o (i := i) (c := 18) (d := 23) rfl)
                        have hgy574 := (hfvy531 (i + 18) (ne_o (i := i) (c := 18) (d := 0) rfl)).trans hgy573
                        have hgy575 := (hfvy537 (i + 18) (ne_o (i := i) (c := 18) (d := 0) rfl)).trans hgy574
                        have hgy576 := up_n egy545 hgy575 (ne_o (i := i) (c := 18) (d := 23) rfl)
                        have hgy577 := up_n egy551 hgy576 (ne_o (i := i) (c := 18) (d := 23) rfl)
                        have hgy578 := up_n egy557 hgy577 (ne_o (i := i) (c := 18) (d := 23) rfl)
                        refine z_iald C (lt_A (c := 18) hN rfl) hay9 hgy578 (ny146) (by omega) (by omega) (by decide) dX10_layer1_334 ?_
                        have hrfy579 := hmn1 (ny146) (by omega)
                        refine z_iconst (z := 1) C dX10_layer1_335 rfl ?_
                        refine z_iadd C dX10_layer1_336 ?_
                        refine z_iast C (lt_A (c := 18) hN rfl) hay9 hgy578 (ny146) (by omega) (by omega) (by decide) dX10_layer1_337 (fun gy580 egy581 => ?_)
                        have hgy582 := up_s egy581
                        obtain ⟨ry583, hvy584⟩ : ∃ rZ9 : Nat → Int, rZ9 = uZ mn1 (ny146) ((mn1 (ny146)) + 1) := ⟨_, rfl⟩
                        rw [← hvy584] at hgy582
                        refine z_aload_n C 2 dX10_layer1_338 rfl ?_
                        refine z_dup C dX10_layer1_339 rfl ?_
                        have hgy585 := up_n egy581 hgy561 (ne_o (i := i) (c := 0) (d := 18) rfl)
                        refine z_get (v := .int (zI (nm))) C (lt_A0 hN rfl) hay1 hgy585 rfl inA_X10 49 (by decide) q_1508 rfl (fv (F := Fvy537) (f := 49) ((hFvy537 49 (by decide) (by decide) (by decide) (by decide) (by decide) (by decide) (by decide)).trans ((hFvy531 49 (by decide) (by decide) (by decide) (by decide) (by decide)).trans ((hFvy517 49 (by decide) (by decide)).trans ((hFvy389 49 (by decide) (by decide)).trans ((hFvy386 49 (by decide) (by decide)).trans ((hFvy260 49 (by decide) (by decide) (by decide) (by decide) (by decide) (by decide) (by decide)).trans ((hFvy245 49 (by decide) (by decide) (by decide) (by decide) (by decide) (by decide) (by decide)).trans ((hFvy239 49 (by decide) (by decide) (by decide) (by decide) (by decide)).trans ((hFvy222 49 (by decide) (by decide)).trans ((hFvy215 49 (by decide) (by decide) (by decide) (by decide) (by decide)).trans ((hFvy206 49 (by decide) (by decide)).trans ((hFvy145 49 (by decide) (by decide)).trans ((hFvy96 49 (by decide) (by decide)).trans ((hFvy55 49 (by decide) (by decide)).trans ((hFvy15 49 (by decide) (by decide) (by decide) (by decide) (by decide)).trans r49)))))))))))))))) dX10_layer1_340 ?_
                        refine z_iconst (z := 1) C dX10_layer1_343 rfl ?_
                        refine z_iadd C dX10_layer1_344 ?_
                        refine z_put (fs' := mF ad (i) (uZ Fvy537 49 (nm + 1))) C (lt_A0 hN rfl) hay1 hgy585 tyX10 tyX10_ok nmX10 rfl inA_X10 49 (by decide) q_1508 rfl rfl rfl rfl (Nat.le_of_ble_eq_true rfl) rfl dX10_layer1_345 (fun gy586 egy587 => ?_)
                        have hgy588 := up_s egy587
                        have hFy589 : ∀ f, f ≠ 24 → f ≠ 32 → f ≠ 33 → f ≠ 35 → f ≠ 36 → f ≠ 37 → f ≠ 38 → f ≠ 47 → f ≠ 48 → f ≠ 49 → (uZ Fvy537 49 (nm + 1)) f = F f := fun f n24 n32 n33 n35 n36 n37 n38 n47 n48 n49 => ((uZ_n _ _ n49).trans ((hFvy537 f n24 n32 n33 n35 n36 n37 n38).trans ((hFvy531 f n32 n33 n35 n36 n37).trans ((hFvy517 f n24 n38).trans ((hFvy389 f n24 n38).trans ((hFvy386 f n24 n38).trans ((hFvy260 f n24 n32 n33 n35 n36 n37 n38).trans ((hFvy245 f n24 n32 n33 n35 n36 n37 n38).trans ((hFvy239 f n32 n33 n35 n36 n37).trans ((hFvy222 f n24 n38).trans ((hFvy215 f n32 n33 n35 n36 n37).trans ((hFvy206 f n24 n38).trans ((hFvy145 f n24 n38).trans ((hFvy96 f n24 n38).trans ((hFvy55 f n24 n38).trans (hFvy15 f n32 n33 n35 n36 n37))))))))))))))))
                        have htky590 : tkR T n (uZ Fvy537 49 (nm + 1)) (tk_nx T n (tk_nx T n (tk_nx T n (tk_nx T n (tk_nx T n (tk_nx T n (tk_nx T n f))))))) := (tkR.put hkvy537 (by decide))
                        have htoy591 := tk_to_w (T := T) (n := n) (f := (tk_nx T n (tk_nx T n (tk_nx T n (tk_nx T n (tk_nx T n (tk_nx T n (tk_nx T n f)))))))) htky590.1.1
                        have h32y592 := htky590.2.1
                        have hey593 : (uZ Fvy537 49 (nm + 1)) 24 = F 24 := (fn hbvy537 (by decide))
                        have hey594 : (uZ Fvy537 49 (nm + 1)) 38 = 0 := (fn hevy537 (by decide))
                        have hey595 : (uZ Fvy537 49 (nm + 1)) 47 = sl := (fn ((hFvy537 47 (by decide) (by decide) (by decide) (by decide) (by decide) (by decide) (by decide)).trans ((hFvy531 47 (by decide) (by decide) (by decide) (by decide) (by decide)).trans ((hFvy517 47 (by decide) (by decide)).trans ((hFvy389 47 (by decide) (by decide)).trans ((hFvy386 47 (by decide) (by decide)).trans ((hFvy260 47 (by decide) (by decide) (by decide) (by decide) (by decide) (by decide) (by decide)).trans ((hFvy245 47 (by decide) (by decide) (by decide) (by decide) (by decide) (by decide) (by decide)).trans ((hFvy239 47 (by decide) (by decide) (by decide) (by decide) (by decide)).trans ((hFvy222 47 (by decide) (by decide)).trans ((hFvy215 47 (by decide) (by decide) (by decide) (by decide) (by decide)).trans ((hFvy206 47 (by decide) (by decide)).trans ((hFvy145 47 (by decide) (by decide)).trans ((hFvy96 47 (by decide) (by decide)).trans ((hFvy55 47 (by decide) (by decide)).trans ((hFvy15 47 (by decide) (by decide) (by decide) (by decide) (by decide)).trans r47))))))))))))))) (by decide))
                        have hey596 : (uZ Fvy537 49 (nm + 1)) 48 = ho := (fn ((hFvy537 48 (by decide) (by decide) (by decide) (by decide) (by decide) (by decide) (by decide)).trans ((hFvy531 48 (by decide) (by decide) (by decide) (by decide) (by decide)).trans ((hFvy517 48 (by decide) (by decide)).trans ((hFvy389 48 (by decide) (by decide)).trans ((hFvy386 48 (by decide) (by decide)).trans ((hFvy260 48 (by decide) (by decide) (by decide) (by decide) (by decide) (by decide) (by decide)).trans ((hFvy245 48 (by decide) (by decide) (by decide) (by decide) (by decide) (by decide) (by decide)).trans ((hFvy239 48 (by decide) (by decide) (by decide) (by decide) (by decide)).trans ((hFvy222 48 (by decide) (by decide)).trans ((hFvy215 48 (by decide) (by decide) (by decide) (by decide) (by decide)).trans ((hFvy206 48 (by decide) (by decide)).trans ((hFvy145 48 (by decide) (by decide)).trans ((hFvy96 48 (by decide) (by decide)).trans ((hFvy55 48 (by decide) (by decide)).trans ((hFvy15 48 (by decide) (by decide) (by decide) (by decide) (by decide)).trans r48))))))))))))))) (by decide))
                        have hey597 : (uZ Fvy537 49 (nm + 1)) 49 = nm + 1 := (uZ_s _ _ _)
                        have hfry599 : ∀ j, j ≠ ny146 → ry583 j = mn1 j := fun j n0 => (congrFun hvy584 _).trans ((uZ_n _ _ n0).trans (rfl))
                        have hwy600 : ry583 (ny146) = (mn1 (ny146)) + 1 := (congrFun hvy584 _).trans (uZ_s _ _ _)
                        have haky598 : ∀ k, k < 4 → 0 ≤ ry583 k ∧ ry583 k ≤ 12 := by
                          intro k hk
                          by_cases e : k = ny146
                          · rw [e]; have hk0 := hmn1 (ny146) (by omega); omega
                          · have hk0 := hmn1 k hk; rw [hfry599 k e]; exact hk0
                        have hfry603 : ∀ j, j ≠ ny146 → ry583 j = mn1 j := fun j n0 => (congrFun hvy584 _).trans ((uZ_n _ _ n0).trans (rfl))
                        have hfry604 : ∀ j, j ≠ kqy209 + 6 → j ≠ kqy209 + 5 → j ≠ kqy209 + 4 → j ≠ kqy209 + 3 → j ≠ kqy209 + 2 → j ≠ kqy209 + 1 → j ≠ kqy209 → ry559 j = ly1 j := fun j n0 n1 n2 n3 n4 n5 n6 => (congrFun hvy560 _).trans ((uZ_n _ _ n0).trans ((congrFun hvy554 _).trans ((uZ_n _ _ n1).trans ((congrFun hvy548 _).trans ((uZ_n _ _ n2).trans ((congrFun hvy523 _).trans ((uZ_n _ _ n3).trans ((congrFun hvy270 _).trans ((uZ_n _ _ n4).trans ((congrFun hvy256 _).trans ((uZ_n _ _ n5).trans ((congrFun hvy236 _).trans ((uZ_n _ _ n6).trans (rfl))))))))))))))
                        have hwy605 : ry583 (ny146) = (mn1 (ny146)) + 1 := (congrFun hvy584 _).trans (uZ_s _ _ _)
                        have hwy606 : ry559 (kqy209) = tk_kd T n (tk_nx T n (tk_nx T n f)) := (congrFun hvy560 _).trans ((uZ_n _ _ (by omega)).trans ((congrFun hvy554 _).trans ((uZ_n _ _ (by omega)).trans ((congrFun hvy548 _).trans ((uZ_n _ _ (by omega)).trans ((congrFun hvy523 _).trans ((uZ_n _ _ (by omega)).trans ((congrFun hvy270 _).trans ((uZ_n _ _ (by omega)).trans ((congrFun hvy256 _).trans ((uZ_n _ _ (by omega)).trans ((congrFun hvy236 _).trans (uZ_s _ _ _)))))))))))))
                        have hwy607 : ry559 (kqy209 + 1) = vy245 := (congrFun hvy560 _).trans ((uZ_n _ _ (by omega)).trans ((congrFun hvy554 _).trans ((uZ_n _ _ (by omega)).trans ((congrFun hvy548 _).trans ((uZ_n _ _ (by omega)).trans ((congrFun hvy523 _).trans ((uZ_n _ _ (by omega)).trans ((congrFun hvy270 _).trans ((uZ_n _ _ (by omega)).trans ((congrFun hvy256 _).trans (uZ_s _ _ _)))))))))))
                        have hwy608 : ry559 (kqy209 + 2) = vy260 := (congrFun hvy560 _).trans ((uZ_n _ _ (by omega)).trans ((congrFun hvy554 _).trans ((uZ_n _ _ (by omega)).trans ((congrFun hvy548 _).trans ((uZ_n _ _ (by omega)).trans ((congrFun hvy523 _).trans ((uZ_n _ _ (by omega)).trans ((congrFun hvy270 _).trans (uZ_s _ _ _)))))))))
                        have hwy609 : ry559 (kqy209 + 3) = tk_va T n (tk_nx T n (tk_nx T n (tk_nx T n (tk_nx T n (tk_nx T n f))))) := (congrFun hvy560 _).trans ((uZ_n _ _ (by omega)).trans ((congrFun hvy554 _).trans ((uZ_n _ _ (by omega)).trans ((congrFun hvy548 _).trans ((uZ_n _ _ (by omega)).trans ((congrFun hvy523 _).trans (uZ_s _ _ _)))))))
                        have hwy610 : ry559 (kqy209 + 4) = -(vy537) := (congrFun hvy560 _).trans ((uZ_n _ _ (by omega)).trans ((congrFun hvy554 _).trans ((uZ_n _ _ (by omega)).trans ((congrFun hvy548 _).trans (uZ_s _ _ _)))))
                        have hwy611 : ry559 (kqy209 + 6) = nm := (congrFun hvy560 _).trans (uZ_s _ _ _)
                        have hlyn : lyT ry559 kqy209 := by unfold lyT; omega
                        have hlay602 : ∀ s l : Nat, (s : Int) < (uZ Fvy537 49 (nm + 1)) 47 → (l : Int) < ry583 s → lyT ry559 (84 * s + 7 * l) := by
                          intro s l a1 a2
                          by_cases e : s = ny146
                          · subst e; by_cases e2 : (l : Int) = mn1 s
                            · rw [show 84 * s + 7 * l = kqy209 by omega]; exact hlyn
                            · exact (hly1 s l (by omega) (by omega)).ext (fun j b1 b2 => hfry604 j (by omega) (by omega) (by omega) (by omega) (by omega) (by omega) (by omega))
                          · have hs9 := hfry603 s e; rw [hs9] at a2; have hm9 := hmn1 s (by omega); exact (hly1 s l (by omega) a2).ext (fun j b1 b2 => hfry604 j (by omega) (by omega) (by omega) (by omega) (by omega) (by omega) (by omega))
                        have hgy612 := (hfvy15 (i + 16) (ne_o (i := i) (c := 16) (d := 0) rfl)).trans ha16
                        have hgy613 := (hfvy55 (i + 16) (ne_o (i := i) (c := 16) (d := 0) rfl)).trans hgy612
                        have hgy614 := (hfvy96 (i + 16) (ne_o (i := i) (c := 16) (d := 0) rfl)).trans hgy613
                        have hgy615 := (hfvy145 (i + 16) (ne_o (i := i) (c := 16) (d := 0) rfl)).trans hgy614
                        have hgy616 := (hfvy206 (i + 16) (ne_o (i := i) (c := 16) (d := 0) rfl)).trans hgy615
                        have hgy617 := (hfvy215 (i + 16) (ne_o (i := i) (c := 16) (d := 0) rfl)).trans hgy616
                        have hgy618 := (hfvy222 (i + 16) (ne_o (i := i) (c := 16) (d := 0) rfl)).trans hgy617
                        have hgy619 := up_n egy233 hgy618 (ne_o (i := i) (c := 16) (d := 23) rfl)
                        have hgy620 := (hfvy239 (i + 16) (ne_o (i := i) (c := 16) (d := 0) rfl)).trans hgy619
                        have hgy621 := (hfvy245 (i + 16) (ne_o (i := i) (c := 16) (d := 0) rfl)).trans hgy620
                        have hgy622 := up_n egy253 hgy621 (ne_o (i := i) (c := 16) (d := 23) rfl)
                        have hgy623 := (hfvy260 (i + 16) (ne_o (i := i) (c := 16) (d := 0) rfl)).trans hgy622
                        have hgy624 := up_n egy267 hgy623 (ne_o (i := i) (c := 16) (d := 23) rfl)
                        have hgy625 := (hfvy386 (i + 16) (ne_o (i := i) (c := 16) (d := 0) rfl)).trans hgy624
                        have hgy626 := (hfvy389 (i + 16) (ne_o (i := i) (c := 16) (d := 0) rfl)).trans hgy625
                        have hgy627 := (hfvy517 (i + 16) (ne_o (i := i) (c := 16) (d := 0) rfl)).trans hgy626
                        have hgy628 := up_n egy520 hgy627 (ne_o (i := i) (c := 16) (d := 23) rfl)
                        have hgy629 := (hfvy531 (i + 16) (ne_o (i := i) (c := 16) (d := 0) rfl)).trans hgy628
                        have hgy630 := (hfvy537 (i + 16) (ne_o (i := i) (c := 16) (d := 0) rfl)).trans hgy629
                        have hgy631 := up_n egy545 hgy630 (ne_o (i := i) (c := 16) (d := 23) rfl)
                        have hgy632 := up_n egy551 hgy631 (ne_o (i := i) (c := 16) (d := 23) rfl)
                        have hgy633 := up_n egy557 hgy632 (ne_o (i := i) (c := 16) (d := 23) rfl)
                        have hgy634 := up_n egy581 hgy633 (ne_o (i := i) (c := 16) (d := 18) rfl)
                        have hgy635 := up_n egy587 hgy634 (ne_o (i := i) (c := 16) (d := 0) rfl)
                        have hgy636 := (hfvy15 (i + 17) (ne_o (i := i) (c := 17) (d := 0) rfl)).trans ha17
                        have hgy637 := (hfvy55 (i + 17) (ne_o (i := i) (c := 17) (d := 0) rfl)).trans hgy636
                        have hgy638 := (hfvy96 (i + 17) (ne_o (i := i) (c := 17) (d := 0) rfl)).trans hgy637
                        have hgy639 := (hfvy145 (i + 17) (ne_o (i := i) (c := 17) (d := 0) rfl)).trans hgy638
                        have hgy640 := (hfvy206 (i + 17) (ne_o (i := i) (c := 17) (d := 0) rfl)).trans hgy639
                        have hgy641 := (hfvy215 (i + 17) (ne_o (i := i) (c := 17) (d := 0) rfl)).trans hgy640
                        have hgy642 := (hfvy222 (i + 17) (ne_o (i := i) (c := 17) (d := 0) rfl)).trans hgy641
                        have hgy643 := up_n egy233 hgy642 (ne_o (i := i) (c := 17) (d := 23) rfl)
                        have hgy644 := (hfvy239 (i + 17) (ne_o (i := i) (c := 17) (d := 0) rfl)).trans hgy643
                        have hgy645 := (hfvy245 (i + 17) (ne_o (i := i) (c := 17) (d := 0) rfl)).trans hgy644
                        have hgy646 := up_n egy253 hgy645 (ne_o (i := i) (c := 17) (d := 23) rfl)
                        have hgy647 := (hfvy260 (i + 17) (ne_o (i := i) (c := 17) (d := 0) rfl)).trans hgy646
                        have hgy648 := up_n egy267 hgy647 (ne_o (i := i) (c := 17) (d := 23) rfl)
                        have hgy649 := (hfvy386 (i + 17) (ne_o (i := i) (c := 17) (d := 0) rfl)).trans hgy648
                        have hgy650 := (hfvy389 (i + 17) (ne_o (i := i) (c := 17) (d := 0) rfl)).trans hgy649
                        have hgy651 := (hfvy517 (i + 17) (ne_o (i := i) (c := 17) (d := 0) rfl)).trans hgy650
                        have hgy652 := up_n egy520 hgy651 (ne_o (i := i) (c := 17) (d := 23) rfl)
                        have hgy653 := (hfvy531 (i + 17) (ne_o (i := i) (c := 17) (d := 0) rfl)).trans hgy652
                        have hgy654 := (hfvy537 (i + 17) (ne_o (i := i) (c := 17) (d := 0) rfl)).trans hgy653
                        have hgy655 := up_n egy545 hgy654 (ne_o (i := i) (c := 17) (d := 23) rfl)
                        have hgy656 := up_n egy551 hgy655 (ne_o (i := i) (c := 17) (d := 23) rfl)
                        have hgy657 := up_n egy557 hgy656 (ne_o (i := i) (c := 17) (d := 23) rfl)
                        have hgy658 := up_n egy581 hgy657 (ne_o (i := i) (c := 17) (d := 18) rfl)
                        have hgy659 := up_n egy587 hgy658 (ne_o (i := i) (c := 17) (d := 0) rfl)
                        have hgy660 := up_n egy587 hgy582 (ne_o (i := i) (c := 18) (d := 0) rfl)
                        have hgy661 := (hfvy15 (i + 19) (ne_o (i := i) (c := 19) (d := 0) rfl)).trans ha19
                        have hgy662 := (hfvy55 (i + 19) (ne_o (i := i) (c := 19) (d := 0) rfl)).trans hgy661
                        have hgy663 := (hfvy96 (i + 19) (ne_o (i := i) (c := 19) (d := 0) rfl)).trans hgy662
                        have hgy664 := (hfvy145 (i + 19) (ne_o (i := i) (c := 19) (d := 0) rfl)).trans hgy663
                        have hgy665 := (hfvy206 (i + 19) (ne_o (i := i) (c := 19) (d := 0) rfl)).trans hgy664
                        have hgy666 := (hfvy215 (i + 19) (ne_o (i := i) (c := 19) (d := 0) rfl)).trans hgy665
                        have hgy667 := (hfvy222 (i + 19) (ne_o (i := i) (c := 19) (d := 0) rfl)).trans hgy666
                        have hgy668 := up_n egy233 hgy667 (ne_o (i := i) (c := 19) (d := 23) rfl)
                        have hgy669 := (hfvy239 (i + 19) (ne_o (i := i) (c := 19) (d := 0) rfl)).trans hgy668
                        have hgy670 := (hfvy245 (i + 19) (ne_o (i := i) (c := 19) (d := 0) rfl)).trans hgy669
                        have hgy671 := up_n egy253 hgy670 (ne_o (i := i) (c := 19) (d := 23) rfl)
                        have hgy672 := (hfvy260 (i + 19) (ne_o (i := i) (c := 19) (d := 0) rfl)).trans hgy671
                        have hgy673 := up_n egy267 hgy672 (ne_o (i := i) (c := 19) (d := 23) rfl)
                        have hgy674 := (hfvy386 (i + 19) (ne_o (i := i) (c := 19) (d := 0) rfl)).trans hgy673
                        have hgy675 := (hfvy389 (i + 19) (ne_o (i := i) (c := 19) (d := 0) rfl)).trans hgy674
                        have hgy676 := (hfvy517 (i + 19) (ne_o (i := i) (c := 19) (d := 0) rfl)).trans hgy675
                        have hgy677 := up_n egy520 hgy676 (ne_o (i := i) (c := 19) (d := 23) rfl)
                        have hgy678 := (hfvy531 (i + 19) (ne_o (i := i) (c := 19) (d := 0) rfl)).trans hgy677
                        have hgy679 := (hfvy537 (i + 19) (ne_o (i := i) (c := 19) (d := 0) rfl)).trans hgy678
                        have hgy680 := up_n egy545 hgy679 (ne_o (i := i) (c := 19) (d := 23) rfl)
                        have hgy681 := up_n egy551 hgy680 (ne_o (i := i) (c := 19) (d := 23) rfl)
                        have hgy682 := up_n egy557 hgy681 (ne_o (i := i) (c := 19) (d := 23) rfl)
                        have hgy683 := up_n egy581 hgy682 (ne_o (i := i) (c := 19) (d := 18) rfl)
                        have hgy684 := up_n egy587 hgy683 (ne_o (i := i) (c := 19) (d := 0) rfl)
                        have hgy685 := (hfvy15 (i + 20) (ne_o (i := i) (c := 20) (d := 0) rfl)).trans ha20
                        have hgy686 := (hfvy55 (i + 20) (ne_o (i := i) (c := 20) (d := 0) rfl)).trans hgy685
                        have hgy687 := (hfvy96 (i + 20) (ne_o (i := i) (c := 20) (d := 0) rfl)).trans hgy686
                        have hgy688 := (hfvy145 (i + 20) (ne_o (i := i) (c := 20) (d := 0) rfl)).trans hgy687
                        have hgy689 := (hfvy206 (i + 20) (ne_o (i := i) (c := 20) (d := 0) rfl)).trans hgy688
                        have hgy690 := (hfvy215 (i + 20) (ne_o (i := i) (c := 20) (d := 0) rfl)).trans hgy689
                        have hgy691 := (hfvy222 (i + 20) (ne_o (i := i) (c := 20) (d := 0) rfl)).trans hgy690
                        have hgy692 := up_n egy233 hgy691 (ne_o (i := i) (c := 20) (d := 23) rfl)
                        have hgy693 := (hfvy239 (i + 20) (ne_o (i := i) (c := 20) (d := 0) rfl)).trans hgy692
                        have hgy694 := (hfvy245 (i + 20) (ne_o (i := i) (c := 20) (d := 0) rfl)).trans hgy693
                        have hgy695 := up_n egy253 hgy694 (ne_o (i := i) (c := 20) (d := 23) rfl)
                        have hgy696 := (hfvy260 (i + 20) (ne_o (i := i) (c := 20) (d := 0) rfl)).trans hgy695
                        have hgy697 := up_n egy267 hgy696 (ne_o (i := i) (c := 20) (d := 23) rfl)
                        have hgy698 := (hfvy386 (i + 20) (ne_o (i := i) (c := 20) (d := 0) rfl)).trans hgy697
                        have hgy699 := (hfvy389 (i + 20) (ne_o (i := i) (c := 20) (d := 0) rfl)).trans hgy698
                        have hgy700 := (hfvy517 (i + 20) (ne_o (i := i) (c := 20) (d := 0) rfl)).trans hgy699
                        have hgy701 := up_n egy520 hgy700 (ne_o (i := i) (c := 20) (d := 23) rfl)
                        have hgy702 := (hfvy531 (i + 20) (ne_o (i := i) (c := 20) (d := 0) rfl)).trans hgy701
                        have hgy703 := (hfvy537 (i + 20) (ne_o (i := i) (c := 20) (d := 0) rfl)).trans hgy702
                        have hgy704 := up_n egy545 hgy703 (ne_o (i := i) (c := 20) (d := 23) rfl)
                        have hgy705 := up_n egy551 hgy704 (ne_o (i := i) (c := 20) (d := 23) rfl)
                        have hgy706 := up_n egy557 hgy705 (ne_o (i := i) (c := 20) (d := 23) rfl)
                        have hgy707 := up_n egy581 hgy706 (ne_o (i := i) (c := 20) (d := 18) rfl)
                        have hgy708 := up_n egy587 hgy707 (ne_o (i := i) (c := 20) (d := 0) rfl)
                        have hgy709 := (hfvy15 (i + 21) (ne_o (i := i) (c := 21) (d := 0) rfl)).trans ha21
                        have hgy710 := (hfvy55 (i + 21) (ne_o (i := i) (c := 21) (d := 0) rfl)).trans hgy709
                        have hgy711 := (hfvy96 (i + 21) (ne_o (i := i) (c := 21) (d := 0) rfl)).trans hgy710
                        have hgy712 := (hfvy145 (i + 21) (ne_o (i := i) (c := 21) (d := 0) rfl)).trans hgy711
                        have hgy713 := (hfvy206 (i + 21) (ne_o (i := i) (c := 21) (d := 0) rfl)).trans hgy712
                        have hgy714 := (hfvy215 (i + 21) (ne_o (i := i) (c := 21) (d := 0) rfl)).trans hgy713
                        have hgy715 := (hfvy222 (i + 21) (ne_o (i := i) (c := 21) (d := 0) rfl)).trans hgy714
                        have hgy716 := up_n egy233 hgy715 (ne_o (i := i) (c := 21) (d := 23) rfl)
                        have hgy717 := (hfvy239 (i + 21) (ne_o (i := i) (c := 21) (d := 0) rfl)).trans hgy716
                        have hgy718 := (hfvy245 (i + 21) (ne_o (i := i) (c := 21) (d := 0) rfl)).trans hgy717
                        have hgy719 := up_n egy253 hgy718 (ne_o (i := i) (c := 21) (d := 23) rfl)
                        have hgy720 := (hfvy260 (i + 21) (ne_o (i := i) (c := 21) (d := 0) rfl)).trans hgy719
                        have hgy721 := up_n egy267 hgy720 (ne_o (i := i) (c := 21) (d := 23) rfl)
                        have hgy722 := (hfvy386 (i + 21) (ne_o (i := i) (c := 21) (d := 0) rfl)).trans hgy721
                        have hgy723 := (hfvy389 (i + 21) (ne_o (i := i) (c := 21) (d := 0) rfl)).trans hgy722
                        have hgy724 := (hfvy517 (i + 21) (ne_o (i := i) (c := 21) (d := 0) rfl)).trans hgy723
                        have hgy725 := up_n egy520 hgy724 (ne_o (i := i) (c := 21) (d := 23) rfl)
                        have hgy726 := (hfvy531 (i + 21) (ne_o (i := i) (c := 21) (d := 0) rfl)).trans hgy725
                        have hgy727 := (hfvy537 (i + 21) (ne_o (i := i) (c := 21) (d := 0) rfl)).trans hgy726
                        have hgy728 := up_n egy545 hgy727 (ne_o (i := i) (c := 21) (d := 23) rfl)
                        have hgy729 := up_n egy551 hgy728 (ne_o (i := i) (c := 21) (d := 23) rfl)
                        have hgy730 := up_n egy557 hgy729 (ne_o (i := i) (c := 21) (d := 23) rfl)
                        have hgy731 := up_n egy581 hgy730 (ne_o (i := i) (c := 21) (d := 18) rfl)
                        have hgy732 := up_n egy587 hgy731 (ne_o (i := i) (c := 21) (d := 0) rfl)
                        have hgy733 := (hfvy15 (i + 22) (ne_o (i := i) (c := 22) (d := 0) rfl)).trans ha22
                        have hgy734 := (hfvy55 (i + 22) (ne_o (i := i) (c := 22) (d := 0) rfl)).trans hgy733
                        have hgy735 := (hfvy96 (i + 22) (ne_o (i := i) (c := 22) (d := 0) rfl)).trans hgy734
                        have hgy736 := (hfvy145 (i + 22) (ne_o (i := i) (c := 22) (d := 0) rfl)).trans hgy735
                        have hgy737 := (hfvy206 (i + 22) (ne_o (i := i) (c := 22) (d := 0) rfl)).trans hgy736
                        have hgy738 := (hfvy215 (i + 22) (ne_o (i := i) (c := 22) (d := 0) rfl)).trans hgy737
                        have hgy739 := (hfvy222 (i + 22) (ne_o (i := i) (c := 22) (d := 0) rfl)).trans hgy738
                        have hgy740 := up_n egy233 hgy739 (ne_o (i := i) (c := 22) (d := 23) rfl)
                        have hgy741 := (hfvy239 (i + 22) (ne_o (i := i) (c := 22) (d := 0) rfl)).trans hgy740
                        have hgy742 := (hfvy245 (i + 22) (ne_o (i := i) (c := 22) (d := 0) rfl)).trans hgy741
                        have hgy743 := up_n egy253 hgy742 (ne_o (i := i) (c := 22) (d := 23) rfl)
                        have hgy744 := (hfvy260 (i + 22) (ne_o (i := i) (c := 22) (d := 0) rfl)).trans hgy743
                        have hgy745 := up_n egy267 hgy744 (ne_o (i := i) (c := 22) (d := 23) rfl)
                        have hgy746 := (hfvy386 (i + 22) (ne_o (i := i) (c := 22) (d := 0) rfl)).trans hgy745
                        have hgy747 := (hfvy389 (i + 22) (ne_o (i := i) (c := 22) (d := 0) rfl)).trans hgy746
                        have hgy748 := (hfvy517 (i + 22) (ne_o (i := i) (c := 22) (d := 0) rfl)).trans hgy747
                        have hgy749 := up_n egy520 hgy748 (ne_o (i := i) (c := 22) (d := 23) rfl)
                        have hgy750 := (hfvy531 (i + 22) (ne_o (i := i) (c := 22) (d := 0) rfl)).trans hgy749
                        have hgy751 := (hfvy537 (i + 22) (ne_o (i := i) (c := 22) (d := 0) rfl)).trans hgy750
                        have hgy752 := up_n egy545 hgy751 (ne_o (i := i) (c := 22) (d := 23) rfl)
                        have hgy753 := up_n egy551 hgy752 (ne_o (i := i) (c := 22) (d := 23) rfl)
                        have hgy754 := up_n egy557 hgy753 (ne_o (i := i) (c := 22) (d := 23) rfl)
                        have hgy755 := up_n egy581 hgy754 (ne_o (i := i) (c := 22) (d := 18) rfl)
                        have hgy756 := up_n egy587 hgy755 (ne_o (i := i) (c := 22) (d := 0) rfl)
                        have hgy757 := up_n egy581 hgy558 (ne_o (i := i) (c := 23) (d := 18) rfl)
                        have hgy758 := up_n egy587 hgy757 (ne_o (i := i) (c := 23) (d := 0) rfl)
                        have hfry759 : ∀ j, j ≠ ny146 → ry583 j = mn1 j := fun j n0 => (congrFun hvy584 _).trans ((uZ_n _ _ n0).trans (rfl))
                        have hwy760 : ry583 (ny146) = (mn1 (ny146)) + 1 := (congrFun hvy584 _).trans (uZ_s _ _ _)
                        have hfry761 : ∀ j, j ≠ kqy209 + 6 → j ≠ kqy209 + 5 → j ≠ kqy209 + 4 → j ≠ kqy209 + 3 → j ≠ kqy209 + 2 → j ≠ kqy209 + 1 → j ≠ kqy209 → ry559 j = ly1 j := fun j n0 n1 n2 n3 n4 n5 n6 => (congrFun hvy560 _).trans ((uZ_n _ _ n0).trans ((congrFun hvy554 _).trans ((uZ_n _ _ n1).trans ((congrFun hvy548 _).trans ((uZ_n _ _ n2).trans ((congrFun hvy523 _).trans ((uZ_n _ _ n3).trans ((congrFun hvy270 _).trans ((uZ_n _ _ n4).trans ((congrFun hvy256 _).trans ((uZ_n _ _ n5).trans ((congrFun hvy236 _).trans ((uZ_n _ _ n6).trans (rfl))))))))))))))
                        have hwy762 : ry559 (kqy209 + 6) = nm := (congrFun hvy560 _).trans (uZ_s _ _ _)
                        have hwy763 : ry559 (kqy209 + 5) = 0 := (congrFun hvy560 _).trans ((uZ_n _ _ (by omega)).trans ((congrFun hvy554 _).trans (uZ_s _ _ _)))
                        have hwy764 : ry559 (kqy209 + 4) = -(vy537) := (congrFun hvy560 _).trans ((uZ_n _ _ (by omega)).trans ((congrFun hvy554 _).trans ((uZ_n _ _ (by omega)).trans ((congrFun hvy548 _).trans (uZ_s _ _ _)))))
                        have hwy765 : ry559 (kqy209 + 3) = tk_va T n (tk_nx T n (tk_nx T n (tk_nx T n (tk_nx T n (tk_nx T n f))))) := (congrFun hvy560 _).trans ((uZ_n _ _ (by omega)).trans ((congrFun hvy554 _).trans ((uZ_n _ _ (by omega)).trans ((congrFun hvy548 _).trans ((uZ_n _ _ (by omega)).trans ((congrFun hvy523 _).trans (uZ_s _ _ _)))))))
                        have hwy766 : ry559 (kqy209 + 2) = vy260 := (congrFun hvy560 _).trans ((uZ_n _ _ (by omega)).trans ((congrFun hvy554 _).trans ((uZ_n _ _ (by omega)).trans ((congrFun hvy548 _).trans ((uZ_n _ _ (by omega)).trans ((congrFun hvy523 _).trans ((uZ_n _ _ (by omega)).trans ((congrFun hvy270 _).trans (uZ_s _ _ _)))))))))
                        have hwy767 : ry559 (kqy209 + 1) = vy245 := (congrFun hvy560 _).trans ((uZ_n _ _ (by omega)).trans ((congrFun hvy554 _).trans ((uZ_n _ _ (by omega)).trans ((congrFun hvy548 _).trans ((uZ_n _ _ (by omega)).trans ((congrFun hvy523 _).trans ((uZ_n _ _ (by omega)).trans ((congrFun hvy270 _).trans ((uZ_n _ _ (by omega)).trans ((congrFun hvy256 _).trans (uZ_s _ _ _)))))))))))
                        have hwy768 : ry559 (kqy209) = tk_kd T n (tk_nx T n (tk_nx T n f)) := (congrFun hvy560 _).trans ((uZ_n _ _ (by omega)).trans ((congrFun hvy554 _).trans ((uZ_n _ _ (by omega)).trans ((congrFun hvy548 _).trans ((uZ_n _ _ (by omega)).trans ((congrFun hvy523 _).trans ((uZ_n _ _ (by omega)).trans ((congrFun hvy270 _).trans ((uZ_n _ _ (by omega)).trans ((congrFun hvy256 _).trans ((uZ_n _ _ (by omega)).trans ((congrFun hvy236 _).trans (uZ_s _ _ _)))))))))))))
                        obtain ⟨my769, hmy769⟩ : ∃ m9 : Nat, mn1 ny146 = (m9 : Int) := ⟨(mn1 ny146).toNat, by have h9 := hmn1 ny146 (by omega); omega⟩
                        have hfyy770 : ∀ j, j ≠ kqy209 → j ≠ kqy209 + 1 → j ≠ kqy209 + 2 → j ≠ kqy209 + 3 → j ≠ kqy209 + 4 → j ≠ kqy209 + 5 → j ≠ kqy209 + 6 → ry559 j = ly1 j := fun j a0 a1 a2 a3 a4 a5 a6 => hfry761 j (by omega) (by omega) (by omega) (by omega) (by omega) (by omega) (by omega)
                        have hxty771 : xTx cs gy586 i (uZ Fvy537 49 (nm + 1)) _ := ⟨_, _, _, _, _, _, _, _, ⟨hgy635, hgy659, hgy660, hgy684, hgy708, hgy732, hgy756, hgy758⟩, ⟨⟨by omega, by omega, by omega⟩, hop1, haky598, hai1, hfa1, htb1, hlay602⟩, rT.layer (v1 := tk_va T n (tk_nx T n f)) hrT ny146 my769 kqy209 (by omega) (by show ((ny146 : Nat) : Int) < sl; omega) hmy769 (by omega) (by omega) hmn1 (by show sl ≤ 4; omega) ⟨by show (uZ Fvy537 49 (nm + 1)) 47 = sl; omega, by show (uZ Fvy537 49 (nm + 1)) 48 = ho; omega, by show (uZ Fvy537 49 (nm + 1)) 49 = nm + 1; omega⟩ hfry759 (by omega) hfyy770 (by omega) (by omega) (by omega) (by omega) (by omega) (by omega) (by show _ = nm; omega)⟩
                        exact z_vret C hr hlk dX10_layer1_348 (by decide) (by decide) ⟨rfl, rfl, rfl, ⟨_, hgy588, hFy589, Or.inl ⟨_, by simp only [cl_layer, cl_layer2, hny58, if_neg hscy99, if_neg hscy156, if_neg hxvy220, hnvy245, hnvy260, hny388, if_neg hscy394, hnvy537]; rfl, by omega, by omega, by show f < (tk_nx T n (tk_nx T n (tk_nx T n (tk_nx T n (tk_nx T n (tk_nx T n (tk_nx T n f))))))); omega, htky590, hxty771⟩⟩, fun j j1 j2 => by rw [egy587, va_up_ne _ _ (by omega)]; rw [egy581, va_up_ne _ _ (by omega)]; rw [egy557, va_up_ne _ _ (by omega)]; rw [egy551, va_up_ne _ _ (by omega)]; rw [egy545, va_up_ne _ _ (by omega)]; rw [hfvy537 _ (by omega)]; rw [hfvy531 _ (by omega)]; rw [egy520, va_up_ne _ _ (by omega)]; rw [hfvy517 _ (by omega)]; rw [hfvy389 _ (by omega)]; rw [hfvy386 _ (by omega)]; rw [egy267, va_up_ne _ _ (by omega)]; rw [hfvy260 _ (by omega)]; rw [egy253, va_up_ne _ _ (by omega)]; rw [hfvy245 _ (by omega)]; rw [hfvy239 _ (by omega)]; rw [egy233, va_up_ne _ _ (by omega)]; rw [hfvy222 _ (by omega)]; rw [hfvy215 _ (by omega)]; rw [hfvy206 _ (by omega)]; rw [hfvy145 _ (by omega)]; rw [hfvy96 _ (by omega)]; rw [hfvy55 _ (by omega)]; rw [hfvy15 _ (by omega)]⟩
                      · obtain ⟨rfl, cvy537, hrvy537, hnvy537, hevy537, hbvy537, hkvy537⟩ := hqvy537
                        clear h24vy537
                        have hsry772 := srt_b T n (tk_nx T n (tk_nx T n (tk_nx T n (tk_nx T n (tk_nx T n (tk_nx T n f))))))
                        have hvly773 := vlu_b hTb (tk_nx T n (tk_nx T n (tk_nx T n (tk_nx T n (tk_nx T n (tk_nx T n f))))))
                        have hwby774 := tk_w_b T n (tk_nx T n (tk_nx T n (tk_nx T n (tk_nx T n (tk_nx T n (tk_nx T n f))))))
                        have hfny775 := hkvy537.1
                        refine z_ineg C dX10_layer1_304 ?_
                        have hgy776 := (hfvy531 (i + 23) (ne_o (i := i) (c := 23) (d := 0) rfl)).trans hgy521
                        have hgy777 := (hfvy537 (i + 23) (ne_o (i := i) (c := 23) (d := 0) rfl)).trans hgy776
                        refine z_iast C (lt_A (c := 23) hN rfl) hay14 hgy777 (kqy209 + 4) (by omega) (by omega) (by decide) dX10_layer1_305 (fun gy778 egy779 => ?_)
                        have hgy780 := up_s egy779
                        obtain ⟨ry781, hvy782⟩ : ∃ rZ9 : Nat → Int, rZ9 = uZ ry522 (kqy209 + 4) (-(0)) := ⟨_, rfl⟩
                        rw [← hvy782] at hgy780
                        refine z_aload_n C 2 dX10_layer1_306 rfl ?_
                        have hgy783 := up_n egy779 hcvy537 (ne_o (i := i) (c := 0) (d := 23) rfl)
                        refine z_get (v := .ref (ad (i + 23))) C (lt_A0 hN rfl) hay1 hgy783 rfl inA_X10 46 (by decide) q_1505 rfl rfl dX10_layer1_307 ?_
                        refine z_iload_n C 0 dX10_layer1_310 rfl ?_
                        refine z_iconst (z := 5) C dX10_layer1_311 rfl ?_
                        refine z_iadd C dX10_layer1_312 ?_
                        refine z_iconst (z := 0) C dX10_layer1_313 rfl ?_
                        refine z_iast C (lt_A (c := 23) hN rfl) hay14 hgy780 (kqy209 + 5) (by omega) (by omega) (by decide) dX10_layer1_314 (fun gy784 egy785 => ?_)
                        have hgy786 := up_s egy785
                        obtain ⟨ry787, hvy788⟩ : ∃ rZ9 : Nat → Int, rZ9 = uZ ry781 (kqy209 + 5) (0) := ⟨_, rfl⟩
                        rw [← hvy788] at hgy786
                        refine z_aload_n C 2 dX10_layer1_315 rfl ?_
                        have hgy789 := up_n egy785 hgy783 (ne_o (i := i) (c := 0) (d := 23) rfl)
                        refine z_get (v := .ref (ad (i + 23))) C (lt_A0 hN rfl) hay1 hgy789 rfl inA_X10 46 (by decide) q_1505 rfl rfl dX10_layer1_316 ?_
                        refine z_iload_n C 0 dX10_layer1_319 rfl ?_
                        refine z_bipush (z := 6) C dX10_layer1_320 (by decide) ?_
                        refine z_iadd C dX10_layer1_322 ?_
                        refine z_aload_n C 2 dX10_layer1_323 rfl ?_
                        refine z_get (v := .int (zI (nm))) C (lt_A0 hN rfl) hay1 hgy789 rfl inA_X10 49 (by decide) q_1508 rfl (fv (F := Fvy537) (f := 49) ((hFvy537 49 (by decide) (by decide) (by decide) (by decide) (by decide) (by decide) (by decide)).trans ((hFvy531 49 (by decide) (by decide) (by decide) (by decide) (by decide)).trans ((hFvy517 49 (by decide) (by decide)).trans ((hFvy389 49 (by decide) (by decide)).trans ((hFvy386 49 (by decide) (by decide)).trans ((hFvy260 49 (by decide) (by decide) (by decide) (by decide) (by decide) (by decide) (by decide)).trans ((hFvy245 49 (by decide) (by decide) (by decide) (by decide) (by decide) (by decide) (by decide)).trans ((hFvy239 49 (by decide) (by decide) (by decide) (by decide) (by decide)).trans ((hFvy222 49 (by decide) (by decide)).trans ((hFvy215 49 (by decide) (by decide) (by decide) (by decide) (by decide)).trans ((hFvy206 49 (by decide) (by decide)).trans ((hFvy145 49 (by decide) (by decide)).trans ((hFvy96 49 (by decide) (by decide)).trans ((hFvy55 49 (by decide) (by decide)).trans ((hFvy15 49 (by decide) (by decide) (by decide) (by decide) (by decide)).trans r49)))))))))))))))) dX10_layer1_324 ?_
                        refine z_iast C (lt_A (c := 23) hN rfl) hay14 hgy786 (kqy209 + 6) (by omega) (by omega) (by decide) dX10_layer1_327 (fun gy790 egy791 => ?_)
                        have hgy792 := up_s egy791
                        obtain ⟨ry793, hvy794⟩ : ∃ rZ9 : Nat → Int, rZ9 = uZ ry787 (kqy209 + 6) (nm) := ⟨_, rfl⟩
                        rw [← hvy794] at hgy792
                        refine z_aload_n C 2 dX10_layer1_328 rfl ?_
                        have hgy795 := up_n egy791 hgy789 (ne_o (i := i) (c := 0) (d := 23) rfl)
                        refine z_get (v := .ref (ad (i + 18))) C (lt_A0 hN rfl) hay1 hgy795 rfl inA_X10 41 (by decide) q_1500 rfl rfl dX10_layer1_329 ?_
                        refine z_iload_n C 1 dX10_layer1_332 rfl ?_
                        refine z_dup2 C dX10_layer1_333 rfl rfl ?_
                        have hgy796 := (hfvy215 (i + 18) (ne_o (i := i) (c := 18) (d := 0) rfl)).trans hgy207
                        have hgy797 := (hfvy222 (i + 18) (ne_o (i := i) (c := 18) (d := 0) rfl)).trans hgy796
                        have hgy798 := up_n egy233 hgy797 (ne_o (i := i) (c := 18) (d := 23) rfl)
                        have hgy799 := (hfvy239 (i + 18) (ne_o (i := i) (c := 18) (d := 0) rfl)).trans hgy798
                        have hgy800 := (hfvy245 (i + 18) (ne_o (i := i) (c := 18) (d := 0) rfl)).trans hgy799
                        have hgy801 := up_n egy253 hgy800 (ne_o (i := i) (c := 18) (d := 23) rfl)
                        have hgy802 := (hfvy260 (i + 18) (ne_o (i := i) (c := 18) (d := 0) rfl)).trans hgy801
                        have hgy803 := up_n egy267 hgy802 (ne_o (i := i) (c := 18) (d := 23) rfl)
                        have hgy804 := (hfvy386 (i + 18) (ne_o (i := i) (c := 18) (d := 0) rfl)).trans hgy803
                        have hgy805 := (hfvy389 (i + 18) (ne_o (i := i) (c := 18) (d := 0) rfl)).trans hgy804
                        have hgy806 := (hfvy517 (i + 18) (ne_o (i := i) (c := 18) (d := 0) rfl)).trans hgy805
                        have hgy807 := up_n egy520 hgy806 (ne_o (i := i) (c := 18) (d := 23) rfl)
                        have hgy808 := (hfvy531 (i + 18) (ne_o (i := i) (c := 18) (d := 0) rfl)).trans hgy807
                        have hgy809 := (hfvy537 (i + 18) (ne_o (i := i) (c := 18) (d := 0) rfl)).trans hgy808
                        have hgy810 := up_n egy779 hgy809 (ne_o (i := i) (c := 18) (d := 23) rfl)
                        have hgy811 := up_n egy785 hgy810 (ne_o (i := i) (c := 18) (d := 23) rfl)
                        have hgy812 := up_n egy791 hgy811 (ne_o (i := i) (c := 18) (d := 23) rfl)
                        refine z_iald C (lt_A (c := 18) hN rfl) hay9 hgy812 (ny146) (by omega) (by omega) (by decide) dX10_layer1_334 ?_
                        have hrfy813 := hmn1 (ny146) (by omega)
                        refine z_iconst (z := 1) C dX10_layer1_335 rfl ?_
                        refine z_iadd C dX10_layer1_336 ?_
                        refine z_iast C (lt_A (c := 18) hN rfl) hay9 hgy812 (ny146) (by omega) (by omega) (by decide) dX10_layer1_337 (fun gy814 egy815 => ?_)
                        have hgy816 := up_s egy815
                        obtain ⟨ry817, hvy818⟩ : ∃ rZ9 : Nat → Int, rZ9 = uZ mn1 (ny146) ((mn1 (ny146)) + 1) := ⟨_, rfl⟩
                        rw [← hvy818] at hgy816
                        refine z_aload_n C 2 dX10_layer1_338 rfl ?_
                        refine z_dup C dX10_layer1_339 rfl ?_
                        have hgy819 := up_n egy815 hgy795 (ne_o (i := i) (c := 0) (d := 18) rfl)
                        refine z_get (v := .int (zI (nm))) C (lt_A0 hN rfl) hay1 hgy819 rfl inA_X10 49 (by decide) q_1508 rfl (fv (F := Fvy537) (f := 49) ((hFvy537 49 (by decide) (by decide) (by decide) (by decide) (by decide) (by decide) (by decide)).trans ((hFvy531 49 (by decide) (by decide) (by decide) (by decide) (by decide)).trans ((hFvy517 49 (by decide) (by decide)).trans ((hFvy389 49 (by decide) (by decide)).trans ((hFvy386 49 (by decide) (by decide)).trans ((hFvy260 49 (by decide) (by decide) (by decide) (by decide) (by decide) (by decide) (by decide)).trans ((hFvy245 49 (by decide) (by decide) (by decide) (by decide) (by decide) (by decide) (by decide)).trans ((hFvy239 49 (by decide) (by decide) (by decide) (by decide) (by decide)).trans ((hFvy222 49 (by decide) (by decide)).trans ((hFvy215 49 (by decide) (by decide) (by decide) (by decide) (by decide)).trans ((hFvy206 49 (by decide) (by decide)).trans ((hFvy145 49 (by decide) (by decide)).trans ((hFvy96 49 (by decide) (by decide)).trans ((hFvy55 49 (by decide) (by decide)).trans ((hFvy15 49 (by decide) (by decide) (by decide) (by decide) (by decide)).trans r49)))))))))))))))) dX10_layer1_340 ?_
                        refine z_iconst (z := 1) C dX10_layer1_343 rfl ?_
                        refine z_iadd C dX10_layer1_344 ?_
                        refine z_put (fs' := mF ad (i) (uZ Fvy537 49 (nm + 1))) C (lt_A0 hN rfl) hay1 hgy819 tyX10 tyX10_ok nmX10 rfl inA_X10 49 (by decide) q_1508 rfl rfl rfl rfl (Nat.le_of_ble_eq_true rfl) rfl dX10_layer1_345 (fun gy820 egy821 => ?_)
                        have hgy822 := up_s egy821
                        have hFy823 : ∀ f, f ≠ 24 → f ≠ 32 → f ≠ 33 → f ≠ 35 → f ≠ 36 → f ≠ 37 → f ≠ 38 → f ≠ 47 → f ≠ 48 → f ≠ 49 → (uZ Fvy537 49 (nm + 1)) f = F f := fun f n24 n32 n33 n35 n36 n37 n38 n47 n48 n49 => ((uZ_n _ _ n49).trans ((hFvy537 f n24 n32 n33 n35 n36 n37 n38).trans ((hFvy531 f n32 n33 n35 n36 n37).trans ((hFvy517 f n24 n38).trans ((hFvy389 f n24 n38).trans ((hFvy386 f n24 n38).trans ((hFvy260 f n24 n32 n33 n35 n36 n37 n38).trans ((hFvy245 f n24 n32 n33 n35 n36 n37 n38).trans ((hFvy239 f n32 n33 n35 n36 n37).trans ((hFvy222 f n24 n38).trans ((hFvy215 f n32 n33 n35 n36 n37).trans ((hFvy206 f n24 n38).trans ((hFvy145 f n24 n38).trans ((hFvy96 f n24 n38).trans ((hFvy55 f n24 n38).trans (hFvy15 f n32 n33 n35 n36 n37))))))))))))))))
                        have htky824 : tkR T n (uZ Fvy537 49 (nm + 1)) (tk_nx T n (tk_nx T n (tk_nx T n (tk_nx T n (tk_nx T n (tk_nx T n f)))))) := (tkR.put hkvy537 (by decide))
                        have htoy825 := tk_to_w (T := T) (n := n) (f := (tk_nx T n (tk_nx T n (tk_nx T n (tk_nx T n (tk_nx T n (tk_nx T n f))))))) htky824.1.1
                        have h32y826 := htky824.2.1
                        have hey827 : (uZ Fvy537 49 (nm + 1)) 24 = ((tk_nx T n (tk_nx T n (tk_nx T n (tk_nx T n (tk_nx T n (tk_nx T n f)))))) : Int) := (fn hbvy537 (by decide))
                        have hey828 : (uZ Fvy537 49 (nm + 1)) 38 = cvy537 := (fn hevy537 (by decide))
                        have hey829 : (uZ Fvy537 49 (nm + 1)) 47 = sl := (fn ((hFvy537 47 (by decide) (by decide) (by decide) (by decide) (by decide) (by decide) (by decide)).trans ((hFvy531 47 (by decide) (by decide) (by decide) (by decide) (by decide)).trans ((hFvy517 47 (by decide) (by decide)).trans ((hFvy389 47 (by decide) (by decide)).trans ((hFvy386 47 (by decide) (by decide)).trans ((hFvy260 47 (by decide) (by decide) (by decide) (by decide) (by decide) (by decide) (by decide)).trans ((hFvy245 47 (by decide) (by decide) (by decide) (by decide) (by decide) (by decide) (by decide)).trans ((hFvy239 47 (by decide) (by decide) (by decide) (by decide) (by decide)).trans ((hFvy222 47 (by decide) (by decide)).trans ((hFvy215 47 (by decide) (by decide) (by decide) (by decide) (by decide)).trans ((hFvy206 47 (by decide) (by decide)).trans ((hFvy145 47 (by decide) (by decide)).trans ((hFvy96 47 (by decide) (by decide)).trans ((hFvy55 47 (by decide) (by decide)).trans ((hFvy15 47 (by decide) (by decide) (by decide) (by decide) (by decide)).trans r47))))))))))))))) (by decide))
                        have hey830 : (uZ Fvy537 49 (nm + 1)) 48 = ho := (fn ((hFvy537 48 (by decide) (by decide) (by decide) (by decide) (by decide) (by decide) (by decide)).trans ((hFvy531 48 (by decide) (by decide) (by decide) (by decide) (by decide)).trans ((hFvy517 48 (by decide) (by decide)).trans ((hFvy389 48 (by decide) (by decide)).trans ((hFvy386 48 (by decide) (by decide)).trans ((hFvy260 48 (by decide) (by decide) (by decide) (by decide) (by decide) (by decide) (by decide)).trans ((hFvy245 48 (by decide) (by decide) (by decide) (by decide) (by decide) (by decide) (by decide)).trans ((hFvy239 48 (by decide) (by decide) (by decide) (by decide) (by decide)).trans ((hFvy222 48 (by decide) (by decide)).trans ((hFvy215 48 (by decide) (by decide) (by decide) (by decide) (by decide)).trans ((hFvy206 48 (by decide) (by decide)).trans ((hFvy145 48 (by decide) (by decide)).trans ((hFvy96 48 (by decide) (by decide)).trans ((hFvy55 48 (by decide) (by decide)).trans ((hFvy15 48 (by decide) (by decide) (by decide) (by decide) (by decide)).trans r48))))))))))))))) (by decide))
                        have hey831 : (uZ Fvy537 49 (nm + 1)) 49 = nm + 1 := (uZ_s _ _ _)
                        have hfry833 : ∀ j, j ≠ ny146 → ry817 j = mn1 j := fun j n0 => (congrFun hvy818 _).trans ((uZ_n _ _ n0).trans (rfl))
                        have hwy834 : ry817 (ny146) = (mn1 (ny146)) + 1 := (congrFun hvy818 _).trans (uZ_s _ _ _)
                        have haky832 : ∀ k, k < 4 → 0 ≤ ry817 k ∧ ry817 k ≤ 12 := by
                          intro k hk
                          by_cases e : k = ny146
                          · rw [e]; have hk0 := hmn1 (ny146) (by omega); omega
                          · have hk0 := hmn1 k hk; rw [hfry833 k e]; exact hk0
                        have hfry837 : ∀ j, j ≠ ny146 → ry817 j = mn1 j := fun j n0 => (congrFun hvy818 _).trans ((uZ_n _ _ n0).trans (rfl))
                        have hfry838 : ∀ j, j ≠ kqy209 + 6 → j ≠ kqy209 + 5 → j ≠ kqy209 + 4 → j ≠ kqy209 + 3 → j ≠ kqy209 + 2 → j ≠ kqy209 + 1 → j ≠ kqy209 → ry793 j = ly1 j := fun j n0 n1 n2 n3 n4 n5 n6 => (congrFun hvy794 _).trans ((uZ_n _ _ n0).trans ((congrFun hvy788 _).trans ((uZ_n _ _ n1).trans ((congrFun hvy782 _).trans ((uZ_n _ _ n2).trans ((congrFun hvy523 _).trans ((uZ_n _ _ n3).trans ((congrFun hvy270 _).trans ((uZ_n _ _ n4).trans ((congrFun hvy256 _).trans ((uZ_n _ _ n5).trans ((congrFun hvy236 _).trans ((uZ_n _ _ n6).trans (rfl))))))))))))))
                        have hwy839 : ry817 (ny146) = (mn1 (ny146)) + 1 := (congrFun hvy818 _).trans (uZ_s _ _ _)
                        have hwy840 : ry793 (kqy209) = tk_kd T n (tk_nx T n (tk_nx T n f)) := (congrFun hvy794 _).trans ((uZ_n _ _ (by omega)).trans ((congrFun hvy788 _).trans ((uZ_n _ _ (by omega)).trans ((congrFun hvy782 _).trans ((uZ_n _ _ (by omega)).trans ((congrFun hvy523 _).trans ((uZ_n _ _ (by omega)).trans ((congrFun hvy270 _).trans ((uZ_n _ _ (by omega)).trans ((congrFun hvy256 _).trans ((uZ_n _ _ (by omega)).trans ((congrFun hvy236 _).trans (uZ_s _ _ _)))))))))))))
                        have hwy841 : ry793 (kqy209 + 1) = vy245 := (congrFun hvy794 _).trans ((uZ_n _ _ (by omega)).trans ((congrFun hvy788 _).trans ((uZ_n _ _ (by omega)).trans ((congrFun hvy782 _).trans ((uZ_n _ _ (by omega)).trans ((congrFun hvy523 _).trans ((uZ_n _ _ (by omega)).trans ((congrFun hvy270 _).trans ((uZ_n _ _ (by omega)).trans ((congrFun hvy256 _).trans (uZ_s _ _ _)))))))))))
                        have hwy842 : ry793 (kqy209 + 2) = vy260 := (congrFun hvy794 _).trans ((uZ_n _ _ (by omega)).trans ((congrFun hvy788 _).trans ((uZ_n _ _ (by omega)).trans ((congrFun hvy782 _).trans ((uZ_n _ _ (by omega)).trans ((congrFun hvy523 _).trans ((uZ_n _ _ (by omega)).trans ((congrFun hvy270 _).trans (uZ_s _ _ _)))))))))
                        have hwy843 : ry793 (kqy209 + 3) = tk_va T n (tk_nx T n (tk_nx T n (tk_nx T n (tk_nx T n (tk_nx T n f))))) := (congrFun hvy794 _).trans ((uZ_n _ _ (by omega)).trans ((congrFun hvy788 _).trans ((uZ_n _ _ (by omega)).trans ((congrFun hvy782 _).trans ((uZ_n _ _ (by omega)).trans ((congrFun hvy523 _).trans (uZ_s _ _ _)))))))
                        have hwy844 : ry793 (kqy209 + 4) = -(0) := (congrFun hvy794 _).trans ((uZ_n _ _ (by omega)).trans ((congrFun hvy788 _).trans ((uZ_n _ _ (by omega)).trans ((congrFun hvy782 _).trans (uZ_s _ _ _)))))
                        have hwy845 : ry793 (kqy209 + 6) = nm := (congrFun hvy794 _).trans (uZ_s _ _ _)
                        have hlyn : lyT ry793 kqy209 := by unfold lyT; omega
                        have hlay836 : ∀ s l : Nat, (s : Int) < (uZ Fvy537 49 (nm + 1)) 47 → (l : Int) < ry817 s → lyT ry793 (84 * s + 7 * l) := by
                          intro s l a1 a2
                          by_cases e : s = ny146
                          · subst e; by_cases e2 : (l : Int) = mn1 s
                            · rw [show 84 * s + 7 * l = kqy209 by omega]; exact hlyn
                            · exact (hly1 s l (by omega) (by omega)).ext (fun j b1 b2 => hfry838 j (by omega) (by omega) (by omega) (by omega) (by omega) (by omega) (by omega))
                          · have hs9 := hfry837 s e; rw [hs9] at a2; have hm9 := hmn1 s (by omega); exact (hly1 s l (by omega) a2).ext (fun j b1 b2 => hfry838 j (by omega) (by omega) (by omega) (by omega) (by omega) (by omega) (by omega))
                        have hgy846 := (hfvy15 (i + 16) (ne_o (i := i) (c := 16) (d := 0) rfl)).trans ha16
                        have hgy847 := (hfvy55 (i + 16) (ne_o (i := i) (c := 16) (d := 0) rfl)).trans hgy846
                        have hgy848 := (hfvy96 (i + 16) (ne_o (i := i) (c := 16) (d := 0) rfl)).trans hgy847
                        have hgy849 := (hfvy145 (i + 16) (ne_o (i := i) (c := 16) (d := 0) rfl)).trans hgy848
                        have hgy850 := (hfvy206 (i + 16) (ne_o (i := i) (c := 16) (d := 0) rfl)).trans hgy849
                        have hgy851 := (hfvy215 (i + 16) (ne_o (i := i) (c := 16) (d := 0) rfl)).trans hgy850
                        have hgy852 := (hfvy222 (i + 16) (ne_o (i := i) (c := 16) (d := 0) rfl)).trans hgy851
                        have hgy853 := up_n egy233 hgy852 (ne_o (i := i) (c := 16) (d := 23) rfl)
                        have hgy854 := (hfvy239 (i + 16) (ne_o (i := i) (c := 16) (d := 0) rfl)).trans hgy853
                        have hgy855 := (hfvy245 (i + 16) (ne_o (i := i) (c := 16) (d := 0) rfl)).trans hgy854
                        have hgy856 := up_n egy253 hgy855 (ne_o (i := i) (c := 16) (d := 23) rfl)
                        have hgy857 := (hfvy260 (i + 16) (ne_o (i := i) (c := 16) (d := 0) rfl)).trans hgy856
                        have hgy858 := up_n egy267 hgy857 (ne_o (i := i) (c := 16) (d := 23) rfl)
                        have hgy859 := (hfvy386 (i + 16) (ne_o (i := i) (c := 16) (d := 0) rfl)).trans hgy858
                        have hgy860 := (hfvy389 (i + 16) (ne_o (i := i) (c := 16) (d := 0) rfl)).trans hgy859
                        have hgy861 := (hfvy517 (i + 16) (ne_o (i := i) (c := 16) (d := 0) rfl)).trans hgy860
                        have hgy862 := up_n egy520 hgy861 (ne_o (i := i) (c := 16) (d := 23) rfl)
                        have hgy863 := (hfvy531 (i + 16) (ne_o (i := i) (c := 16) (d := 0) rfl)).trans hgy862
                        have hgy864 := (hfvy537 (i + 16) (ne_o (i := i) (c := 16) (d := 0) rfl)).trans hgy863
                        have hgy865 := up_n egy779 hgy864 (ne_o (i := i) (c := 16) (d := 23) rfl)
                        have hgy866 := up_n egy785 hgy865 (ne_o (i := i) (c := 16) (d := 23) rfl)
                        have hgy867 := up_n egy791 hgy866 (ne_o (i := i) (c := 16) (d := 23) rfl)
                        have hgy868 := up_n egy815 hgy867 (ne_o (i := i) (c := 16) (d := 18) rfl)
                        have hgy869 := up_n egy821 hgy868 (ne_o (i := i) (c := 16) (d := 0) rfl)
                        have hgy870 := (hfvy15 (i + 17) (ne_o (i := i) (c := 17) (d := 0) rfl)).trans ha17
                        have hgy871 := (hfvy55 (i + 17) (ne_o (i := i) (c := 17) (d := 0) rfl)).trans hgy870
                        have hgy872 := (hfvy96 (i + 17) (ne_o (i := i) (c := 17) (d := 0) rfl)).trans hgy871
                        have hgy873 := (hfvy145 (i + 17) (ne_o (i := i) (c := 17) (d := 0) rfl)).trans hgy872
                        have hgy874 := (hfvy206 (i + 17) (ne_o (i := i) (c := 17) (d := 0) rfl)).trans hgy873
                        have hgy875 := (hfvy215 (i + 17) (ne_o (i := i) (c := 17) (d := 0) rfl)).trans hgy874
                        have hgy876 := (hfvy222 (i + 17) (ne_o (i := i) (c := 17) (d := 0) rfl)).trans hgy875
                        have hgy877 := up_n egy233 hgy876 (ne_o (i := i) (c := 17) (d := 23) rfl)
                        have hgy878 := (hfvy239 (i + 17) (ne_o (i := i) (c := 17) (d := 0) rfl)).trans hgy877
                        have hgy879 := (hfvy245 (i + 17) (ne_o (i := i) (c := 17) (d := 0) rfl)).trans hgy878
                        have hgy880 := up_n egy253 hgy879 (ne_o (i := i) (c := 17) (d := 23) rfl)
                        have hgy881 := (hfvy260 (i + 17) (ne_o (i := i) (c := 17) (d := 0) rfl)).trans hgy880
                        have hgy882 := up_n egy267 hgy881 (ne_o (i := i) (c := 17) (d := 23) rfl)
                        have hgy883 := (hfvy386 (i + 17) (ne_o (i := i) (c := 17) (d := 0) rfl)).trans hgy882
                        have hgy884 := (hfvy389 (i + 17) (ne_o (i := i) (c := 17) (d := 0) rfl)).trans hgy883
                        have hgy885 := (hfvy517 (i + 17) (ne_o (i := i) (c := 17) (d := 0) rfl)).trans hgy884
                        have hgy886 := up_n egy520 hgy885 (ne_o (i := i) (c := 17) (d := 23) rfl)
                        have hgy887 := (hfvy531 (i + 17) (ne_o (i := i) (c := 17) (d := 0) rfl)).trans hgy886
                        have hgy888 := (hfvy537 (i + 17) (ne_o (i := i) (c := 17) (d := 0) rfl)).trans hgy887
                        have hgy889 := up_n egy779 hgy888 (ne_o (i := i) (c := 17) (d := 23) rfl)
                        have hgy890 := up_n egy785 hgy889 (ne_o (i := i) (c := 17) (d := 23) rfl)
                        have hgy891 := up_n egy791 hgy890 (ne_o (i := i) (c := 17) (d := 23) rfl)
                        have hgy892 := up_n egy815 hgy891 (ne_o (i := i) (c := 17) (d := 18) rfl)
                        have hgy893 := up_n egy821 hgy892 (ne_o (i := i) (c := 17) (d := 0) rfl)
                        have hgy894 := up_n egy821 hgy816 (ne_o (i := i) (c := 18) (d := 0) rfl)
                        have hgy895 := (hfvy15 (i + 19) (ne_o (i := i) (c := 19) (d := 0) rfl)).trans ha19
                        have hgy896 := (hfvy55 (i + 19) (ne_o (i := i) (c := 19) (d := 0) rfl)).trans hgy895
                        have hgy897 := (hfvy96 (i + 19) (ne_o (i := i) (c := 19) (d := 0) rfl)).trans hgy896
                        have hgy898 := (hfvy145 (i + 19) (ne_o (i := i) (c := 19) (d := 0) rfl)).trans hgy897
                        have hgy899 := (hfvy206 (i + 19) (ne_o (i := i) (c := 19) (d := 0) rfl)).trans hgy898
                        have hgy900 := (hfvy215 (i + 19) (ne_o (i := i) (c := 19) (d := 0) rfl)).trans hgy899
                        have hgy901 := (hfvy222 (i + 19) (ne_o (i := i) (c := 19) (d := 0) rfl)).trans hgy900
                        have hgy902 := up_n egy233 hgy901 (ne_o (i := i) (c := 19) (d := 23) rfl)
                        have hgy903 := (hfvy239 (i + 19) (ne_o (i := i) (c := 19) (d := 0) rfl)).trans hgy902
                        have hgy904 := (hfvy245 (i + 19) (ne_o (i := i) (c := 19) (d := 0) rfl)).trans hgy903
                        have hgy905 := up_n egy253 hgy904 (ne_o (i := i) (c := 19) (d := 23) rfl)
                        have hgy906 := (hfvy260 (i + 19) (ne_o (i := i) (c := 19) (d := 0) rfl)).trans hgy905
                        have hgy907 := up_n egy267 hgy906 (ne_o (i := i) (c := 19) (d := 23) rfl)
                        have hgy908 := (hfvy386 (i + 19) (ne_o (i := i) (c := 19) (d := 0) rfl)).trans hgy907
                        have hgy909 := (hfvy389 (i + 19) (ne_o (i := i) (c := 19) (d := 0) rfl)).trans hgy908
                        have hgy910 := (hfvy517 (i + 19) (ne_o (i := i) (c := 19) (d := 0) rfl)).trans hgy909
                        have hgy911 := up_n egy520 hgy910 (ne_o (i := i) (c := 19) (d := 23) rfl)
                        have hgy912 := (hfvy531 (i + 19) (ne_o (i := i) (c := 19) (d := 0) rfl)).trans hgy911
                        have hgy913 := (hfvy537 (i + 19) (ne_o (i := i) (c := 19) (d := 0) rfl)).trans hgy912
                        have hgy914 := up_n egy779 hgy913 (ne_o (i := i) (c := 19) (d := 23) rfl)
                        have hgy915 := up_n egy785 hgy914 (ne_o (i := i) (c := 19) (d := 23) rfl)
                        have hgy916 := up_n egy791 hgy915 (ne_o (i := i) (c := 19) (d := 23) rfl)
                        have hgy917 := up_n egy815 hgy916 (ne_o (i := i) (c := 19) (d := 18) rfl)
                        have hgy918 := up_n egy821 hgy917 (ne_o (i := i) (c := 19) (d := 0) rfl)
                        have hgy919 := (hfvy15 (i + 20) (ne_o (i := i) (c := 20) (d := 0) rfl)).trans ha20
                        have hgy920 := (hfvy55 (i + 20) (ne_o (i := i) (c := 20) (d := 0) rfl)).trans hgy919
                        have hgy921 := (hfvy96 (i + 20) (ne_o (i := i) (c := 20) (d := 0) rfl)).trans hgy920
                        have hgy922 := (hfvy145 (i + 20) (ne_o (i := i) (c := 20) (d := 0) rfl)).trans hgy921
                        have hgy923 := (hfvy206 (i + 20) (ne_o (i := i) (c := 20) (d := 0) rfl)).trans hgy922
                        have hgy924 := (hfvy215 (i + 20) (ne_o (i := i) (c := 20) (d := 0) rfl)).trans hgy923
                        have hgy925 := (hfvy222 (i + 20) (ne_o (i := i) (c := 20) (d := 0) rfl)).trans hgy924
                        have hgy926 := up_n egy233 hgy925 (ne_o (i := i) (c := 20) (d := 23) rfl)
                        have hgy927 := (hfvy239 (i + 20) (ne_o (i := i) (c := 20) (d := 0) rfl)).trans hgy926
                        have hgy928 := (hfvy245 (i + 20) (ne_o (i := i) (c := 20) (d := 0) rfl)).trans hgy927
                        have hgy929 := up_n egy253 hgy928 (ne_o (i := i) (c := 20) (d := 23) rfl)
                        have hgy930 := (hfvy260 (i + 20) (ne_o (i := i) (c := 20) (d := 0) rfl)).trans hgy929
                        have hgy931 := up_n egy267 hgy930 (ne_o (i := i) (c := 20) (d := 23) rfl)
                        have hgy932 := (hfvy386 (i + 20) (ne_o (i := i) (c := 20) (d := 0) rfl)).trans hgy931
                        have hgy933 := (hfvy389 (i + 20) (ne_o (i := i) (c := 20) (d := 0) rfl)).trans hgy932
                        have hgy934 := (hfvy517 (i + 20) (ne_o (i := i) (c := 20) (d := 0) rfl)).trans hgy933
                        have hgy935 := up_n egy520 hgy934 (ne_o (i := i) (c := 20) (d := 23) rfl)
                        have hgy936 := (hfvy531 (i + 20) (ne_o (i := i) (c := 20) (d := 0) rfl)).trans hgy935
                        have hgy937 := (hfvy537 (i + 20) (ne_o (i := i) (c := 20) (d := 0) rfl)).trans hgy936
                        have hgy938 := up_n egy779 hgy937 (ne_o (i := i) (c := 20) (d := 23) rfl)
                        have hgy939 := up_n egy785 hgy938 (ne_o (i := i) (c := 20) (d := 23) rfl)
                        have hgy940 := up_n egy791 hgy939 (ne_o (i := i) (c := 20) (d := 23) rfl)
                        have hgy941 := up_n egy815 hgy940 (ne_o (i := i) (c := 20) (d := 18) rfl)
                        have hgy942 := up_n egy821 hgy941 (ne_o (i := i) (c := 20) (d := 0) rfl)
                        have hgy943 := (hfvy15 (i + 21) (ne_o (i := i) (c := 21) (d := 0) rfl)).trans ha21
                        have hgy944 := (hfvy55 (i + 21) (ne_o (i := i) (c := 21) (d := 0) rfl)).trans hgy943
                        have hgy945 := (hfvy96 (i + 21) (ne_o (i := i) (c := 21) (d := 0) rfl)).trans hgy944
                        have hgy946 := (hfvy145 (i + 21) (ne_o (i := i) (c := 21) (d := 0) rfl)).trans hgy945
                        have hgy947 := (hfvy206 (i + 21) (ne_o (i := i) (c := 21) (d := 0) rfl)).trans hgy946
                        have hgy948 := (hfvy215 (i + 21) (ne_o (i := i) (c := 21) (d := 0) rfl)).trans hgy947
                        have hgy949 := (hfvy222 (i + 21) (ne_o (i := i) (c := 21) (d := 0) rfl)).trans hgy948
                        have hgy950 := up_n egy233 hgy949 (ne_o (i := i) (c := 21) (d := 23) rfl)
                        have hgy951 := (hfvy239 (i + 21) (ne_o (i := i) (c := 21) (d := 0) rfl)).trans hgy950
                        have hgy952 := (hfvy245 (i + 21) (ne_o (i := i) (c := 21) (d := 0) rfl)).trans hgy951
                        have hgy953 := up_n egy253 hgy952 (ne_o (i := i) (c := 21) (d := 23) rfl)
                        have hgy954 := (hfvy260 (i + 21) (ne_o (i := i) (c := 21) (d := 0) rfl)).trans hgy953
                        have hgy955 := up_n egy267 hgy954 (ne_o (i := i) (c := 21) (d := 23) rfl)
                        have hgy956 := (hfvy386 (i + 21) (ne_o (i := i) (c := 21) (d := 0) rfl)).trans hgy955
                        have hgy957 := (hfvy389 (i + 21) (ne_o (i := i) (c := 21) (d := 0) rfl)).trans hgy956
                        have hgy958 := (hfvy517 (i + 21) (ne_o (i := i) (c := 21) (d := 0) rfl)).trans hgy957
                        have hgy959 := up_n egy520 hgy958 (ne_o (i := i) (c := 21) (d := 23) rfl)
                        have hgy960 := (hfvy531 (i + 21) (ne_o (i := i) (c := 21) (d := 0) rfl)).trans hgy959
                        have hgy961 := (hfvy537 (i + 21) (ne_o (i := i) (c := 21) (d := 0) rfl)).trans hgy960
                        have hgy962 := up_n egy779 hgy961 (ne_o (i := i) (c := 21) (d := 23) rfl)
                        have hgy963 := up_n egy785 hgy962 (ne_o (i := i) (c := 21) (d := 23) rfl)
                        have hgy964 := up_n egy791 hgy963 (ne_o (i := i) (c := 21) (d := 23) rfl)
                        have hgy965 := up_n egy815 hgy964 (ne_o (i := i) (c := 21) (d := 18) rfl)
                        have hgy966 := up_n egy821 hgy965 (ne_o (i := i) (c := 21) (d := 0) rfl)
                        have hgy967 := (hfvy15 (i + 22) (ne_o (i := i) (c := 22) (d := 0) rfl)).trans ha22
                        have hgy968 := (hfvy55 (i + 22) (ne_o (i := i) (c := 22) (d := 0) rfl)).trans hgy967
                        have hgy969 := (hfvy96 (i + 22) (ne_o (i := i) (c := 22) (d := 0) rfl)).trans hgy968
                        have hgy970 := (hfvy145 (i + 22) (ne_o (i := i) (c := 22) (d := 0) rfl)).trans hgy969
                        have hgy971 := (hfvy206 (i + 22) (ne_o (i := i) (c := 22) (d := 0) rfl)).trans hgy970
                        have hgy972 := (hfvy215 (i + 22) (ne_o (i := i) (c := 22) (d := 0) rfl)).trans hgy971
                        have hgy973 := (hfvy222 (i + 22) (ne_o (i := i) (c := 22) (d := 0) rfl)).trans hgy972
                        have hgy974 := up_n egy233 hgy973 (ne_o (i := i) (c := 22) (d := 23) rfl)
                        have hgy975 := (hfvy239 (i + 22) (ne_o (i := i) (c := 22) (d := 0) rfl)).trans hgy974
                        have hgy976 := (hfvy245 (i + 22) (ne_o (i := i) (c := 22) (d := 0) rfl)).trans hgy975
                        have hgy977 := up_n egy253 hgy976 (ne_o (i := i) (c := 22) (d := 23) rfl)
                        have hgy978 := (hfvy260 (i + 22) (ne_o (i := i) (c := 22) (d := 0) rfl)).trans hgy977
                        have hgy979 := up_n egy267 hgy978 (ne_o (i := i) (c := 22) (d := 23) rfl)
                        have hgy980 := (hfvy386 (i + 22) (ne_o (i := i) (c := 22) (d := 0) rfl)).trans hgy979
                        have hgy981 := (hfvy389 (i + 22) (ne_o (i := i) (c := 22) (d := 0) rfl)).trans hgy980
                        have hgy982 := (hfvy517 (i + 22) (ne_o (i := i) (c := 22) (d := 0) rfl)).trans hgy981
                        have hgy983 := up_n egy520 hgy982 (ne_o (i := i) (c := 22) (d := 23) rfl)
                        have hgy984 := (hfvy531 (i + 22) (ne_o (i := i) (c := 22) (d := 0) rfl)).trans hgy983
                        have hgy985 := (hfvy537 (i + 22) (ne_o (i := i) (c := 22) (d := 0) rfl)).trans hgy984
                        have hgy986 := up_n egy779 hgy985 (ne_o (i := i) (c := 22) (d := 23) rfl)
                        have hgy987 := up_n egy785 hgy986 (ne_o (i := i) (c := 22) (d := 23) rfl)
                        have hgy988 := up_n egy791 hgy987 (ne_o (i := i) (c := 22) (d := 23) rfl)
                        have hgy989 := up_n egy815 hgy988 (ne_o (i := i) (c := 22) (d := 18) rfl)
                        have hgy990 := up_n egy821 hgy989 (ne_o (i := i) (c := 22) (d := 0) rfl)
                        have hgy991 := up_n egy815 hgy792 (ne_o (i := i) (c := 23) (d := 18) rfl)
                        have hgy992 := up_n egy821 hgy991 (ne_o (i := i) (c := 23) (d := 0) rfl)
                        have htxy993 : okTx cs gy820 i (uZ Fvy537 49 (nm + 1)) := ⟨_, _, _, _, _, _, _, _, ⟨hgy869, hgy893, hgy894, hgy918, hgy942, hgy966, hgy990, hgy992⟩, ⟨⟨by omega, by omega, by omega⟩, hop1, haky832, hai1, hfa1, htb1, hlay836⟩⟩
                        exact z_vret C hr hlk dX10_layer1_348 (by decide) (by decide) ⟨rfl, rfl, rfl, ⟨_, hgy822, hFy823, Or.inr ⟨(cvy537, (tk_nx T n (tk_nx T n (tk_nx T n (tk_nx T n (tk_nx T n (tk_nx T n f))))))), by simp only [cl_layer, cl_layer2, hny58, if_neg hscy99, if_neg hscy156, if_neg hxvy220, hnvy245, hnvy260, hny388, if_neg hscy394, hnvy537], by show (uZ Fvy537 49 (nm + 1)) 38 = cvy537; omega, by show (uZ Fvy537 49 (nm + 1)) 24 = (((tk_nx T n (tk_nx T n (tk_nx T n (tk_nx T n (tk_nx T n (tk_nx T n f)))))) : Nat) : Int); omega, by show 1 ≤ cvy537 ∧ cvy537 ≤ 5; omega, ⟨_, htky824⟩, htxy993⟩⟩, fun j j1 j2 => by rw [egy821, va_up_ne _ _ (by omega)]; rw [egy815, va_up_ne _ _ (by omega)]; rw [egy791, va_up_ne _ _ (by omega)]; rw [egy785, va_up_ne _ _ (by omega)]; rw [egy779, va_up_ne _ _ (by omega)]; rw [hfvy537 _ (by omega)]; rw [hfvy531 _ (by omega)]; rw [egy520, va_up_ne _ _ (by omega)]; rw [hfvy517 _ (by omega)]; rw [hfvy389 _ (by omega)]; rw [hfvy386 _ (by omega)]; rw [egy267, va_up_ne _ _ (by omega)]; rw [hfvy260 _ (by omega)]; rw [egy253, va_up_ne _ _ (by omega)]; rw [hfvy245 _ (by omega)]; rw [hfvy239 _ (by omega)]; rw [egy233, va_up_ne _ _ (by omega)]; rw [hfvy222 _ (by omega)]; rw [hfvy215 _ (by omega)]; rw [hfvy206 _ (by omega)]; rw [hfvy145 _ (by omega)]; rw [hfvy96 _ (by omega)]; rw [hfvy55 _ (by omega)]; rw [hfvy15 _ (by omega)]⟩
                  · have hny994 : tk_nu T n 1 999 (tk_nx T n (tk_nx T n (tk_nx T n (tk_nx T n (tk_nx T n f))))) = .error (2, (tk_nx T n (tk_nx T n (tk_nx T n (tk_nx T n (tk_nx T n f)))))) := by unfold tk_nu; rw [if_neg (by omega), if_pos (by omega)]
                    refine z_iconst (z := 2) C dX10_layer1_228 rfl ?_
                    have h33vy995 : Fvy386 33 = ((tk_nx T n (tk_nx T n (tk_nx T n (tk_nx T n (tk_nx T n f))))) : Int) := ((hFvy386 33 (by decide) (by decide)).trans hkvy260.2.2.1)
                    have h24vy995 : Fvy386 24 = F 24 := hbvy386
                    have htvy995 : tkR T n Fvy386 (tk_nx T n (tk_nx T n (tk_nx T n (tk_nx T n (tk_nx T n f))))) := hkvy386
                    refine z_cV (As := [.int (zI (0)), .int (zI (2))]) (rest := []) (ci := 12) C (c_yWants l D A cs tt N ad _ i hN _ hcvy386 hevy386 (0) (by omega) (2) (by omega)) (lt_A0 hN rfl) hay1 hcvy386 rfl rfl mv_yX10_wants q_1678 hd_yX10_wants (by decide) (Nat.le_of_ble_eq_true rfl) (by decide) dX10_layer1_229 rfl (kI0 fun vy995 gvy995 hvy995 => ?_)
                    obtain ⟨⟨Fvy995, hcvy995, hqvy995, hFvy995⟩, hfvy995⟩ := hvy995
                    obtain ⟨rfl, hevy995, hbvy995⟩ : vy995 = 0 ∧ Fvy995 38 = 2 ∧ Fvy995 24 = ((tk_nx T n (tk_nx T n (tk_nx T n (tk_nx T n (tk_nx T n f))))) : Int) := by omega
                    clear hqvy995 h33vy995 h24vy995
                    have hkvy995 : tkR T n Fvy995 (tk_nx T n (tk_nx T n (tk_nx T n (tk_nx T n (tk_nx T n f))))) := tkR.w htvy995 hFvy995 (by omega)
                    refine z_if_eq (tgt := 272) C dX10_layer1_232 (by decide) (by omega) (fun _ => ?_) (fun h => absurd h (by omega))
                    have hFy996 : ∀ f, f ≠ 24 → f ≠ 32 → f ≠ 33 → f ≠ 35 → f ≠ 36 → f ≠ 37 → f ≠ 38 → f ≠ 47 → f ≠ 48 → f ≠ 49 → Fvy995 f = F f := fun f n24 n32 n33 n35 n36 n37 n38 n47 n48 n49 => ((hFvy995 f n24 n38).trans ((hFvy386 f n24 n38).trans ((hFvy260 f n24 n32 n33 n35 n36 n37 n38).trans ((hFvy245 f n24 n32 n33 n35 n36 n37 n38).trans ((hFvy239 f n32 n33 n35 n36 n37).trans ((hFvy222 f n24 n38).trans ((hFvy215 f n32 n33 n35 n36 n37).trans ((hFvy206 f n24 n38).trans ((hFvy145 f n24 n38).trans ((hFvy96 f n24 n38).trans ((hFvy55 f n24 n38).trans (hFvy15 f n32 n33 n35 n36 n37))))))))))))
                    have htky997 : tkR T n Fvy995 (tk_nx T n (tk_nx T n (tk_nx T n (tk_nx T n (tk_nx T n f))))) := hkvy995
                    have htoy998 := tk_to_w (T := T) (n := n) (f := (tk_nx T n (tk_nx T n (tk_nx T n (tk_nx T n (tk_nx T n f)))))) htky997.1.1
                    have h32y999 := htky997.2.1
                    have hey1000 : Fvy995 24 = ((tk_nx T n (tk_nx T n (tk_nx T n (tk_nx T n (tk_nx T n f))))) : Int) := hbvy995
                    have hey1001 : Fvy995 38 = 2 := hevy995
                    have hey1002 : Fvy995 47 = sl := ((hFvy995 47 (by decide) (by decide)).trans ((hFvy386 47 (by decide) (by decide)).trans ((hFvy260 47 (by decide) (by decide) (by decide) (by decide) (by decide) (by decide) (by decide)).trans ((hFvy245 47 (by decide) (by decide) (by decide) (by decide) (by decide) (by decide) (by decide)).trans ((hFvy239 47 (by decide) (by decide) (by decide) (by decide) (by decide)).trans ((hFvy222 47 (by decide) (by decide)).trans ((hFvy215 47 (by decide) (by decide) (by decide) (by decide) (by decide)).trans ((hFvy206 47 (by decide) (by decide)).trans ((hFvy145 47 (by decide) (by decide)).trans ((hFvy96 47 (by decide) (by decide)).trans ((hFvy55 47 (by decide) (by decide)).trans ((hFvy15 47 (by decide) (by decide) (by decide) (by decide) (by decide)).trans r47))))))))))))
                    have hey1003 : Fvy995 48 = ho := ((hFvy995 48 (by decide) (by decide)).trans ((hFvy386 48 (by decide) (by decide)).trans ((hFvy260 48 (by decide) (by decide) (by decide) (by decide) (by decide) (by decide) (by decide)).trans ((hFvy245 48 (by decide) (by decide) (by decide) (by decide) (by decide) (by decide) (by decide)).trans ((hFvy239 48 (by decide) (by decide) (by decide) (by decide) (by decide)).trans ((hFvy222 48 (by decide) (by decide)).trans ((hFvy215 48 (by decide) (by decide) (by decide) (by decide) (by decide)).trans ((hFvy206 48 (by decide) (by decide)).trans ((hFvy145 48 (by decide) (by decide)).trans ((hFvy96 48 (by decide) (by decide)).trans ((hFvy55 48 (by decide) (by decide)).trans ((hFvy15 48 (by decide) (by decide) (by decide) (by decide) (by decide)).trans r48))))))))))))
                    have hey1004 : Fvy995 49 = nm := ((hFvy995 49 (by decide) (by decide)).trans ((hFvy386 49 (by decide) (by decide)).trans ((hFvy260 49 (by decide) (by decide) (by decide) (by decide) (by decide) (by decide) (by decide)).trans ((hFvy245 49 (by decide) (by decide) (by decide) (by decide) (by decide) (by decide) (by decide)).trans ((hFvy239 49 (by decide) (by decide) (by decide) (by decide) (by decide)).trans ((hFvy222 49 (by decide) (by decide)).trans ((hFvy215 49 (by decide) (by decide) (by decide) (by decide) (by decide)).trans ((hFvy206 49 (by decide) (by decide)).trans ((hFvy145 49 (by decide) (by decide)).trans ((hFvy96 49 (by decide) (by decide)).trans ((hFvy55 49 (by decide) (by decide)).trans ((hFvy15 49 (by decide) (by decide) (by decide) (by decide) (by decide)).trans r49))))))))))))
                    have hfry1007 : ∀ j, j ≠ kqy209 + 2 → j ≠ kqy209 + 1 → j ≠ kqy209 → ry269 j = ly1 j := fun j n0 n1 n2 => (congrFun hvy270 _).trans ((uZ_n _ _ n0).trans ((congrFun hvy256 _).trans ((uZ_n _ _ n1).trans ((congrFun hvy236 _).trans ((uZ_n _ _ n2).trans (rfl))))))
                    have hlay1006 : ∀ s l : Nat, (s : Int) < Fvy995 47 → (l : Int) < mn1 s → lyT ry269 (84 * s + 7 * l) := by
                      intro s l a1 a2
                      have hm9 := hmn1 s (by omega)
                      by_cases e : s = ny146
                      · subst e; exact (hly1 s l (by omega) a2).ext (fun j b1 b2 => hfry1007 j (by omega) (by omega) (by omega))
                      · exact (hly1 s l (by omega) a2).ext (fun j b1 b2 => hfry1007 j (by omega) (by omega) (by omega))
                    have hgy1008 := (hfvy15 (i + 16) (ne_o (i := i) (c := 16) (d := 0) rfl)).trans ha16
                    have hgy1009 := (hfvy55 (i + 16) (ne_o (i := i) (c := 16) (d := 0) rfl)).trans hgy1008
                    have hgy1010 := (hfvy96 (i + 16) (ne_o (i := i) (c := 16) (d := 0) rfl)).trans hgy1009
                    have hgy1011 := (hfvy145 (i + 16) (ne_o (i := i) (c := 16) (d := 0) rfl)).trans hgy1010
                    have hgy1012 := (hfvy206 (i + 16) (ne_o (i := i) (c := 16) (d := 0) rfl)).trans hgy1011
                    have hgy1013 := (hfvy215 (i + 16) (ne_o (i := i) (c := 16) (d := 0) rfl)).trans hgy1012
                    have hgy1014 := (hfvy222 (i + 16) (ne_o (i := i) (c := 16) (d := 0) rfl)).trans hgy1013
                    have hgy1015 := up_n egy233 hgy1014 (ne_o (i := i) (c := 16) (d := 23) rfl)
                    have hgy1016 := (hfvy239 (i + 16) (ne_o (i := i) (c := 16) (d := 0) rfl)).trans hgy1015
                    have hgy1017 := (hfvy245 (i + 16) (ne_o (i := i) (c := 16) (d := 0) rfl)).trans hgy1016
                    have hgy1018 := up_n egy253 hgy1017 (ne_o (i := i) (c := 16) (d := 23) rfl)
                    have hgy1019 := (hfvy260 (i + 16) (ne_o (i := i) (c := 16) (d := 0) rfl)).trans hgy1018
                    have hgy1020 := up_n egy267 hgy1019 (ne_o (i := i) (c := 16) (d := 23) rfl)
                    have hgy1021 := (hfvy386 (i + 16) (ne_o (i := i) (c := 16) (d := 0) rfl)).trans hgy1020
                    have hgy1022 := (hfvy995 (i + 16) (ne_o (i := i) (c := 16) (d := 0) rfl)).trans hgy1021
                    have hgy1023 := (hfvy15 (i + 17) (ne_o (i := i) (c := 17) (d := 0) rfl)).trans ha17
                    have hgy1024 := (hfvy55 (i + 17) (ne_o (i := i) (c := 17) (d := 0) rfl)).trans hgy1023
                    have hgy1025 := (hfvy96 (i + 17) (ne_o (i := i) (c := 17) (d := 0) rfl)).trans hgy1024
                    have hgy1026 := (hfvy145 (i + 17) (ne_o (i := i) (c := 17) (d := 0) rfl)).trans hgy1025
                    have hgy1027 := (hfvy206 (i + 17) (ne_o (i := i) (c := 17) (d := 0) rfl)).trans hgy1026
                    have hgy1028 := (hfvy215 (i + 17) (ne_o (i := i) (c := 17) (d := 0) rfl)).trans hgy1027
                    have hgy1029 := (hfvy222 (i + 17) (ne_o (i := i) (c := 17) (d := 0) rfl)).trans hgy1028
                    have hgy1030 := up_n egy233 hgy1029 (ne_o (i := i) (c := 17) (d := 23) rfl)
                    have hgy1031 := (hfvy239 (i + 17) (ne_o (i := i) (c := 17) (d := 0) rfl)).trans hgy1030
                    have hgy1032 := (hfvy245 (i + 17) (ne_o (i := i) (c := 17) (d := 0) rfl)).trans hgy1031
                    have hgy1033 := up_n egy253 hgy1032 (ne_o (i := i) (c := 17) (d := 23) rfl)
                    have hgy1034 := (hfvy260 (i + 17) (ne_o (i := i) (c := 17) (d := 0) rfl)).trans hgy1033
                    have hgy1035 := up_n egy267 hgy1034 (ne_o (i := i) (c := 17) (d := 23) rfl)
                    have hgy1036 := (hfvy386 (i + 17) (ne_o (i := i) (c := 17) (d := 0) rfl)).trans hgy1035
                    have hgy1037 := (hfvy995 (i + 17) (ne_o (i := i) (c := 17) (d := 0) rfl)).trans hgy1036
                    have hgy1038 := (hfvy215 (i + 18) (ne_o (i := i) (c := 18) (d := 0) rfl)).trans hgy207
                    have hgy1039 := (hfvy222 (i + 18) (ne_o (i := i) (c := 18) (d := 0) rfl)).trans hgy1038
                    have hgy1040 := up_n egy233 hgy1039 (ne_o (i := i) (c := 18) (d := 23) rfl)
                    have hgy1041 := (hfvy239 (i + 18) (ne_o (i := i) (c := 18) (d := 0) rfl)).trans hgy1040
                    have hgy1042 := (hfvy245 (i + 18) (ne_o (i := i) (c := 18) (d := 0) rfl)).trans hgy1041
                    have hgy1043 := up_n egy253 hgy1042 (ne_o (i := i) (c := 18) (d := 23) rfl)
                    have hgy1044 := (hfvy260 (i + 18) (ne_o (i := i) (c := 18) (d := 0) rfl)).trans hgy1043
                    have hgy1045 := up_n egy267 hgy1044 (ne_o (i := i) (c := 18) (d := 23) rfl)
                    have hgy1046 := (hfvy386 (i + 18) (ne_o (i := i) (c := 18) (d := 0) rfl)).trans hgy1045
                    have hgy1047 := (hfvy995 (i + 18) (ne_o (i := i) (c := 18) (d := 0) rfl)).trans hgy1046
                    have hgy1048 := (hfvy15 (i + 19) (ne_o (i := i) (c := 19) (d := 0) rfl)).trans ha19
                    have hgy1049 := (hfvy55 (i + 19) (ne_o (i := i) (c := 19) (d := 0) rfl)).trans hgy1048
                    have hgy1050 := (hfvy96 (i + 19) (ne_o (i := i) (c := 19) (d := 0) rfl)).trans hgy1049
                    have hgy1051 := (hfvy145 (i + 19) (ne_o (i := i) (c := 19) (d := 0) rfl)).trans hgy1050
                    have hgy1052 := (hfvy206 (i + 19) (ne_o (i := i) (c := 19) (d := 0) rfl)).trans hgy1051
                    have hgy1053 := (hfvy215 (i + 19) (ne_o (i := i) (c := 19) (d := 0) rfl)).trans hgy1052
                    have hgy1054 := (hfvy222 (i + 19) (ne_o (i := i) (c := 19) (d := 0) rfl)).trans hgy1053
                    have hgy1055 := up_n egy233 hgy1054 (ne_o (i := i) (c := 19) (d := 23) rfl)
                    have hgy1056 := (hfvy239 (i + 19) (ne_o (i := i) (c := 19) (d := 0) rfl)).trans hgy1055
                    have hgy1057 := (hfvy245 (i + 19) (ne_o (i := i) (c := 19) (d := 0) rfl)).trans hgy1056
                    have hgy1058 := up_n egy253 hgy1057 (ne_o (i := i) (c := 19) (d := 23) rfl)
                    have hgy1059 := (hfvy260 (i + 19) (ne_o (i := i) (c := 19) (d := 0) rfl)).trans hgy1058
                    have hgy1060 := up_n egy267 hgy1059 (ne_o (i := i) (c := 19) (d := 23) rfl)
                    have hgy1061 := (hfvy386 (i + 19) (ne_o (i := i) (c := 19) (d := 0) rfl)).trans hgy1060
                    have hgy1062 := (hfvy995 (i + 19) (ne_o (i := i) (c := 19) (d := 0) rfl)).trans hgy1061
                    have hgy1063 := (hfvy15 (i + 20) (ne_o (i := i) (c := 20) (d := 0) rfl)).trans ha20
                    have hgy1064 := (hfvy55 (i + 20) (ne_o (i := i) (c := 20) (d := 0) rfl)).trans hgy1063
                    have hgy1065 := (hfvy96 (i + 20) (ne_o (i := i) (c := 20) (d := 0) rfl)).trans hgy1064
                    have hgy1066 := (hfvy145 (i + 20) (ne_o (i := i) (c := 20) (d := 0) rfl)).trans hgy1065
                    have hgy1067 := (hfvy206 (i + 20) (ne_o (i := i) (c := 20) (d := 0) rfl)).trans hgy1066
                    have hgy1068 := (hfvy215 (i + 20) (ne_o (i := i) (c := 20) (d := 0) rfl)).trans hgy1067
                    have hgy1069 := (hfvy222 (i + 20) (ne_o (i := i) (c := 20) (d := 0) rfl)).trans hgy1068
                    have hgy1070 := up_n egy233 hgy1069 (ne_o (i := i) (c := 20) (d := 23) rfl)
                    have hgy1071 := (hfvy239 (i + 20) (ne_o (i := i) (c := 20) (d := 0) rfl)).trans hgy1070
                    have hgy1072 := (hfvy245 (i + 20) (ne_o (i := i) (c := 20) (d := 0) rfl)).trans hgy1071
                    have hgy1073 := up_n egy253 hgy1072 (ne_o (i := i) (c := 20) (d := 23) rfl)
                    have hgy1074 := (hfvy260 (i + 20) (ne_o (i := i) (c := 20) (d := 0) rfl)).trans hgy1073
                    have hgy1075 := up_n egy267 hgy1074 (ne_o (i := i) (c := 20) (d := 23) rfl)
                    have hgy1076 := (hfvy386 (i + 20) (ne_o (i := i) (c := 20) (d := 0) rfl)).trans hgy1075
                    have hgy1077 := (hfvy995 (i + 20) (ne_o (i := i) (c := 20) (d := 0) rfl)).trans hgy1076
                    have hgy1078 := (hfvy15 (i + 21) (ne_o (i := i) (c := 21) (d := 0) rfl)).trans ha21
                    have hgy1079 := (hfvy55 (i + 21) (ne_o (i := i) (c := 21) (d := 0) rfl)).trans hgy1078
                    have hgy1080 := (hfvy96 (i + 21) (ne_o (i := i) (c := 21) (d := 0) rfl)).trans hgy1079
                    have hgy1081 := (hfvy145 (i + 21) (ne_o (i := i) (c := 21) (d := 0) rfl)).trans hgy1080
                    have hgy1082 := (hfvy206 (i + 21) (ne_o (i := i) (c := 21) (d := 0) rfl)).trans hgy1081
                    have hgy1083 := (hfvy215 (i + 21) (ne_o (i := i) (c := 21) (d := 0) rfl)).trans hgy1082
                    have hgy1084 := (hfvy222 (i + 21) (ne_o (i := i) (c := 21) (d := 0) rfl)).trans hgy1083
                    have hgy1085 := up_n egy233 hgy1084 (ne_o (i := i) (c := 21) (d := 23) rfl)
                    have hgy1086 := (hfvy239 (i + 21) (ne_o (i := i) (c := 21) (d := 0) rfl)).trans hgy1085
                    have hgy1087 := (hfvy245 (i + 21) (ne_o (i := i) (c := 21) (d := 0) rfl)).trans hgy1086
                    have hgy1088 := up_n egy253 hgy1087 (ne_o (i := i) (c := 21) (d := 23) rfl)
                    have hgy1089 := (hfvy260 (i + 21) (ne_o (i := i) (c := 21) (d := 0) rfl)).trans hgy1088
                    have hgy1090 := up_n egy267 hgy1089 (ne_o (i := i) (c := 21) (d := 23) rfl)
                    have hgy1091 := (hfvy386 (i + 21) (ne_o (i := i) (c := 21) (d := 0) rfl)).trans hgy1090
                    have hgy1092 := (hfvy995 (i + 21) (ne_o (i := i) (c := 21) (d := 0) rfl)).trans hgy1091
                    have hgy1093 := (hfvy15 (i + 22) (ne_o (i := i) (c := 22) (d := 0) rfl)).trans ha22
                    have hgy1094 := (hfvy55 (i + 22) (ne_o (i := i) (c := 22) (d := 0) rfl)).trans hgy1093
                    have hgy1095 := (hfvy96 (i + 22) (ne_o (i := i) (c := 22) (d := 0) rfl)).trans hgy1094
                    have hgy1096 := (hfvy145 (i + 22) (ne_o (i := i) (c := 22) (d := 0) rfl)).trans hgy1095
                    have hgy1097 := (hfvy206 (i + 22) (ne_o (i := i) (c := 22) (d := 0) rfl)).trans hgy1096
                    have hgy1098 := (hfvy215 (i + 22) (ne_o (i := i) (c := 22) (d := 0) rfl)).trans hgy1097
                    have hgy1099 := (hfvy222 (i + 22) (ne_o (i := i) (c := 22) (d := 0) rfl)).trans hgy1098
                    have hgy1100 := up_n egy233 hgy1099 (ne_o (i := i) (c := 22) (d := 23) rfl)
                    have hgy1101 := (hfvy239 (i + 22) (ne_o (i := i) (c := 22) (d := 0) rfl)).trans hgy1100
                    have hgy1102 := (hfvy245 (i + 22) (ne_o (i := i) (c := 22) (d := 0) rfl)).trans hgy1101
                    have hgy1103 := up_n egy253 hgy1102 (ne_o (i := i) (c := 22) (d := 23) rfl)
                    have hgy1104 := (hfvy260 (i + 22) (ne_o (i := i) (c := 22) (d := 0) rfl)).trans hgy1103
                    have hgy1105 := up_n egy267 hgy1104 (ne_o (i := i) (c := 22) (d := 23) rfl)
                    have hgy1106 := (hfvy386 (i + 22) (ne_o (i := i) (c := 22) (d := 0) rfl)).trans hgy1105
                    have hgy1107 := (hfvy995 (i + 22) (ne_o (i := i) (c := 22) (d := 0) rfl)).trans hgy1106
                    have hgy1108 := (hfvy386 (i + 23) (ne_o (i := i) (c := 23) (d := 0) rfl)).trans hgy268
                    have hgy1109 := (hfvy995 (i + 23) (ne_o (i := i) (c := 23) (d := 0) rfl)).trans hgy1108
                    have htxy1110 : okTx cs gvy995 i Fvy995 := ⟨_, _, _, _, _, _, _, _, ⟨hgy1022, hgy1037, hgy1047, hgy1062, hgy1077, hgy1092, hgy1107, hgy1109⟩, ⟨⟨by omega, by omega, by omega⟩, hop1, hmn1, hai1, hfa1, htb1, hlay1006⟩⟩
                    exact z_vret C hr hlk dX10_layer1_272 (by decide) (by decide) ⟨rfl, rfl, rfl, ⟨_, hcvy995, hFy996, Or.inr ⟨(2, (tk_nx T n (tk_nx T n (tk_nx T n (tk_nx T n (tk_nx T n f)))))), by simp only [cl_layer, cl_layer2, hny58, if_neg hscy99, if_neg hscy156, if_neg hxvy220, hnvy245, hnvy260, hny994], by show Fvy995 38 = 2; omega, by show Fvy995 24 = (((tk_nx T n (tk_nx T n (tk_nx T n (tk_nx T n (tk_nx T n f))))) : Nat) : Int); omega, by show 1 ≤ 2 ∧ 2 ≤ 5; omega, ⟨_, htky997⟩, htxy1110⟩⟩, fun j j1 j2 => by rw [hfvy995 _ (by omega)]; rw [hfvy386 _ (by omega)]; rw [egy267, va_up_ne _ _ (by omega)]; rw [hfvy260 _ (by omega)]; rw [egy253, va_up_ne _ _ (by omega)]; rw [hfvy245 _ (by omega)]; rw [hfvy239 _ (by omega)]; rw [egy233, va_up_ne _ _ (by omega)]; rw [hfvy222 _ (by omega)]; rw [hfvy215 _ (by omega)]; rw [hfvy206 _ (by omega)]; rw [hfvy145 _ (by omega)]; rw [hfvy96 _ (by omega)]; rw [hfvy55 _ (by omega)]; rw [hfvy15 _ (by omega)]⟩
              · obtain ⟨rfl, cvy260, hrvy260, hnvy260, hevy260, hbvy260, hkvy260⟩ := hqvy260
                clear h24vy260
                have hsry1111 := srt_b T n (tk_nx T n (tk_nx T n (tk_nx T n (tk_nx T n f))))
                have hvly1112 := vlu_b hTb (tk_nx T n (tk_nx T n (tk_nx T n (tk_nx T n f))))
                have hwby1113 := tk_w_b T n (tk_nx T n (tk_nx T n (tk_nx T n (tk_nx T n f))))
                have hfny1114 := hkvy260.1
                have hgy1115 := (hfvy260 (i + 23) (ne_o (i := i) (c := 23) (d := 0) rfl)).trans hgy254
                refine z_iast C (lt_A (c := 23) hN rfl) hay14 hgy1115 (kqy209 + 2) (by omega) (by omega) (by decide) dX10_layer1_187 (fun gy1116 egy1117 => ?_)
                have hgy1118 := up_s egy1117
                obtain ⟨ry1119, hvy1120⟩ : ∃ rZ9 : Nat → Int, rZ9 = uZ ry255 (kqy209 + 2) (0) := ⟨_, rfl⟩
                rw [← hvy1120] at hgy1118
                refine z_aload_n C 2 dX10_layer1_188 rfl ?_
                have hgy1121 := up_n egy1117 hcvy260 (ne_o (i := i) (c := 0) (d := 23) rfl)
                refine z_get (v := .int (zI (cvy260))) C (lt_A0 hN rfl) hay1 hgy1121 rfl inA_X10 38 (by decide) q_1497 rfl (fv (F := Fvy260) (f := 38) hevy260) dX10_layer1_189 ?_
                refine z_if_ne (tgt := 272) C dX10_layer1_192 (by decide) (by omega) (fun _ => ?_) (fun h => absurd h (by omega))
                have hFy1122 : ∀ f, f ≠ 24 → f ≠ 32 → f ≠ 33 → f ≠ 35 → f ≠ 36 → f ≠ 37 → f ≠ 38 → f ≠ 47 → f ≠ 48 → f ≠ 49 → Fvy260 f = F f := fun f n24 n32 n33 n35 n36 n37 n38 n47 n48 n49 => ((hFvy260 f n24 n32 n33 n35 n36 n37 n38).trans ((hFvy245 f n24 n32 n33 n35 n36 n37 n38).trans ((hFvy239 f n32 n33 n35 n36 n37).trans ((hFvy222 f n24 n38).trans ((hFvy215 f n32 n33 n35 n36 n37).trans ((hFvy206 f n24 n38).trans ((hFvy145 f n24 n38).trans ((hFvy96 f n24 n38).trans ((hFvy55 f n24 n38).trans (hFvy15 f n32 n33 n35 n36 n37))))))))))
                have htky1123 : tkR T n Fvy260 (tk_nx T n (tk_nx T n (tk_nx T n (tk_nx T n f)))) := hkvy260
                have htoy1124 := tk_to_w (T := T) (n := n) (f := (tk_nx T n (tk_nx T n (tk_nx T n (tk_nx T n f))))) htky1123.1.1
                have h32y1125 := htky1123.2.1
                have hey1126 : Fvy260 24 = ((tk_nx T n (tk_nx T n (tk_nx T n (tk_nx T n f)))) : Int) := hbvy260
                have hey1127 : Fvy260 38 = cvy260 := hevy260
                have hey1128 : Fvy260 47 = sl := ((hFvy260 47 (by decide) (by decide) (by decide) (by decide) (by decide) (by decide) (by decide)).trans ((hFvy245 47 (by decide) (by decide) (by decide) (by decide) (by decide) (by decide) (by decide)).trans ((hFvy239 47 (by decide) (by decide) (by decide) (by decide) (by decide)).trans ((hFvy222 47 (by decide) (by decide)).trans ((hFvy215 47 (by decide) (by decide) (by decide) (by decide) (by decide)).trans ((hFvy206 47 (by decide) (by decide)).trans ((hFvy145 47 (by decide) (by decide)).trans ((hFvy96 47 (by decide) (by decide)).trans ((hFvy55 47 (by decide) (by decide)).trans ((hFvy15 47 (by decide) (by decide) (by decide) (by decide) (by decide)).trans r47))))))))))
                have hey1129 : Fvy260 48 = ho := ((hFvy260 48 (by decide) (by decide) (by decide) (by decide) (by decide) (by decide) (by decide)).trans ((hFvy245 48 (by decide) (by decide) (by decide) (by decide) (by decide) (by decide) (by decide)).trans ((hFvy239 48 (by decide) (by decide) (by decide) (by decide) (by decide)).trans ((hFvy222 48 (by decide) (by decide)).trans ((hFvy215 48 (by decide) (by decide) (by decide) (by decide) (by decide)).trans ((hFvy206 48 (by decide) (by decide)).trans ((hFvy145 48 (by decide) (by decide)).trans ((hFvy96 48 (by decide) (by decide)).trans ((hFvy55 48 (by decide) (by decide)).trans ((hFvy15 48 (by decide) (by decide) (by decide) (by decide) (by decide)).trans r48))))))))))
                have hey1130 : Fvy260 49 = nm := ((hFvy260 49 (by decide) (by decide) (by decide) (by decide) (by decide) (by decide) (by decide)).trans ((hFvy245 49 (by decide) (by decide) (by decide) (by decide) (by decide) (by decide) (by decide)).trans ((hFvy239 49 (by decide) (by decide) (by decide) (by decide) (by decide)).trans ((hFvy222 49 (by decide) (by decide)).trans ((hFvy215 49 (by decide) (by decide) (by decide) (by decide) (by decide)).trans ((hFvy206 49 (by decide) (by decide)).trans ((hFvy145 49 (by decide) (by decide)).trans ((hFvy96 49 (by decide) (by decide)).trans ((hFvy55 49 (by decide) (by decide)).trans ((hFvy15 49 (by decide) (by decide) (by decide) (by decide) (by decide)).trans r49))))))))))
                have hfry1133 : ∀ j, j ≠ kqy209 + 2 → j ≠ kqy209 + 1 → j ≠ kqy209 → ry1119 j = ly1 j := fun j n0 n1 n2 => (congrFun hvy1120 _).trans ((uZ_n _ _ n0).trans ((congrFun hvy256 _).trans ((uZ_n _ _ n1).trans ((congrFun hvy236 _).trans ((uZ_n _ _ n2).trans (rfl))))))
                have hlay1132 : ∀ s l : Nat, (s : Int) < Fvy260 47 → (l : Int) < mn1 s → lyT ry1119 (84 * s + 7 * l) := by
                  intro s l a1 a2
                  have hm9 := hmn1 s (by omega)
                  by_cases e : s = ny146
                  · subst e; exact (hly1 s l (by omega) a2).ext (fun j b1 b2 => hfry1133 j (by omega) (by omega) (by omega))
                  · exact (hly1 s l (by omega) a2).ext (fun j b1 b2 => hfry1133 j (by omega) (by omega) (by omega))
                have hgy1134 := (hfvy15 (i + 16) (ne_o (i := i) (c := 16) (d := 0) rfl)).trans ha16
                have hgy1135 := (hfvy55 (i + 16) (ne_o (i := i) (c := 16) (d := 0) rfl)).trans hgy1134
                have hgy1136 := (hfvy96 (i + 16) (ne_o (i := i) (c := 16) (d := 0) rfl)).trans hgy1135
                have hgy1137 := (hfvy145 (i + 16) (ne_o (i := i) (c := 16) (d := 0) rfl)).trans hgy1136
                have hgy1138 := (hfvy206 (i + 16) (ne_o (i := i) (c := 16) (d := 0) rfl)).trans hgy1137
                have hgy1139 := (hfvy215 (i + 16) (ne_o (i := i) (c := 16) (d := 0) rfl)).trans hgy1138
                have hgy1140 := (hfvy222 (i + 16) (ne_o (i := i) (c := 16) (d := 0) rfl)).trans hgy1139
                have hgy1141 := up_n egy233 hgy1140 (ne_o (i := i) (c := 16) (d := 23) rfl)
                have hgy1142 := (hfvy239 (i + 16) (ne_o (i := i) (c := 16) (d := 0) rfl)).trans hgy1141
                have hgy1143 := (hfvy245 (i + 16) (ne_o (i := i) (c := 16) (d := 0) rfl)).trans hgy1142
                have hgy1144 := up_n egy253 hgy1143 (ne_o (i := i) (c := 16) (d := 23) rfl)
                have hgy1145 := (hfvy260 (i + 16) (ne_o (i := i) (c := 16) (d := 0) rfl)).trans hgy1144
                have hgy1146 := up_n egy1117 hgy1145 (ne_o (i := i) (c := 16) (d := 23) rfl)
                have hgy1147 := (hfvy15 (i + 17) (ne_o (i := i) (c := 17) (d := 0) rfl)).trans ha17
                have hgy1148 := (hfvy55 (i + 17) (ne_o (i := i) (c := 17) (d := 0) rfl)).trans hgy1147
                have hgy1149 := (hfvy96 (i + 17) (ne_o (i := i) (c := 17) (d := 0) rfl)).trans hgy1148
                have hgy1150 := (hfvy145 (i + 17) (ne_o (i := i) (c := 17) (d := 0) rfl)).trans hgy1149
                have hgy1151 := (hfvy206 (i + 17) (ne_o (i := i) (c := 17) (d := 0) rfl)).trans hgy1150
                have hgy1152 := (hfvy215 (i + 17) (ne_o (i := i) (c := 17) (d := 0) rfl)).trans hgy1151
                have hgy1153 := (hfvy222 (i + 17) (ne_o (i := i) (c := 17) (d := 0) rfl)).trans hgy1152
                have hgy1154 := up_n egy233 hgy1153 (ne_o (i := i) (c := 17) (d := 23) rfl)
                have hgy1155 := (hfvy239 (i + 17) (ne_o (i := i) (c := 17) (d := 0) rfl)).trans hgy1154
                have hgy1156 := (hfvy245 (i + 17) (ne_o (i := i) (c := 17) (d := 0) rfl)).trans hgy1155
                have hgy1157 := up_n egy253 hgy1156 (ne_o (i := i) (c := 17) (d := 23) rfl)
                have hgy1158 := (hfvy260 (i + 17) (ne_o (i := i) (c := 17) (d := 0) rfl)).trans hgy1157
                have hgy1159 := up_n egy1117 hgy1158 (ne_o (i := i) (c := 17) (d := 23) rfl)
                have hgy1160 := (hfvy215 (i + 18) (ne_o (i := i) (c := 18) (d := 0) rfl)).trans hgy207
                have hgy1161 := (hfvy222 (i + 18) (ne_o (i := i) (c := 18) (d := 0) rfl)).trans hgy1160
                have hgy1162 := up_n egy233 hgy1161 (ne_o (i := i) (c := 18) (d := 23) rfl)
                have hgy1163 := (hfvy239 (i + 18) (ne_o (i := i) (c := 18) (d := 0) rfl)).trans hgy1162
                have hgy1164 := (hfvy245 (i + 18) (ne_o (i := i) (c := 18) (d := 0) rfl)).trans hgy1163
                have hgy1165 := up_n egy253 hgy1164 (ne_o (i := i) (c := 18) (d := 23) rfl)
                have hgy1166 := (hfvy260 (i + 18) (ne_o (i := i) (c := 18) (d := 0) rfl)).trans hgy1165
                have hgy1167 := up_n egy1117 hgy1166 (ne_o (i := i) (c := 18) (d := 23) rfl)
                have hgy1168 := (hfvy15 (i + 19) (ne_o (i := i) (c := 19) (d := 0) rfl)).trans ha19
                have hgy1169 := (hfvy55 (i + 19) (ne_o (i := i) (c := 19) (d := 0) rfl)).trans hgy1168
                have hgy1170 := (hfvy96 (i + 19) (ne_o (i := i) (c := 19) (d := 0) rfl)).trans hgy1169
                have hgy1171 := (hfvy145 (i + 19) (ne_o (i := i) (c := 19) (d := 0) rfl)).trans hgy1170
                have hgy1172 := (hfvy206 (i + 19) (ne_o (i := i) (c := 19) (d := 0) rfl)).trans hgy1171
                have hgy1173 := (hfvy215 (i + 19) (ne_o (i := i) (c := 19) (d := 0) rfl)).trans hgy1172
                have hgy1174 := (hfvy222 (i + 19) (ne_o (i := i) (c := 19) (d := 0) rfl)).trans hgy1173
                have hgy1175 := up_n egy233 hgy1174 (ne_o (i := i) (c := 19) (d := 23) rfl)
                have hgy1176 := (hfvy239 (i + 19) (ne_o (i := i) (c := 19) (d := 0) rfl)).trans hgy1175
                have hgy1177 := (hfvy245 (i + 19) (ne_o (i := i) (c := 19) (d := 0) rfl)).trans hgy1176
                have hgy1178 := up_n egy253 hgy1177 (ne_o (i := i) (c := 19) (d := 23) rfl)
                have hgy1179 := (hfvy260 (i + 19) (ne_o (i := i) (c := 19) (d := 0) rfl)).trans hgy1178
                have hgy1180 := up_n egy1117 hgy1179 (ne_o (i := i) (c := 19) (d := 23) rfl)
                have hgy1181 := (hfvy15 (i + 20) (ne_o (i := i) (c := 20) (d := 0) rfl)).trans ha20
                have hgy1182 := (hfvy55 (i + 20) (ne_o (i := i) (c := 20) (d := 0) rfl)).trans hgy1181
                have hgy1183 := (hfvy96 (i + 20) (ne_o (i := i) (c := 20) (d := 0) rfl)).trans hgy1182
                have hgy1184 := (hfvy145 (i + 20) (ne_o (i := i) (c := 20) (d := 0) rfl)).trans hgy1183
                have hgy1185 := (hfvy206 (i + 20) (ne_o (i := i) (c := 20) (d := 0) rfl)).trans hgy1184
                have hgy1186 := (hfvy215 (i + 20) (ne_o (i := i) (c := 20) (d := 0) rfl)).trans hgy1185
                have hgy1187 := (hfvy222 (i + 20) (ne_o (i := i) (c := 20) (d := 0) rfl)).trans hgy1186
                have hgy1188 := up_n egy233 hgy1187 (ne_o (i := i) (c := 20) (d := 23) rfl)
                have hgy1189 := (hfvy239 (i + 20) (ne_o (i := i) (c := 20) (d := 0) rfl)).trans hgy1188
                have hgy1190 := (hfvy245 (i + 20) (ne_o (i := i) (c := 20) (d := 0) rfl)).trans hgy1189
                have hgy1191 := up_n egy253 hgy1190 (ne_o (i := i) (c := 20) (d := 23) rfl)
                have hgy1192 := (hfvy260 (i + 20) (ne_o (i := i) (c := 20) (d := 0) rfl)).trans hgy1191
                have hgy1193 := up_n egy1117 hgy1192 (ne_o (i := i) (c := 20) (d := 23) rfl)
                have hgy1194 := (hfvy15 (i + 21) (ne_o (i := i) (c := 21) (d := 0) rfl)).trans ha21
                have hgy1195 := (hfvy55 (i + 21) (ne_o (i := i) (c := 21) (d := 0) rfl)).trans hgy1194
                have hgy1196 := (hfvy96 (i + 21) (ne_o (i := i) (c := 21) (d := 0) rfl)).trans hgy1195
                have hgy1197 := (hfvy145 (i + 21) (ne_o (i := i) (c := 21) (d := 0) rfl)).trans hgy1196
                have hgy1198 := (hfvy206 (i + 21) (ne_o (i := i) (c := 21) (d := 0) rfl)).trans hgy1197
                have hgy1199 := (hfvy215 (i + 21) (ne_o (i := i) (c := 21) (d := 0) rfl)).trans hgy1198
                have hgy1200 := (hfvy222 (i + 21) (ne_o (i := i) (c := 21) (d := 0) rfl)).trans hgy1199
                have hgy1201 := up_n egy233 hgy1200 (ne_o (i := i) (c := 21) (d := 23) rfl)
                have hgy1202 := (hfvy239 (i + 21) (ne_o (i := i) (c := 21) (d := 0) rfl)).trans hgy1201
                have hgy1203 := (hfvy245 (i + 21) (ne_o (i := i) (c := 21) (d := 0) rfl)).trans hgy1202
                have hgy1204 := up_n egy253 hgy1203 (ne_o (i := i) (c := 21) (d := 23) rfl)
                have hgy1205 := (hfvy260 (i + 21) (ne_o (i := i) (c := 21) (d := 0) rfl)).trans hgy1204
                have hgy1206 := up_n egy1117 hgy1205 (ne_o (i := i) (c := 21) (d := 23) rfl)
                have hgy1207 := (hfvy15 (i + 22) (ne_o (i := i) (c := 22) (d := 0) rfl)).trans ha22
                have hgy1208 := (hfvy55 (i + 22) (ne_o (i := i) (c := 22) (d := 0) rfl)).trans hgy1207
                have hgy1209 := (hfvy96 (i + 22) (ne_o (i := i) (c := 22) (d := 0) rfl)).trans hgy1208
                have hgy1210 := (hfvy145 (i + 22) (ne_o (i := i) (c := 22) (d := 0) rfl)).trans hgy1209
                have hgy1211 := (hfvy206 (i + 22) (ne_o (i := i) (c := 22) (d := 0) rfl)).trans hgy1210
                have hgy1212 := (hfvy215 (i + 22) (ne_o (i := i) (c := 22) (d := 0) rfl)).trans hgy1211
                have hgy1213 := (hfvy222 (i + 22) (ne_o (i := i) (c := 22) (d := 0) rfl)).trans hgy1212
                have hgy1214 := up_n egy233 hgy1213 (ne_o (i := i) (c := 22) (d := 23) rfl)
                have hgy1215 := (hfvy239 (i + 22) (ne_o (i := i) (c := 22) (d := 0) rfl)).trans hgy1214
                have hgy1216 := (hfvy245 (i + 22) (ne_o (i := i) (c := 22) (d := 0) rfl)).trans hgy1215
                have hgy1217 := up_n egy253 hgy1216 (ne_o (i := i) (c := 22) (d := 23) rfl)
                have hgy1218 := (hfvy260 (i + 22) (ne_o (i := i) (c := 22) (d := 0) rfl)).trans hgy1217
                have hgy1219 := up_n egy1117 hgy1218 (ne_o (i := i) (c := 22) (d := 23) rfl)
                have htxy1220 : okTx cs gy1116 i Fvy260 := ⟨_, _, _, _, _, _, _, _, ⟨hgy1146, hgy1159, hgy1167, hgy1180, hgy1193, hgy1206, hgy1219, hgy1118⟩, ⟨⟨by omega, by omega, by omega⟩, hop1, hmn1, hai1, hfa1, htb1, hlay1132⟩⟩
                exact z_vret C hr hlk dX10_layer1_272 (by decide) (by decide) ⟨rfl, rfl, rfl, ⟨_, hgy1121, hFy1122, Or.inr ⟨(cvy260, (tk_nx T n (tk_nx T n (tk_nx T n (tk_nx T n f))))), by simp only [cl_layer, cl_layer2, hny58, if_neg hscy99, if_neg hscy156, if_neg hxvy220, hnvy245, hnvy260], by show Fvy260 38 = cvy260; omega, by show Fvy260 24 = (((tk_nx T n (tk_nx T n (tk_nx T n (tk_nx T n f)))) : Nat) : Int); omega, by show 1 ≤ cvy260 ∧ cvy260 ≤ 5; omega, ⟨_, htky1123⟩, htxy1220⟩⟩, fun j j1 j2 => by rw [egy1117, va_up_ne _ _ (by omega)]; rw [hfvy260 _ (by omega)]; rw [egy253, va_up_ne _ _ (by omega)]; rw [hfvy245 _ (by omega)]; rw [hfvy239 _ (by omega)]; rw [egy233, va_up_ne _ _ (by omega)]; rw [hfvy222 _ (by omega)]; rw [hfvy215 _ (by omega)]; rw [hfvy206 _ (by omega)]; rw [hfvy145 _ (by omega)]; rw [hfvy96 _ (by omega)]; rw [hfvy55 _ (by omega)]; rw [hfvy15 _ (by omega)]⟩
            · obtain ⟨rfl, cvy245, hrvy245, hnvy245, hevy245, hbvy245, hkvy245⟩ := hqvy245
              clear h24vy245
              have hsry1221 := srt_b T n (tk_nx T n (tk_nx T n (tk_nx T n f)))
              have hvly1222 := vlu_b hTb (tk_nx T n (tk_nx T n (tk_nx T n f)))
              have hwby1223 := tk_w_b T n (tk_nx T n (tk_nx T n (tk_nx T n f)))
              have hfny1224 := hkvy245.1
              have hgy1225 := (hfvy239 (i + 23) (ne_o (i := i) (c := 23) (d := 0) rfl)).trans hgy234
              have hgy1226 := (hfvy245 (i + 23) (ne_o (i := i) (c := 23) (d := 0) rfl)).trans hgy1225
              refine z_iast C (lt_A (c := 23) hN rfl) hay14 hgy1226 (kqy209 + 1) (by omega) (by omega) (by decide) dX10_layer1_165 (fun gy1227 egy1228 => ?_)
              have hgy1229 := up_s egy1228
              obtain ⟨ry1230, hvy1231⟩ : ∃ rZ9 : Nat → Int, rZ9 = uZ ry235 (kqy209 + 1) (1) := ⟨_, rfl⟩
              rw [← hvy1231] at hgy1229
              refine z_aload_n C 2 dX10_layer1_166 rfl ?_
              have hgy1232 := up_n egy1228 hcvy245 (ne_o (i := i) (c := 0) (d := 23) rfl)
              refine z_get (v := .int (zI (cvy245))) C (lt_A0 hN rfl) hay1 hgy1232 rfl inA_X10 38 (by decide) q_1497 rfl (fv (F := Fvy245) (f := 38) hevy245) dX10_layer1_167 ?_
              refine z_if_ne (tgt := 188) C dX10_layer1_170 (by decide) (by omega) (fun _ => ?_) (fun h => absurd h (by omega))
              refine z_aload_n C 2 dX10_layer1_188 rfl ?_
              refine z_get (v := .int (zI (cvy245))) C (lt_A0 hN rfl) hay1 hgy1232 rfl inA_X10 38 (by decide) q_1497 rfl (fv (F := Fvy245) (f := 38) hevy245) dX10_layer1_189 ?_
              refine z_if_ne (tgt := 272) C dX10_layer1_192 (by decide) (by omega) (fun _ => ?_) (fun h => absurd h (by omega))
              have hFy1233 : ∀ f, f ≠ 24 → f ≠ 32 → f ≠ 33 → f ≠ 35 → f ≠ 36 → f ≠ 37 → f ≠ 38 → f ≠ 47 → f ≠ 48 → f ≠ 49 → Fvy245 f = F f := fun f n24 n32 n33 n35 n36 n37 n38 n47 n48 n49 => ((hFvy245 f n24 n32 n33 n35 n36 n37 n38).trans ((hFvy239 f n32 n33 n35 n36 n37).trans ((hFvy222 f n24 n38).trans ((hFvy215 f n32 n33 n35 n36 n37).trans ((hFvy206 f n24 n38).trans ((hFvy145 f n24 n38).trans ((hFvy96 f n24 n38).trans ((hFvy55 f n24 n38).trans (hFvy15 f n32 n33 n35 n36 n37)))))))))
              have htky1234 : tkR T n Fvy245 (tk_nx T n (tk_nx T n (tk_nx T n f))) := hkvy245
              have htoy1235 := tk_to_w (T := T) (n := n) (f := (tk_nx T n (tk_nx T n (tk_nx T n f)))) htky1234.1.1
              have h32y1236 := htky1234.2.1
              have hey1237 : Fvy245 24 = ((tk_nx T n (tk_nx T n (tk_nx T n f))) : Int) := hbvy245
              have hey1238 : Fvy245 38 = cvy245 := hevy245
              have hey1239 : Fvy245 47 = sl := ((hFvy245 47 (by decide) (by decide) (by decide) (by decide) (by decide) (by decide) (by decide)).trans ((hFvy239 47 (by decide) (by decide) (by decide) (by decide) (by decide)).trans ((hFvy222 47 (by decide) (by decide)).trans ((hFvy215 47 (by decide) (by decide) (by decide) (by decide) (by decide)).trans ((hFvy206 47 (by decide) (by decide)).trans ((hFvy145 47 (by decide) (by decide)).trans ((hFvy96 47 (by decide) (by decide)).trans ((hFvy55 47 (by decide) (by decide)).trans ((hFvy15 47 (by decide) (by decide) (by decide) (by decide) (by decide)).trans r47)))))))))
              have hey1240 : Fvy245 48 = ho := ((hFvy245 48 (by decide) (by decide) (by decide) (by decide) (by decide) (by decide) (by decide)).trans ((hFvy239 48 (by decide) (by decide) (by decide) (by decide) (by decide)).trans ((hFvy222 48 (by decide) (by decide)).trans ((hFvy215 48 (by decide) (by decide) (by decide) (by decide) (by decide)).trans ((hFvy206 48 (by decide) (by decide)).trans ((hFvy145 48 (by decide) (by decide)).trans ((hFvy96 48 (by decide) (by decide)).trans ((hFvy55 48 (by decide) (by decide)).trans ((hFvy15 48 (by decide) (by decide) (by decide) (by decide) (by decide)).trans r48)))))))))
              have hey1241 : Fvy245 49 = nm := ((hFvy245 49 (by decide) (by decide) (by decide) (by decide) (by decide) (by decide) (by decide)).trans ((hFvy239 49 (by decide) (by decide) (by decide) (by decide) (by decide)).trans ((hFvy222 49 (by decide) (by decide)).trans ((hFvy215 49 (by decide) (by decide) (by decide) (by decide) (by decide)).trans ((hFvy206 49 (by decide) (by decide)).trans ((hFvy145 49 (by decide) (by decide)).trans ((hFvy96 49 (by decide) (by decide)).trans ((hFvy55 49 (by decide) (by decide)).trans ((hFvy15 49 (by decide) (by decide) (by decide) (by decide) (by decide)).trans r49)))))))))
              have hfry1244 : ∀ j, j ≠ kqy209 + 1 → j ≠ kqy209 → ry1230 j = ly1 j := fun j n0 n1 => (congrFun hvy1231 _).trans ((uZ_n _ _ n0).trans ((congrFun hvy236 _).trans ((uZ_n _ _ n1).trans (rfl))))
              have hlay1243 : ∀ s l : Nat, (s : Int) < Fvy245 47 → (l : Int) < mn1 s → lyT ry1230 (84 * s + 7 * l) := by
                intro s l a1 a2
                have hm9 := hmn1 s (by omega)
                by_cases e : s = ny146
                · subst e; exact (hly1 s l (by omega) a2).ext (fun j b1 b2 => hfry1244 j (by omega) (by omega))
                · exact (hly1 s l (by omega) a2).ext (fun j b1 b2 => hfry1244 j (by omega) (by omega))
              have hgy1245 := (hfvy15 (i + 16) (ne_o (i := i) (c := 16) (d := 0) rfl)).trans ha16
              have hgy1246 := (hfvy55 (i + 16) (ne_o (i := i) (c := 16) (d := 0) rfl)).trans hgy1245
              have hgy1247 := (hfvy96 (i + 16) (ne_o (i := i) (c := 16) (d := 0) rfl)).trans hgy1246
              have hgy1248 := (hfvy145 (i + 16) (ne_o (i := i) (c := 16) (d := 0) rfl)).trans hgy1247
              have hgy1249 := (hfvy206 (i + 16) (ne_o (i := i) (c := 16) (d := 0) rfl)).trans hgy1248
              have hgy1250 := (hfvy215 (i + 16) (ne_o (i := i) (c := 16) (d := 0) rfl)).trans hgy1249
              have hgy1251 := (hfvy222 (i + 16) (ne_o (i := i) (c := 16) (d := 0) rfl)).trans hgy1250
              have hgy1252 := up_n egy233 hgy1251 (ne_o (i := i) (c := 16) (d := 23) rfl)
              have hgy1253 := (hfvy239 (i + 16) (ne_o (i := i) (c := 16) (d := 0) rfl)).trans hgy1252
              have hgy1254 := (hfvy245 (i + 16) (ne_o (i := i) (c := 16) (d := 0) rfl)).trans hgy1253
              have hgy1255 := up_n egy1228 hgy1254 (ne_o (i := i) (c := 16) (d := 23) rfl)
              have hgy1256 := (hfvy15 (i + 17) (ne_o (i := i) (c := 17) (d := 0) rfl)).trans ha17
              have hgy1257 := (hfvy55 (i + 17) (ne_o (i := i) (c := 17) (d := 0) rfl)).trans hgy1256
              have hgy1258 := (hfvy96 (i + 17) (ne_o (i := i) (c := 17) (d := 0) rfl)).trans hgy1257
              have hgy1259 := (hfvy145 (i + 17) (ne_o (i := i) (c := 17) (d := 0) rfl)).trans hgy1258
              have hgy1260 := (hfvy206 (i + 17) (ne_o (i := i) (c := 17) (d := 0) rfl)).trans hgy1259
              have hgy1261 := (hfvy215 (i + 17) (ne_o (i := i) (c := 17) (d := 0) rfl)).trans hgy1260
              have hgy1262 := (hfvy222 (i + 17) (ne_o (i := i) (c := 17) (d := 0) rfl)).trans hgy1261
              have hgy1263 := up_n egy233 hgy1262 (ne_o (i := i) (c := 17) (d := 23) rfl)
              have hgy1264 := (hfvy239 (i + 17) (ne_o (i := i) (c := 17) (d := 0) rfl)).trans hgy1263
              have hgy1265 := (hfvy245 (i + 17) (ne_o (i := i) (c := 17) (d := 0) rfl)).trans hgy1264
              have hgy1266 := up_n egy1228 hgy1265 (ne_o (i := i) (c := 17) (d := 23) rfl)
              have hgy1267 := (hfvy215 (i + 18) (ne_o (i := i) (c := 18) (d := 0) rfl)).trans hgy207
              have hgy1268 := (hfvy222 (i + 18) (ne_o (i := i) (c := 18) (d := 0) rfl)).trans hgy1267
              have hgy1269 := up_n egy233 hgy1268 (ne_o (i := i) (c := 18) (d := 23) rfl)
              have hgy1270 := (hfvy239 (i + 18) (ne_o (i := i) (c := 18) (d := 0) rfl)).trans hgy1269
              have hgy1271 := (hfvy245 (i + 18) (ne_o (i := i) (c := 18) (d := 0) rfl)).trans hgy1270
              have hgy1272 := up_n egy1228 hgy1271 (ne_o (i := i) (c := 18) (d := 23) rfl)
              have hgy1273 := (hfvy15 (i + 19) (ne_o (i := i) (c := 19) (d := 0) rfl)).trans ha19
              have hgy1274 := (hfvy55 (i + 19) (ne_o (i := i) (c := 19) (d := 0) rfl)).trans hgy1273
              have hgy1275 := (hfvy96 (i + 19) (ne_o (i := i) (c := 19) (d := 0) rfl)).trans hgy1274
              have hgy1276 := (hfvy145 (i + 19) (ne_o (i := i) (c := 19) (d := 0) rfl)).trans hgy1275
              have hgy1277 := (hfvy206 (i + 19) (ne_o (i := i) (c := 19) (d := 0) rfl)).trans hgy1276
              have hgy1278 := (hfvy215 (i + 19) (ne_o (i := i) (c := 19) (d := 0) rfl)).trans hgy1277
              have hgy1279 := (hfvy222 (i + 19) (ne_o (i := i) (c := 19) (d := 0) rfl)).trans hgy1278
              have hgy1280 := up_n egy233 hgy1279 (ne_o (i := i) (c := 19) (d := 23) rfl)
              have hgy1281 := (hfvy239 (i + 19) (ne_o (i := i) (c := 19) (d := 0) rfl)).trans hgy1280
              have hgy1282 := (hfvy245 (i + 19) (ne_o (i := i) (c := 19) (d := 0) rfl)).trans hgy1281
              have hgy1283 := up_n egy1228 hgy1282 (ne_o (i := i) (c := 19) (d := 23) rfl)
              have hgy1284 := (hfvy15 (i + 20) (ne_o (i := i) (c := 20) (d := 0) rfl)).trans ha20
              have hgy1285 := (hfvy55 (i + 20) (ne_o (i := i) (c := 20) (d := 0) rfl)).trans hgy1284
              have hgy1286 := (hfvy96 (i + 20) (ne_o (i := i) (c := 20) (d := 0) rfl)).trans hgy1285
              have hgy1287 := (hfvy145 (i + 20) (ne_o (i := i) (c := 20) (d := 0) rfl)).trans hgy1286
              have hgy1288 := (hfvy206 (i + 20) (ne_o (i := i) (c := 20) (d := 0) rfl)).trans hgy1287
              have hgy1289 := (hfvy215 (i + 20) (ne_o (i := i) (c := 20) (d := 0) rfl)).trans hgy1288
              have hgy1290 := (hfvy222 (i + 20) (ne_o (i := i) (c := 20) (d := 0) rfl)).trans hgy1289
              have hgy1291 := up_n egy233 hgy1290 (ne_o (i := i) (c := 20) (d := 23) rfl)
              have hgy1292 := (hfvy239 (i + 20) (ne_o (i := i) (c := 20) (d := 0) rfl)).trans hgy1291
              have hgy1293 := (hfvy245 (i + 20) (ne_o (i := i) (c := 20) (d := 0) rfl)).trans hgy1292
              have hgy1294 := up_n egy1228 hgy1293 (ne_o (i := i) (c := 20) (d := 23) rfl)
              have hgy1295 := (hfvy15 (i + 21) (ne_o (i := i) (c := 21) (d := 0) rfl)).trans ha21
              have hgy1296 := (hfvy55 (i + 21) (ne_o (i := i) (c := 21) (d := 0) rfl)).trans hgy1295
              have hgy1297 := (hfvy96 (i + 21) (ne_o (i := i) (c := 21) (d := 0) rfl)).trans hgy1296
              have hgy1298 := (hfvy145 (i + 21) (ne_o (i := i) (c := 21) (d := 0) rfl)).trans hgy1297
              have hgy1299 := (hfvy206 (i + 21) (ne_o (i := i) (c := 21) (d := 0) rfl)).trans hgy1298
              have hgy1300 := (hfvy215 (i + 21) (ne_o (i := i) (c := 21) (d := 0) rfl)).trans hgy1299
              have hgy1301 := (hfvy222 (i + 21) (ne_o (i := i) (c := 21) (d := 0) rfl)).trans hgy1300
              have hgy1302 := up_n egy233 hgy1301 (ne_o (i := i) (c := 21) (d := 23) rfl)
              have hgy1303 := (hfvy239 (i + 21) (ne_o (i := i) (c := 21) (d := 0) rfl)).trans hgy1302
              have hgy1304 := (hfvy245 (i + 21) (ne_o (i := i) (c := 21) (d := 0) rfl)).trans hgy1303
              have hgy1305 := up_n egy1228 hgy1304 (ne_o (i := i) (c := 21) (d := 23) rfl)
              have hgy1306 := (hfvy15 (i + 22) (ne_o (i := i) (c := 22) (d := 0) rfl)).trans ha22
              have hgy1307 := (hfvy55 (i + 22) (ne_o (i := i) (c := 22) (d := 0) rfl)).trans hgy1306
              have hgy1308 := (hfvy96 (i + 22) (ne_o (i := i) (c := 22) (d := 0) rfl)).trans hgy1307
              have hgy1309 := (hfvy145 (i + 22) (ne_o (i := i) (c := 22) (d := 0) rfl)).trans hgy1308
              have hgy1310 := (hfvy206 (i + 22) (ne_o (i := i) (c := 22) (d := 0) rfl)).trans hgy1309
              have hgy1311 := (hfvy215 (i + 22) (ne_o (i := i) (c := 22) (d := 0) rfl)).trans hgy1310
              have hgy1312 := (hfvy222 (i + 22) (ne_o (i := i) (c := 22) (d := 0) rfl)).trans hgy1311
              have hgy1313 := up_n egy233 hgy1312 (ne_o (i := i) (c := 22) (d := 23) rfl)
              have hgy1314 := (hfvy239 (i + 22) (ne_o (i := i) (c := 22) (d := 0) rfl)).trans hgy1313
              have hgy1315 := (hfvy245 (i + 22) (ne_o (i := i) (c := 22) (d := 0) rfl)).trans hgy1314
              have hgy1316 := up_n egy1228 hgy1315 (ne_o (i := i) (c := 22) (d := 23) rfl)
              have htxy1317 : okTx cs gy1227 i Fvy245 := ⟨_, _, _, _, _, _, _, _, ⟨hgy1255, hgy1266, hgy1272, hgy1283, hgy1294, hgy1305, hgy1316, hgy1229⟩, ⟨⟨by omega, by omega, by omega⟩, hop1, hmn1, hai1, hfa1, htb1, hlay1243⟩⟩
              exact z_vret C hr hlk dX10_layer1_272 (by decide) (by decide) ⟨rfl, rfl, rfl, ⟨_, hgy1232, hFy1233, Or.inr ⟨(cvy245, (tk_nx T n (tk_nx T n (tk_nx T n f)))), by simp only [cl_layer, cl_layer2, hny58, if_neg hscy99, if_neg hscy156, if_neg hxvy220, hnvy245], by show Fvy245 38 = cvy245; omega, by show Fvy245 24 = (((tk_nx T n (tk_nx T n (tk_nx T n f))) : Nat) : Int); omega, by show 1 ≤ cvy245 ∧ cvy245 ≤ 5; omega, ⟨_, htky1234⟩, htxy1317⟩⟩, fun j j1 j2 => by rw [egy1228, va_up_ne _ _ (by omega)]; rw [hfvy245 _ (by omega)]; rw [hfvy239 _ (by omega)]; rw [egy233, va_up_ne _ _ (by omega)]; rw [hfvy222 _ (by omega)]; rw [hfvy215 _ (by omega)]; rw [hfvy206 _ (by omega)]; rw [hfvy145 _ (by omega)]; rw [hfvy96 _ (by omega)]; rw [hfvy55 _ (by omega)]; rw [hfvy15 _ (by omega)]⟩
          · refine z_iconst (z := 1) C dX10_layer1_127 rfl ?_
            have h33vy1318 : Fvy215 33 = ((tk_nx T n (tk_nx T n f)) : Int) := hkvy215.2.2.1
            have h24vy1318 : Fvy215 24 = F 24 := ((hFvy215 24 (by decide) (by decide) (by decide) (by decide) (by decide)).trans hbvy206)
            have htvy1318 : tkR T n Fvy215 (tk_nx T n (tk_nx T n f)) := hkvy215
            refine z_cV (As := [.int (zI (0)), .int (zI (1))]) (rest := []) (ci := 12) C (c_yWants l D A cs tt N ad _ i hN _ hcvy215 ((hFvy215 38 (by decide) (by decide) (by decide) (by decide) (by decide)).trans hevy206) (0) (by omega) (1) (by omega)) (lt_A0 hN rfl) hay1 hcvy215 rfl rfl mv_yX10_wants q_1678 hd_yX10_wants (by decide) (Nat.le_of_ble_eq_true rfl) (by decide) dX10_layer1_128 rfl (kI0 fun vy1318 gvy1318 hvy1318 => ?_)
            obtain ⟨⟨Fvy1318, hcvy1318, hqvy1318, hFvy1318⟩, hfvy1318⟩ := hvy1318
            obtain ⟨rfl, hevy1318, hbvy1318⟩ : vy1318 = 0 ∧ Fvy1318 38 = 1 ∧ Fvy1318 24 = ((tk_nx T n (tk_nx T n f)) : Int) := by omega
            clear hqvy1318 h33vy1318 h24vy1318
            have hkvy1318 : tkR T n Fvy1318 (tk_nx T n (tk_nx T n f)) := tkR.w htvy1318 hFvy1318 (by omega)
            refine z_if_ne (tgt := 135) C dX10_layer1_131 (by decide) (by omega) (fun h => absurd h (by omega)) (fun _ => ?_)
            have hFy1319 : ∀ f, f ≠ 24 → f ≠ 32 → f ≠ 33 → f ≠ 35 → f ≠ 36 → f ≠ 37 → f ≠ 38 → f ≠ 47 → f ≠ 48 → f ≠ 49 → Fvy1318 f = F f := fun f n24 n32 n33 n35 n36 n37 n38 n47 n48 n49 => ((hFvy1318 f n24 n38).trans ((hFvy215 f n32 n33 n35 n36 n37).trans ((hFvy206 f n24 n38).trans ((hFvy145 f n24 n38).trans ((hFvy96 f n24 n38).trans ((hFvy55 f n24 n38).trans (hFvy15 f n32 n33 n35 n36 n37)))))))
            have htky1320 : tkR T n Fvy1318 (tk_nx T n (tk_nx T n f)) := hkvy1318
            have htoy1321 := tk_to_w (T := T) (n := n) (f := (tk_nx T n (tk_nx T n f))) htky1320.1.1
            have h32y1322 := htky1320.2.1
            have hey1323 : Fvy1318 24 = ((tk_nx T n (tk_nx T n f)) : Int) := hbvy1318
            have hey1324 : Fvy1318 38 = 1 := hevy1318
            have hey1325 : Fvy1318 47 = sl := ((hFvy1318 47 (by decide) (by decide)).trans ((hFvy215 47 (by decide) (by decide) (by decide) (by decide) (by decide)).trans ((hFvy206 47 (by decide) (by decide)).trans ((hFvy145 47 (by decide) (by decide)).trans ((hFvy96 47 (by decide) (by decide)).trans ((hFvy55 47 (by decide) (by decide)).trans ((hFvy15 47 (by decide) (by decide) (by decide) (by decide) (by decide)).trans r47)))))))
            have hey1326 : Fvy1318 48 = ho := ((hFvy1318 48 (by decide) (by decide)).trans ((hFvy215 48 (by decide) (by decide) (by decide) (by decide) (by decide)).trans ((hFvy206 48 (by decide) (by decide)).trans ((hFvy145 48 (by decide) (by decide)).trans ((hFvy96 48 (by decide) (by decide)).trans ((hFvy55 48 (by decide) (by decide)).trans ((hFvy15 48 (by decide) (by decide) (by decide) (by decide) (by decide)).trans r48)))))))
            have hey1327 : Fvy1318 49 = nm := ((hFvy1318 49 (by decide) (by decide)).trans ((hFvy215 49 (by decide) (by decide) (by decide) (by decide) (by decide)).trans ((hFvy206 49 (by decide) (by decide)).trans ((hFvy145 49 (by decide) (by decide)).trans ((hFvy96 49 (by decide) (by decide)).trans ((hFvy55 49 (by decide) (by decide)).trans ((hFvy15 49 (by decide) (by decide) (by decide) (by decide) (by decide)).trans r49)))))))
            have hlay1329 : ∀ s l : Nat, (s : Int) < Fvy1318 47 → (l : Int) < mn1 s → lyT ly1 (84 * s + 7 * l) := by
              intro s l a1 a2
              have hm9 := hmn1 s (by omega)
              exact hly1 s l (by omega) a2
            have hgy1330 := (hfvy15 (i + 16) (ne_o (i := i) (c := 16) (d := 0) rfl)).trans ha16
            have hgy1331 := (hfvy55 (i + 16) (ne_o (i := i) (c := 16) (d := 0) rfl)).trans hgy1330
            have hgy1332 := (hfvy96 (i + 16) (ne_o (i := i) (c := 16) (d := 0) rfl)).trans hgy1331
            have hgy1333 := (hfvy145 (i + 16) (ne_o (i := i) (c := 16) (d := 0) rfl)).trans hgy1332
            have hgy1334 := (hfvy206 (i + 16) (ne_o (i := i) (c := 16) (d := 0) rfl)).trans hgy1333
            have hgy1335 := (hfvy215 (i + 16) (ne_o (i := i) (c := 16) (d := 0) rfl)).trans hgy1334
            have hgy1336 := (hfvy1318 (i + 16) (ne_o (i := i) (c := 16) (d := 0) rfl)).trans hgy1335
            have hgy1337 := (hfvy15 (i + 17) (ne_o (i := i) (c := 17) (d := 0) rfl)).trans ha17
            have hgy1338 := (hfvy55 (i + 17) (ne_o (i := i) (c := 17) (d := 0) rfl)).trans hgy1337
            have hgy1339 := (hfvy96 (i + 17) (ne_o (i := i) (c := 17) (d := 0) rfl)).trans hgy1338
            have hgy1340 := (hfvy145 (i + 17) (ne_o (i := i) (c := 17) (d := 0) rfl)).trans hgy1339
            have hgy1341 := (hfvy206 (i + 17) (ne_o (i := i) (c := 17) (d := 0) rfl)).trans hgy1340
            have hgy1342 := (hfvy215 (i + 17) (ne_o (i := i) (c := 17) (d := 0) rfl)).trans hgy1341
            have hgy1343 := (hfvy1318 (i + 17) (ne_o (i := i) (c := 17) (d := 0) rfl)).trans hgy1342
            have hgy1344 := (hfvy215 (i + 18) (ne_o (i := i) (c := 18) (d := 0) rfl)).trans hgy207
            have hgy1345 := (hfvy1318 (i + 18) (ne_o (i := i) (c := 18) (d := 0) rfl)).trans hgy1344
            have hgy1346 := (hfvy15 (i + 19) (ne_o (i := i) (c := 19) (d := 0) rfl)).trans ha19
            have hgy1347 := (hfvy55 (i + 19) (ne_o (i := i) (c := 19) (d := 0) rfl)).trans hgy1346
            have hgy1348 := (hfvy96 (i + 19) (ne_o (i := i) (c := 19) (d := 0) rfl)).trans hgy1347
            have hgy1349 := (hfvy145 (i + 19) (ne_o (i := i) (c := 19) (d := 0) rfl)).trans hgy1348
            have hgy1350 := (hfvy206 (i + 19) (ne_o (i := i) (c := 19) (d := 0) rfl)).trans hgy1349
            have hgy1351 := (hfvy215 (i + 19) (ne_o (i := i) (c := 19) (d := 0) rfl)).trans hgy1350
            have hgy1352 := (hfvy1318 (i + 19) (ne_o (i := i) (c := 19) (d := 0) rfl)).trans hgy1351
            have hgy1353 := (hfvy15 (i + 20) (ne_o (i := i) (c := 20) (d := 0) rfl)).trans ha20
            have hgy1354 := (hfvy55 (i + 20) (ne_o (i := i) (c := 20) (d := 0) rfl)).trans hgy1353
            have hgy1355 := (hfvy96 (i + 20) (ne_o (i := i) (c := 20) (d := 0) rfl)).trans hgy1354
            have hgy1356 := (hfvy145 (i + 20) (ne_o (i := i) (c := 20) (d := 0) rfl)).trans hgy1355
            have hgy1357 := (hfvy206 (i + 20) (ne_o (i := i) (c := 20) (d := 0) rfl)).trans hgy1356
            have hgy1358 := (hfvy215 (i + 20) (ne_o (i := i) (c := 20) (d := 0) rfl)).trans hgy1357
            have hgy1359 := (hfvy1318 (i + 20) (ne_o (i := i) (c := 20) (d := 0) rfl)).trans hgy1358
            have hgy1360 := (hfvy15 (i + 21) (ne_o (i := i) (c := 21) (d := 0) rfl)).trans ha21
            have hgy1361 := (hfvy55 (i + 21) (ne_o (i := i) (c := 21) (d := 0) rfl)).trans hgy1360
            have hgy1362 := (hfvy96 (i + 21) (ne_o (i := i) (c := 21) (d := 0) rfl)).trans hgy1361
            have hgy1363 := (hfvy145 (i + 21) (ne_o (i := i) (c := 21) (d := 0) rfl)).trans hgy1362
            have hgy1364 := (hfvy206 (i + 21) (ne_o (i := i) (c := 21) (d := 0) rfl)).trans hgy1363
            have hgy1365 := (hfvy215 (i + 21) (ne_o (i := i) (c := 21) (d := 0) rfl)).trans hgy1364
            have hgy1366 := (hfvy1318 (i + 21) (ne_o (i := i) (c := 21) (d := 0) rfl)).trans hgy1365
            have hgy1367 := (hfvy15 (i + 22) (ne_o (i := i) (c := 22) (d := 0) rfl)).trans ha22
            have hgy1368 := (hfvy55 (i + 22) (ne_o (i := i) (c := 22) (d := 0) rfl)).trans hgy1367
            have hgy1369 := (hfvy96 (i + 22) (ne_o (i := i) (c := 22) (d := 0) rfl)).trans hgy1368
            have hgy1370 := (hfvy145 (i + 22) (ne_o (i := i) (c := 22) (d := 0) rfl)).trans hgy1369
            have hgy1371 := (hfvy206 (i + 22) (ne_o (i := i) (c := 22) (d := 0) rfl)).trans hgy1370
            have hgy1372 := (hfvy215 (i + 22) (ne_o (i := i) (c := 22) (d := 0) rfl)).trans hgy1371
            have hgy1373 := (hfvy1318 (i + 22) (ne_o (i := i) (c := 22) (d := 0) rfl)).trans hgy1372
            have hgy1374 := (hfvy15 (i + 23) (ne_o (i := i) (c := 23) (d := 0) rfl)).trans ha23
            have hgy1375 := (hfvy55 (i + 23) (ne_o (i := i) (c := 23) (d := 0) rfl)).trans hgy1374
            have hgy1376 := (hfvy96 (i + 23) (ne_o (i := i) (c := 23) (d := 0) rfl)).trans hgy1375
            have hgy1377 := (hfvy145 (i + 23) (ne_o (i := i) (c := 23) (d := 0) rfl)).trans hgy1376
            have hgy1378 := (hfvy206 (i + 23) (ne_o (i := i) (c := 23) (d := 0) rfl)).trans hgy1377
            have hgy1379 := (hfvy215 (i + 23) (ne_o (i := i) (c := 23) (d := 0) rfl)).trans hgy1378
            have hgy1380 := (hfvy1318 (i + 23) (ne_o (i := i) (c := 23) (d := 0) rfl)).trans hgy1379
            have htxy1381 : okTx cs gvy1318 i Fvy1318 := ⟨_, _, _, _, _, _, _, _, ⟨hgy1336, hgy1343, hgy1345, hgy1352, hgy1359, hgy1366, hgy1373, hgy1380⟩, ⟨⟨by omega, by omega, by omega⟩, hop1, hmn1, hai1, hfa1, htb1, hlay1329⟩⟩
            exact z_vret C hr hlk dX10_layer1_134 (by decide) (by decide) ⟨rfl, rfl, rfl, ⟨_, hcvy1318, hFy1319, Or.inr ⟨(1, (tk_nx T n (tk_nx T n f))), by simp only [cl_layer, cl_layer2, hny58, if_neg hscy99, if_neg hscy156, if_pos hxvy220], by show Fvy1318 38 = 1; omega, by show Fvy1318 24 = (((tk_nx T n (tk_nx T n f)) : Nat) : Int); omega, by show 1 ≤ 1 ∧ 1 ≤ 5; omega, ⟨_, htky1320⟩, htxy1381⟩⟩, fun j j1 j2 => by rw [hfvy1318 _ (by omega)]; rw [hfvy215 _ (by omega)]; rw [hfvy206 _ (by omega)]; rw [hfvy145 _ (by omega)]; rw [hfvy96 _ (by omega)]; rw [hfvy55 _ (by omega)]; rw [hfvy15 _ (by omega)]⟩
end
section
-- 86ni.words.lean.txt
-- words of yhour
theorem q_1507 : (Jvm.Cond.fieldLink "SnowRecorderModel" (305 : Nat) "SnowRecorderModel" "hours1" "I") ∈ AW := AW_m7 67 (by decide +kernel) (by decide +kernel)
theorem q_1705 : (Jvm.Cond.methodLink "SnowRecorderModel" (308 : Nat) ({ cls := "SnowRecorderModel", name := "is", desc := "(I)Z" } : Jvm.MethodName)) ∈ AW := AW_m8 25 (by decide +kernel) (by decide +kernel)
theorem q_1707 : (Jvm.Cond.instanceMethod ({ cls := "SnowRecorderModel", name := "is", desc := "(I)Z" } : Jvm.MethodName)) ∈ AW := AW_m8 27 (by decide +kernel) (by decide +kernel)
theorem q_1708 : (Jvm.Cond.code ({ cls := "SnowRecorderModel", name := "is", desc := "(I)Z" } : Jvm.MethodName) prog_12_method_51_code (2 : Nat) (Option.some Jvm.ClassFile.FieldType.boolean)) ∈ AW := AW_m8 28 (by decide +kernel) (by decide +kernel)
theorem s_52 : Cond.selects "SnowRecorderModel" ({ cls := "SnowRecorderModel", name := "is", desc := "(I)Z" } : Jvm.MethodName) ({ cls := "SnowRecorderModel", name := "is", desc := "(I)Z" } : Jvm.MethodName) ∈ AW := AW_m 52 (by decide +kernel) (by decide +kernel)
theorem hd_yX10_is : yX10_is.cls ≠ "java/lang/invoke/MethodHandle" ∧ yX10_is.cls ≠ "java/lang/invoke/VarHandle" ∧ (parseMethodDescriptor yX10_is.desc).map (fun d => d.parameters.length) = some 1 := by decide +kernel
theorem mv_yX10_is : zWv yX10_is cX10_is 2 (some .boolean) := ⟨q_1707, s_52, q_15, q_1708⟩
end
section
-- 86nj.dec.lean.txt
-- decode rows of yhour
theorem dX10_hour1_0 : decode cX10_hour1 0 = .ok (.aload_n 0, 1) := by decide +kernel
theorem dX10_hour1_1 : decode cX10_hour1 1 = .ok (.aload_n 0, 1) := by decide +kernel
theorem dX10_hour1_2 : decode cX10_hour1 2 = .ok (.getfield 305, 3) := by decide +kernel
theorem dX10_hour1_5 : decode cX10_hour1 5 = .ok (.bipush 24, 2) := by decide +kernel
theorem dX10_hour1_7 : decode cX10_hour1 7 = .ok (.if_icmp .ge 7, 3) := by decide +kernel
theorem dX10_hour1_14 : decode cX10_hour1 14 = .ok (.iconst 0, 1) := by decide +kernel
theorem dX10_hour1_15 : decode cX10_hour1 15 = .ok (.iconst 2, 1) := by decide +kernel
theorem dX10_hour1_16 : decode cX10_hour1 16 = .ok (.invokevirtual 277, 3) := by decide +kernel
theorem dX10_hour1_19 : decode cX10_hour1 19 = .ok (.ifCond .ne 4, 3) := by decide +kernel
theorem dX10_hour1_22 : decode cX10_hour1 22 = .ok (.return_, 1) := by decide +kernel
theorem dX10_hour1_10 : decode cX10_hour1 10 = .ok (.iconst 1, 1) := by decide +kernel
theorem dX10_hour1_11 : decode cX10_hour1 11 = .ok (.goto 4, 3) := by decide +kernel
theorem dX10_hour1_23 : decode cX10_hour1 23 = .ok (.aload_n 0, 1) := by decide +kernel
theorem dX10_hour1_24 : decode cX10_hour1 24 = .ok (.invokevirtual 285, 3) := by decide +kernel
theorem dX10_hour1_27 : decode cX10_hour1 27 = .ok (.aload_n 0, 1) := by decide +kernel
theorem dX10_hour1_28 : decode cX10_hour1 28 = .ok (.getfield 263, 3) := by decide +kernel
theorem dX10_hour1_31 : decode cX10_hour1 31 = .ok (.iconst 3, 1) := by decide +kernel
theorem dX10_hour1_32 : decode cX10_hour1 32 = .ok (.if_icmp .ne 16, 3) := by decide +kernel
theorem dX10_hour1_35 : decode cX10_hour1 35 = .ok (.aload_n 0, 1) := by decide +kernel
theorem dX10_hour1_36 : decode cX10_hour1 36 = .ok (.getfield 260, 3) := by decide +kernel
theorem dX10_hour1_39 : decode cX10_hour1 39 = .ok (.bipush 45, 2) := by decide +kernel
theorem dX10_hour1_41 : decode cX10_hour1 41 = .ok (.if_icmp .ne 7, 3) := by decide +kernel
theorem dX10_hour1_44 : decode cX10_hour1 44 = .ok (.iconst 1, 1) := by decide +kernel
theorem dX10_hour1_45 : decode cX10_hour1 45 = .ok (.goto 4, 3) := by decide +kernel
theorem dX10_hour1_49 : decode cX10_hour1 49 = .ok (.istore_n 1, 1) := by decide +kernel
theorem dX10_hour1_50 : decode cX10_hour1 50 = .ok (.iload_n 1, 1) := by decide +kernel
theorem dX10_hour1_51 : decode cX10_hour1 51 = .ok (.ifCond .eq 7, 3) := by decide +kernel
theorem dX10_hour1_54 : decode cX10_hour1 54 = .ok (.aload_n 0, 1) := by decide +kernel
theorem dX10_hour1_55 : decode cX10_hour1 55 = .ok (.invokevirtual 285, 3) := by decide +kernel
theorem dX10_hour1_58 : decode cX10_hour1 58 = .ok (.aload_n 0, 1) := by decide +kernel
theorem dX10_hour1_59 : decode cX10_hour1 59 = .ok (.iconst 0, 1) := by decide +kernel
theorem dX10_hour1_60 : decode cX10_hour1 60 = .ok (.iload_n 1, 1) := by decide +kernel
theorem dX10_hour1_61 : decode cX10_hour1 61 = .ok (.ifCond .eq 9, 3) := by decide +kernel
theorem dX10_hour1_64 : decode cX10_hour1 64 = .ok (.sipush 300, 3) := by decide +kernel
theorem dX10_hour1_67 : decode cX10_hour1 67 = .ok (.goto 5, 3) := by decide +kernel
theorem dX10_hour1_72 : decode cX10_hour1 72 = .ok (.invokevirtual 291, 3) := by decide +kernel
theorem dX10_hour1_75 : decode cX10_hour1 75 = .ok (.istore_n 2, 1) := by decide +kernel
theorem dX10_hour1_76 : decode cX10_hour1 76 = .ok (.aload_n 0, 1) := by decide +kernel
theorem dX10_hour1_77 : decode cX10_hour1 77 = .ok (.getfield 274, 3) := by decide +kernel
theorem dX10_hour1_80 : decode cX10_hour1 80 = .ok (.ifCond .eq 4, 3) := by decide +kernel
theorem dX10_hour1_84 : decode cX10_hour1 84 = .ok (.aload_n 0, 1) := by decide +kernel
theorem dX10_hour1_85 : decode cX10_hour1 85 = .ok (.getfield 74, 3) := by decide +kernel
theorem dX10_hour1_88 : decode cX10_hour1 88 = .ok (.aload_n 0, 1) := by decide +kernel
theorem dX10_hour1_89 : decode cX10_hour1 89 = .ok (.getfield 305, 3) := by decide +kernel
theorem dX10_hour1_92 : decode cX10_hour1 92 = .ok (.iload_n 1, 1) := by decide +kernel
theorem dX10_hour1_93 : decode cX10_hour1 93 = .ok (.ifCond .eq 8, 3) := by decide +kernel
theorem dX10_hour1_96 : decode cX10_hour1 96 = .ok (.iload_n 2, 1) := by decide +kernel
theorem dX10_hour1_97 : decode cX10_hour1 97 = .ok (.ineg, 1) := by decide +kernel
theorem dX10_hour1_98 : decode cX10_hour1 98 = .ok (.goto 4, 3) := by decide +kernel
theorem dX10_hour1_102 : decode cX10_hour1 102 = .ok (.iastore, 1) := by decide +kernel
theorem dX10_hour1_103 : decode cX10_hour1 103 = .ok (.aload_n 0, 1) := by decide +kernel
theorem dX10_hour1_104 : decode cX10_hour1 104 = .ok (.getfield 77, 3) := by decide +kernel
theorem dX10_hour1_107 : decode cX10_hour1 107 = .ok (.aload_n 0, 1) := by decide +kernel
theorem dX10_hour1_108 : decode cX10_hour1 108 = .ok (.getfield 305, 3) := by decide +kernel
theorem dX10_hour1_111 : decode cX10_hour1 111 = .ok (.iconst 0, 1) := by decide +kernel
theorem dX10_hour1_112 : decode cX10_hour1 112 = .ok (.iastore, 1) := by decide +kernel
theorem dX10_hour1_113 : decode cX10_hour1 113 = .ok (.aload_n 0, 1) := by decide +kernel
theorem dX10_hour1_114 : decode cX10_hour1 114 = .ok (.getfield 80, 3) := by decide +kernel
theorem dX10_hour1_117 : decode cX10_hour1 117 = .ok (.aload_n 0, 1) := by decide +kernel
theorem dX10_hour1_118 : decode cX10_hour1 118 = .ok (.getfield 305, 3) := by decide +kernel
theorem dX10_hour1_121 : decode cX10_hour1 121 = .ok (.iconst 0, 1) := by decide +kernel
theorem dX10_hour1_122 : decode cX10_hour1 122 = .ok (.iastore, 1) := by decide +kernel
theorem dX10_hour1_123 : decode cX10_hour1 123 = .ok (.aload_n 0, 1) := by decide +kernel
theorem dX10_hour1_124 : decode cX10_hour1 124 = .ok (.iconst 3, 1) := by decide +kernel
theorem dX10_hour1_125 : decode cX10_hour1 125 = .ok (.invokevirtual 308, 3) := by decide +kernel
theorem dX10_hour1_128 : decode cX10_hour1 128 = .ok (.ifCond .ne 19, 3) := by decide +kernel
theorem dX10_hour1_147 : decode cX10_hour1 147 = .ok (.aload_n 0, 1) := by decide +kernel
theorem dX10_hour1_148 : decode cX10_hour1 148 = .ok (.getfield 77, 3) := by decide +kernel
theorem dX10_hour1_151 : decode cX10_hour1 151 = .ok (.aload_n 0, 1) := by decide +kernel
theorem dX10_hour1_152 : decode cX10_hour1 152 = .ok (.getfield 305, 3) := by decide +kernel
theorem dX10_hour1_155 : decode cX10_hour1 155 = .ok (.aload_n 0, 1) := by decide +kernel
theorem dX10_hour1_156 : decode cX10_hour1 156 = .ok (.getfield 257, 3) := by decide +kernel
theorem dX10_hour1_159 : decode cX10_hour1 159 = .ok (.iconst 3, 1) := by decide +kernel
theorem dX10_hour1_160 : decode cX10_hour1 160 = .ok (.isub, 1) := by decide +kernel
theorem dX10_hour1_161 : decode cX10_hour1 161 = .ok (.iconst 1, 1) := by decide +kernel
theorem dX10_hour1_162 : decode cX10_hour1 162 = .ok (.iadd, 1) := by decide +kernel
theorem dX10_hour1_163 : decode cX10_hour1 163 = .ok (.iastore, 1) := by decide +kernel
theorem dX10_hour1_164 : decode cX10_hour1 164 = .ok (.aload_n 0, 1) := by decide +kernel
theorem dX10_hour1_165 : decode cX10_hour1 165 = .ok (.invokevirtual 285, 3) := by decide +kernel
theorem dX10_hour1_168 : decode cX10_hour1 168 = .ok (.aload_n 0, 1) := by decide +kernel
theorem dX10_hour1_169 : decode cX10_hour1 169 = .ok (.getfield 77, 3) := by decide +kernel
theorem dX10_hour1_172 : decode cX10_hour1 172 = .ok (.aload_n 0, 1) := by decide +kernel
theorem dX10_hour1_173 : decode cX10_hour1 173 = .ok (.getfield 305, 3) := by decide +kernel
theorem dX10_hour1_176 : decode cX10_hour1 176 = .ok (.iaload, 1) := by decide +kernel
theorem dX10_hour1_177 : decode cX10_hour1 177 = .ok (.iconst 3, 1) := by decide +kernel
theorem dX10_hour1_178 : decode cX10_hour1 178 = .ok (.if_icmp .ge 19, 3) := by decide +kernel
theorem dX10_hour1_181 : decode cX10_hour1 181 = .ok (.aload_n 0, 1) := by decide +kernel
theorem dX10_hour1_182 : decode cX10_hour1 182 = .ok (.getfield 80, 3) := by decide +kernel
theorem dX10_hour1_185 : decode cX10_hour1 185 = .ok (.aload_n 0, 1) := by decide +kernel
theorem dX10_hour1_186 : decode cX10_hour1 186 = .ok (.getfield 305, 3) := by decide +kernel
theorem dX10_hour1_189 : decode cX10_hour1 189 = .ok (.aload_n 0, 1) := by decide +kernel
theorem dX10_hour1_190 : decode cX10_hour1 190 = .ok (.iconst 1, 1) := by decide +kernel
theorem dX10_hour1_191 : decode cX10_hour1 191 = .ok (.bipush 50, 2) := by decide +kernel
theorem dX10_hour1_193 : decode cX10_hour1 193 = .ok (.invokevirtual 291, 3) := by decide +kernel
theorem dX10_hour1_196 : decode cX10_hour1 196 = .ok (.iastore, 1) := by decide +kernel
theorem dX10_hour1_197 : decode cX10_hour1 197 = .ok (.aload_n 0, 1) := by decide +kernel
theorem dX10_hour1_198 : decode cX10_hour1 198 = .ok (.dup, 1) := by decide +kernel
theorem dX10_hour1_199 : decode cX10_hour1 199 = .ok (.getfield 305, 3) := by decide +kernel
theorem dX10_hour1_202 : decode cX10_hour1 202 = .ok (.iconst 1, 1) := by decide +kernel
theorem dX10_hour1_203 : decode cX10_hour1 203 = .ok (.iadd, 1) := by decide +kernel
theorem dX10_hour1_204 : decode cX10_hour1 204 = .ok (.putfield 305, 3) := by decide +kernel
theorem dX10_hour1_207 : decode cX10_hour1 207 = .ok (.return_, 1) := by decide +kernel
theorem dX10_hour1_131 : decode cX10_hour1 131 = .ok (.aload_n 0, 1) := by decide +kernel
theorem dX10_hour1_132 : decode cX10_hour1 132 = .ok (.iconst 4, 1) := by decide +kernel
theorem dX10_hour1_133 : decode cX10_hour1 133 = .ok (.invokevirtual 308, 3) := by decide +kernel
theorem dX10_hour1_136 : decode cX10_hour1 136 = .ok (.ifCond .ne 11, 3) := by decide +kernel
theorem dX10_hour1_139 : decode cX10_hour1 139 = .ok (.aload_n 0, 1) := by decide +kernel
theorem dX10_hour1_140 : decode cX10_hour1 140 = .ok (.iconst 5, 1) := by decide +kernel
theorem dX10_hour1_141 : decode cX10_hour1 141 = .ok (.invokevirtual 308, 3) := by decide +kernel
theorem dX10_hour1_144 : decode cX10_hour1 144 = .ok (.ifCond .eq 53, 3) := by decide +kernel
theorem dX10_hour1_83 : decode cX10_hour1 83 = .ok (.return_, 1) := by decide +kernel
theorem dX10_hour1_70 : decode cX10_hour1 70 = .ok (.bipush 100, 2) := by decide +kernel
theorem dX10_hour1_101 : decode cX10_hour1 101 = .ok (.iload_n 2, 1) := by decide +kernel
theorem dX10_hour1_48 : decode cX10_hour1 48 = .ok (.iconst 0, 1) := by decide +kernel
end
