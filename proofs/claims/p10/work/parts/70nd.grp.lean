section
-- 70nd.xtab.lean.txt
theorem sh31 : ∀ k : Fin 32, (zI (k.val : Int) &&& 31).toBitVec.smod 32 = BitVec.ofNat 32 k.val := by decide
theorem one_sh : ∀ s k : Fin 15, (zI 1 <<< (zI (s.val : Int) &&& 31)).toBitVec.getLsbD k.val = decide (k = s) := by decide
theorem bit_of (a : Int32) {k : Nat} (hk : k < 15) : a >>> (zI (k : Int) &&& 31) &&& zI 1 = zI (if a.toBitVec.getLsbD k = true then 1 else 0) := by
  have e := sh31 ⟨k, by omega⟩
  have h1 : (a >>> (zI (k : Int) &&& 31) &&& zI 1).toBitVec = BitVec.setWidth 32 (BitVec.ofBool (a.toBitVec.getLsbD k)) := by
    rw [Int32.toBitVec_and, Int32.toBitVec_shiftRight, e]
    apply BitVec.eq_of_getLsbD_eq
    intro i hi
    rw [show (zI 1).toBitVec = 1#32 from rfl]
    simp [BitVec.sshiftRight', BitVec.getLsbD_sshiftRight]
    by_cases h0 : i = 0
    · subst h0
      simp [Nat.mod_eq_of_lt (show k < 4294967296 by omega)]
      omega
    · simp [h0]
  rw [← Int32.toBitVec_inj, h1]
  cases a.toBitVec.getLsbD k <;> rfl
/-- the places of the table that are told, as bits -/
def xTd (td : Int) (B : Nat → Int) : Prop := ∀ k : Nat, k < 15 → (B k = 0 ∨ B k = 1) ∧ zI td >>> (zI (k : Int) &&& 31) &&& zI 1 = zI (B k)
theorem xTd.bit {td : Int} {B : Nat → Int} (h : xTd td B) {s : Nat} (hs : s < 15) {z x1 x2 : Int} (hz : z = (s : Int)) (e1 : zI td >>> (zI z &&& 31) = zI x1) (e2 : zI x1 &&& zI 1 = zI x2) (hx : 0 ≤ x2 ∧ x2 ≤ 1) : x2 = B s := by
  subst hz
  have h2 := h s hs
  have h3 := h2.2
  rw [e1, e2] at h3
  exact (zI_eq (by omega) (by omega)).mp h3
theorem xTd.set {td : Int} {B : Nat → Int} (h : xTd td B) {s : Nat} (hs : s < 15) {z y1 y2 : Int} (hz : z = (s : Int)) (e1 : zI 1 <<< (zI z &&& 31) = zI y1) (e2 : zI td ||| zI y1 = zI y2) : xTd y2 (uZ B s 1) := by
  subst hz
  intro k hk
  have h2 := h k hk
  have h4 := one_sh ⟨s, hs⟩ ⟨k, hk⟩
  rw [bit_of (zI td) hk] at h2
  rw [bit_of (zI y2) hk, ← e2, Int32.toBitVec_or, BitVec.getLsbD_or, ← e1]
  by_cases e : k = s
  · subst e
    rw [uZ_s, h4]
    refine ⟨Or.inr rfl, ?_⟩
    simp
  · rw [uZ_n _ _ e, h4, show decide ((⟨k, hk⟩ : Fin 15) = ⟨s, hs⟩) = false from decide_eq_false (fun e9 => e (Fin.mk.inj e9)), Bool.or_false]
    exact h2

set_option maxRecDepth 100000 in
set_option maxHeartbeats 4000000 in
theorem c_xTable (l : Launch) (D : va_G) (A : Nat → Prop) (cs : Nat → ClassId) (tt : Nat) (N : Nat) (ad : Nat → Nat) (g : Nat → va_E) (hN : 952 ≤ N) (pl tk td : Int) (tp T : Nat → Int) (hT : xT tp T) (n : Nat) (hn : n ≤ 900) (f : Nat) (hf : f ≤ n) (hg2 : g 2 = rdC ad (pl) (0) ((n : Int)) (tk_so T n f) ((f : Int)) (((tk_to T n f : Nat) : Int)) (tk) (td)) (hg1 : g 1 = bA cs 900 tp) (sl ho ua : Int) (st op ai fa mu tb : Nat → Int) (hP : isPlan cs ad g 883 sl ho ua st op ai fa mu tb) (hsl : 0 ≤ sl ∧ sl ≤ 4) (hho : 0 ≤ ho ∧ ho ≤ 24) (B : Nat → Int) (hB : xTd td B) (z : Int) (hz : 0 ≤ z ∧ z ≤ 10) (z1 z2 : Int) (hz1 : 0 ≤ z1 ∧ z1 ≤ z2 ∧ z2 ≤ 9999) : zM l yX7_readTable cX7_readTable 7 none ({ frames := 7, cells := 0, slots := 0, locals := 420 } : Room) D A cs tt N ad g [.ref (ad 2), .ref (ad 883), .int (zI (z)), .int (zI (z1)), .int (zI (z2))] (rV0 N ad fun g' => ((∃ v, cl_fin T n (cl_table T n B z z1 z2 f) = .ok v ∧ ((f < n → f < v.2) ∧ v.2 ≤ n) ∧ (∃ tk' td' : Int, g' 2 = rdC ad (pl) (0) ((n : Int)) (tk_so T n v.2) ((v.2 : Int)) (((tk_to T n v.2 : Nat) : Int)) (tk') (td') ∧ xTd td' (uZ B (v.1.1).toNat 1)) ∧ isPlan cs ad g' 883 sl ho ua st op ai fa mu (uZ tb (v.1.1).toNat v.1.2)) ∨ (∃ e : Int × Nat, cl_fin T n (cl_table T n B z z1 z2 f) = .error e ∧ xFl cs ad g' e.1 (e.2 : Int) tp ∧ isPlan cs ad g' 883 sl ho ua st op ai fa mu tb)) ∧ ∀ j, j ≠ 2 → (j < 883 ∨ 890 ≤ j) → g' j = g j) := by
  have hay1 : zAt ad (2) (ad 2) := rfl
  have hay2 : zAt ad (1) (ad 1) := rfl
  have hTr : ∀ k, k < 900 → -128 ≤ tp k ∧ tp k ≤ 127 := fun k hk => (hT k hk).2.1
  have hsb := tk_so_b T n f
  have htb := tk_to_b (T := T) hf
  have hay3 : zAt ad (883) (ad 883) := rfl
  have hay4 : zAt ad (883 + 1) (ad (883 + 1)) := rfl
  have hay5 : zAt ad (883 + 2) (ad (883 + 2)) := rfl
  have hay6 : zAt ad (883 + 3) (ad (883 + 3)) := rfl
  have hay7 : zAt ad (883 + 4) (ad (883 + 4)) := rfl
  have hay8 : zAt ad (883 + 5) (ad (883 + 5)) := rfl
  have hay9 : zAt ad (883 + 6) (ad (883 + 6)) := rfl
  refine z_of (by decide) (Nat.le_of_ble_eq_true rfl) ?_
  intro p e s m below meth c C hr hlk hnm
  refine z_lv (lv' := [(0, .ref (ad 2)), (1, .ref (ad 883)), (2, .int (zI (z))), (3, .int (zI (z1))), (4, .int (zI (z2)))]) [0, 1, 2, 3, 4] rfl ?_
  refine z_aload_n C 0 dX7_readTable_0 rfl ?_
  refine z_cV (As := []) (rest := []) (ci := 9) C (c_xTake l D A cs tt N ad _ (by omega) _ _ _ tp T hT n hn f (by omega) hg2 hg1) (lt_K hN (rfl : Nat.blt (2) 952 = true)) hay1 hg2 rfl rfl mv_yX7_take q_813 hd_yX7_take (by decide) (Nat.le_of_ble_eq_true rfl) (by decide) dX7_readTable_1 rfl (kV0 fun gvy10 hvy10 => ?_)
  obtain ⟨hkvy10, hfvy10⟩ := hvy10
  have hnby11 := tk_nx_b (T := T) (n := n) (f := f) (by omega)
  have hsby12 := tk_so_b T n (tk_nx T n f)
  have htby13 := tk_to_b (T := T) (n := n) (f := (tk_nx T n f)) (by omega)
  refine z_iload_n C 2 dX7_readTable_4 rfl ?_
  refine z_aload_n C 0 dX7_readTable_5 rfl ?_
  have hgy14 := (hfvy10 (1) (by decide)).trans hg1
  refine z_cV (As := []) (rest := [.int (zI (z))]) (ci := 9) C (c_xKind l D A cs tt N ad _ (by omega) _ _ _ tp T hT n hn (tk_nx T n f) (by omega) hkvy10 hgy14) (lt_K hN (rfl : Nat.blt (2) 952 = true)) hay1 hkvy10 rfl rfl mv_yX7_kind q_830 hd_yX7_kind (by decide) (Nat.le_of_ble_eq_true rfl) (by decide) dX7_readTable_6 rfl (kI0 fun vy15 gvy15 hvy15 => ?_)
  obtain ⟨hvy15, hfvy15⟩ := hvy15
  rcases hvy15 with hvy15 | hvy15
  · obtain ⟨hnvy15, hrvy15, hkvy15⟩ := hvy15
    have hnby16 := tk_nx_b (T := T) (n := n) (f := (tk_nx T n f)) (by omega)
    have hsby17 := tk_so_b T n (tk_nx T n (tk_nx T n f))
    have htby18 := tk_to_b (T := T) (n := n) (f := (tk_nx T n (tk_nx T n f))) (by omega)
    subst hnvy15
    have hnevy15 : ¬ tk_kd T n (tk_nx T n f) = -1 := by omega
    refine z_iadd C dX7_readTable_9 ?_
    refine z_istore (lv' := [(5, .int (zI (z + (tk_kd T n (tk_nx T n f))))), (0, .ref (ad 2)), (1, .ref (ad 883)), (2, .int (zI (z))), (3, .int (zI (z1))), (4, .int (zI (z2)))]) C dX7_readTable_10 (by decide) rfl ?_
    refine z_aload_n C 1 dX7_readTable_12 rfl ?_
    refine z_get (v := .int (zI (td))) C (lt_K hN (rfl : Nat.blt (2) 952 = true)) hay1 hkvy15 rfl inA_X7 8 (by decide) q_52 rfl rfl dX7_readTable_13 ?_
    refine z_iload C 0 dX7_readTable_16 rfl ?_
    obtain ⟨xs9, exs9, hxs9⟩ := zI_of (zI (td) >>> (zI (z + (tk_kd T n (tk_nx T n f))) &&& 31))
    refine z_ishr (z := xs9) C dX7_readTable_18 exs9 ?_
    refine z_iconst (z := 1) C dX7_readTable_19 rfl ?_
    obtain ⟨xa9, exa9, hxa9⟩ := zI_and (zI xs9) (m := zI 1) 1 (by decide)
    refine z_iand (z := xa9) C dX7_readTable_20 exa9 ?_
    have hbit : xa9 = B (z + (tk_kd T n (tk_nx T n f))).toNat := xTd.bit hB (by omega) (by omega) exs9 exa9 (by omega)
    refine z_iconst (z := 1) C dX7_readTable_21 rfl ?_
    refine z_icmp_ne (tgt := 34) C dX7_readTable_22 (by decide) (by omega) (by omega) (fun hby19 => ?_) (fun hby19 => ?_)
    · have hscy20 : ¬ (B (z + (tk_kd T n (tk_nx T n f))).toNat = 1) := by omega
      refine z_aload_n C 1 dX7_readTable_34 rfl ?_
      refine z_iload_n C 4 dX7_readTable_35 rfl ?_
      refine z_iload C 5 dX7_readTable_36 rfl ?_
      have hgy21 := (hfvy15 (1) (by decide)).trans hgy14
      refine z_cV (As := [.int (zI (z1)), .int (zI (z2))]) (rest := []) (ci := 9) C (c_xNumber l D A cs tt N ad _ (by omega) _ _ _ tp T hT n hn (tk_nx T n (tk_nx T n f)) (by omega) hkvy15 hgy21 (z1) (z2) (by omega)) (lt_K hN (rfl : Nat.blt (2) 952 = true)) hay1 hkvy15 rfl rfl mv_yX7_number q_817 hd_yX7_number (by decide) (Nat.le_of_ble_eq_true rfl) (by decide) dX7_readTable_38 rfl (kI0 fun vy22 gvy22 hvy22 => ?_)
      obtain ⟨hvy22, hfvy22⟩ := hvy22
      rcases hvy22 with hvy22 | hvy22
      · obtain ⟨hnvy22, hrvy22, hkvy22⟩ := hvy22
        have hnby23 := tk_nx_b (T := T) (n := n) (f := (tk_nx T n (tk_nx T n f))) (by omega)
        have hsby24 := tk_so_b T n (tk_nx T n (tk_nx T n (tk_nx T n f)))
        have htby25 := tk_to_b (T := T) (n := n) (f := (tk_nx T n (tk_nx T n (tk_nx T n f)))) (by omega)
        refine z_istore (lv' := [(6, .int (zI (vy22))), (5, .int (zI (z + (tk_kd T n (tk_nx T n f))))), (0, .ref (ad 2)), (1, .ref (ad 883)), (2, .int (zI (z))), (3, .int (zI (z1))), (4, .int (zI (z2)))]) C dX7_readTable_41 (by decide) rfl ?_
        refine z_aload_n C 2 dX7_readTable_43 rfl ?_
        have hgy27 := (hfvy22 (1) (by decide)).trans hgy21
        refine z_cV (As := []) (rest := []) (ci := 9) C (c_xClose l D A cs tt N ad _ (by omega) _ _ _ tp T hT n hn (tk_nx T n (tk_nx T n (tk_nx T n f))) (by omega) hkvy22 hgy27) (lt_K hN (rfl : Nat.blt (2) 952 = true)) hay1 hkvy22 rfl rfl mv_yX7_close q_821 hd_yX7_close (by decide) (Nat.le_of_ble_eq_true rfl) (by decide) dX7_readTable_44 rfl (kV0 fun gvy26 hvy26 => ?_)
        obtain ⟨hvy26, hfvy26⟩ := hvy26
        rcases hvy26 with hvy26 | hvy26
        · obtain ⟨hnvy26, hkvy26⟩ := hvy26
          have hnby28 := tk_nx_b (T := T) (n := n) (f := (tk_nx T n (tk_nx T n (tk_nx T n f)))) (by omega)
          have hsby29 := tk_so_b T n (tk_nx T n (tk_nx T n (tk_nx T n (tk_nx T n f))))
          have htby30 := tk_to_b (T := T) (n := n) (f := (tk_nx T n (tk_nx T n (tk_nx T n (tk_nx T n f))))) (by omega)
          refine z_aload_n C 2 dX7_readTable_47 rfl ?_
          refine z_get (v := .int (zI (0))) C (lt_K hN (rfl : Nat.blt (2) 952 = true)) hay1 hkvy26 rfl inA_X7 1 (by decide) q_45 rfl rfl dX7_readTable_48 ?_
          refine z_if_ne (tgt := 76) C dX7_readTable_51 (by decide) (by omega) (fun h => absurd h (by omega)) (fun _ => ?_)
          refine z_aload_n C 2 dX7_readTable_54 rfl ?_
          refine z_dup C dX7_readTable_55 rfl ?_
          refine z_get (v := .int (zI (td))) C (lt_K hN (rfl : Nat.blt (2) 952 = true)) hay1 hkvy26 rfl inA_X7 8 (by decide) q_52 rfl rfl dX7_readTable_56 ?_
          refine z_iconst (z := 1) C dX7_readTable_59 rfl ?_
          refine z_iload C 1 dX7_readTable_60 rfl ?_
          obtain ⟨ys9, eys9, hys9⟩ := zI_of (zI (1) <<< (zI (z + (tk_kd T n (tk_nx T n f))) &&& 31))
          refine z_ishl (z := ys9) C dX7_readTable_62 eys9 ?_
          obtain ⟨yo9, eyo9, hyo9⟩ := zI_of (zI (td) ||| zI (ys9))
          refine z_ior (z := yo9) C dX7_readTable_63 eyo9 ?_
          refine z_put (fs' := [.int (zI (pl)), .int (zI (0)), .ref (ad 1), .int (zI ((n : Int))), .int (zI (tk_so T n (tk_nx T n (tk_nx T n (tk_nx T n (tk_nx T n f)))))), .int (zI (((tk_nx T n (tk_nx T n (tk_nx T n (tk_nx T n f)))) : Int))), .int (zI (((tk_to T n (tk_nx T n (tk_nx T n (tk_nx T n (tk_nx T n f)))) : Nat) : Int))), .int (zI (((tk_nx T n (tk_nx T n (tk_nx T n f))) : Int))), .int (zI (yo9))]) C (lt_K hN (rfl : Nat.blt (2) 952 = true)) hay1 hkvy26 tyX7 tyX7_ok nmX7 rfl inA_X7 8 (by decide) q_52 rfl rfl rfl rfl (Nat.le_of_ble_eq_true rfl) rfl dX7_readTable_64 (fun gy31 egy32 => ?_)
          have hgy33 := up_s egy32
          refine z_aload_n C 3 dX7_readTable_67 rfl ?_
          have hgy34 := (hfvy10 (883) (by decide)).trans hP.1
          have hgy35 := (hfvy15 (883) (by decide)).trans hgy34
          have hgy36 := (hfvy22 (883) (by decide)).trans hgy35
          have hgy37 := (hfvy26 (883) (by decide)).trans hgy36
          have hgy38 := up_n egy32 hgy37 (by decide)
          refine z_get (v := .ref (ad (883 + 6))) C (lt_K hN (rfl : Nat.blt (883) 952 = true)) hay3 hgy38 rfl inA_X5 8 (by decide) q_114 rfl rfl dX7_readTable_68 ?_
          refine z_iload C 1 dX7_readTable_71 rfl ?_
          refine z_iload C 0 dX7_readTable_73 rfl ?_
          have hgy39 := (hfvy10 (883 + 6) (by omega)).trans hP.2.2.2.2.2.2
          have hgy40 := (hfvy15 (883 + 6) (by omega)).trans hgy39
          have hgy41 := (hfvy22 (883 + 6) (by omega)).trans hgy40
          have hgy42 := (hfvy26 (883 + 6) (by omega)).trans hgy41
          have hgy43 := up_n egy32 hgy42 (by omega)
          refine z_iast C (lt_K hN (rfl : Nat.blt (883 + 6) 952 = true)) hay9 hgy43 ((z + (tk_kd T n (tk_nx T n f))).toNat) (by omega) (by omega) (by decide) dX7_readTable_75 (fun gy44 egy45 => ?_)
          have hgy46 := up_s egy45
          have hgy47 := up_n egy45 hgy33 (by omega)
          have hTd9 : xTd yo9 (uZ B (z + (tk_kd T n (tk_nx T n f))).toNat 1) := xTd.set hB (by omega) (by omega) eys9 eyo9
          have hgy48 := up_n egy45 hgy38 (ne_o (i := 883) (c := 0) (d := 6) rfl)
          have hgy49 := (hfvy10 (883 + 1) (by omega)).trans hP.2.1
          have hgy50 := (hfvy15 (883 + 1) (by omega)).trans hgy49
          have hgy51 := (hfvy22 (883 + 1) (by omega)).trans hgy50
          have hgy52 := (hfvy26 (883 + 1) (by omega)).trans hgy51
          have hgy53 := up_n egy32 hgy52 (by omega)
          have hgy54 := up_n egy45 hgy53 (ne_o (i := 883) (c := 1) (d := 6) rfl)
          have hgy55 := (hfvy10 (883 + 2) (by omega)).trans hP.2.2.1
          have hgy56 := (hfvy15 (883 + 2) (by omega)).trans hgy55
          have hgy57 := (hfvy22 (883 + 2) (by omega)).trans hgy56
          have hgy58 := (hfvy26 (883 + 2) (by omega)).trans hgy57
          have hgy59 := up_n egy32 hgy58 (by omega)
          have hgy60 := up_n egy45 hgy59 (ne_o (i := 883) (c := 2) (d := 6) rfl)
          have hgy61 := (hfvy10 (883 + 3) (by omega)).trans hP.2.2.2.1
          have hgy62 := (hfvy15 (883 + 3) (by omega)).trans hgy61
          have hgy63 := (hfvy22 (883 + 3) (by omega)).trans hgy62
          have hgy64 := (hfvy26 (883 + 3) (by omega)).trans hgy63
          have hgy65 := up_n egy32 hgy64 (by omega)
          have hgy66 := up_n egy45 hgy65 (ne_o (i := 883) (c := 3) (d := 6) rfl)
          have hgy67 := (hfvy10 (883 + 4) (by omega)).trans hP.2.2.2.2.1
          have hgy68 := (hfvy15 (883 + 4) (by omega)).trans hgy67
          have hgy69 := (hfvy22 (883 + 4) (by omega)).trans hgy68
          have hgy70 := (hfvy26 (883 + 4) (by omega)).trans hgy69
          have hgy71 := up_n egy32 hgy70 (by omega)
          have hgy72 := up_n egy45 hgy71 (ne_o (i := 883) (c := 4) (d := 6) rfl)
          have hgy73 := (hfvy10 (883 + 5) (by omega)).trans hP.2.2.2.2.2.1
          have hgy74 := (hfvy15 (883 + 5) (by omega)).trans hgy73
          have hgy75 := (hfvy22 (883 + 5) (by omega)).trans hgy74
          have hgy76 := (hfvy26 (883 + 5) (by omega)).trans hgy75
          have hgy77 := up_n egy32 hgy76 (by omega)
          have hgy78 := up_n egy45 hgy77 (ne_o (i := 883) (c := 5) (d := 6) rfl)
          exact z_vret C hr hlk dX7_readTable_76 (by decide) (by decide) ⟨rfl, rfl, rfl, Or.inl ⟨_, by simp only [cl_fin, cl_table, if_neg hnevy15, if_neg hscy20, hnvy22, if_pos hnvy26]; rfl, by show (f < n → f < (tk_nx T n (tk_nx T n (tk_nx T n (tk_nx T n f))))) ∧ (tk_nx T n (tk_nx T n (tk_nx T n (tk_nx T n f)))) ≤ n; omega, ⟨_, _, hgy47, hTd9⟩, ⟨hgy48, hgy54, hgy60, hgy66, hgy72, hgy78, hgy46⟩⟩, fun j j1 j2 => by rw [egy45, va_up_ne _ _ (by omega)]; rw [egy32, va_up_ne _ _ (by omega)]; rw [hfvy26 _ (by omega)]; rw [hfvy22 _ (by omega)]; rw [hfvy15 _ (by omega)]; rw [hfvy10 _ (by omega)]⟩
        · obtain ⟨hnvy26, hkvy26⟩ := hvy26
          refine z_aload_n C 2 dX7_readTable_47 rfl ?_
          refine z_get (v := .int (zI (1))) C (lt_K hN (rfl : Nat.blt (2) 952 = true)) hay1 hkvy26 rfl inA_X7 1 (by decide) q_45 rfl rfl dX7_readTable_48 ?_
          refine z_if_ne (tgt := 76) C dX7_readTable_51 (by decide) (by omega) (fun _ => ?_) (fun h => absurd h (by omega))
          have hgy79 := (hfvy26 (1) (by decide)).trans hgy27
          have hgy80 := (hfvy10 (883) (by decide)).trans hP.1
          have hgy81 := (hfvy15 (883) (by decide)).trans hgy80
          have hgy82 := (hfvy22 (883) (by decide)).trans hgy81
          have hgy83 := (hfvy26 (883) (by decide)).trans hgy82
          have hgy84 := (hfvy10 (883 + 1) (by omega)).trans hP.2.1
          have hgy85 := (hfvy15 (883 + 1) (by omega)).trans hgy84
          have hgy86 := (hfvy22 (883 + 1) (by omega)).trans hgy85
          have hgy87 := (hfvy26 (883 + 1) (by omega)).trans hgy86
          have hgy88 := (hfvy10 (883 + 2) (by omega)).trans hP.2.2.1
          have hgy89 := (hfvy15 (883 + 2) (by omega)).trans hgy88
          have hgy90 := (hfvy22 (883 + 2) (by omega)).trans hgy89
          have hgy91 := (hfvy26 (883 + 2) (by omega)).trans hgy90
          have hgy92 := (hfvy10 (883 + 3) (by omega)).trans hP.2.2.2.1
          have hgy93 := (hfvy15 (883 + 3) (by omega)).trans hgy92
          have hgy94 := (hfvy22 (883 + 3) (by omega)).trans hgy93
          have hgy95 := (hfvy26 (883 + 3) (by omega)).trans hgy94
          have hgy96 := (hfvy10 (883 + 4) (by omega)).trans hP.2.2.2.2.1
          have hgy97 := (hfvy15 (883 + 4) (by omega)).trans hgy96
          have hgy98 := (hfvy22 (883 + 4) (by omega)).trans hgy97
          have hgy99 := (hfvy26 (883 + 4) (by omega)).trans hgy98
          have hgy100 := (hfvy10 (883 + 5) (by omega)).trans hP.2.2.2.2.2.1
          have hgy101 := (hfvy15 (883 + 5) (by omega)).trans hgy100
          have hgy102 := (hfvy22 (883 + 5) (by omega)).trans hgy101
          have hgy103 := (hfvy26 (883 + 5) (by omega)).trans hgy102
          have hgy104 := (hfvy10 (883 + 6) (by omega)).trans hP.2.2.2.2.2.2
          have hgy105 := (hfvy15 (883 + 6) (by omega)).trans hgy104
          have hgy106 := (hfvy22 (883 + 6) (by omega)).trans hgy105
          have hgy107 := (hfvy26 (883 + 6) (by omega)).trans hgy106
          exact z_vret C hr hlk dX7_readTable_76 (by decide) (by decide) ⟨rfl, rfl, rfl, Or.inr ⟨(1, (tk_nx T n (tk_nx T n (tk_nx T n f)))), by simp only [cl_fin, cl_table, if_neg hnevy15, if_neg hscy20, hnvy22, if_neg hnvy26], ⟨by show 1 ≤ 1 ∧ 1 ≤ 5; omega, _, _, _, _, _, _, by omega, by omega, hkvy26, hgy79⟩, ⟨hgy83, hgy87, hgy91, hgy95, hgy99, hgy103, hgy107⟩⟩, fun j j1 j2 => by rw [hfvy26 _ (by omega)]; rw [hfvy22 _ (by omega)]; rw [hfvy15 _ (by omega)]; rw [hfvy10 _ (by omega)]⟩
      · obtain ⟨cvy22, hcvy22, hnvy22, rfl, hkvy22⟩ := hvy22
        refine z_istore (lv' := [(6, .int (zI (0))), (5, .int (zI (z + (tk_kd T n (tk_nx T n f))))), (0, .ref (ad 2)), (1, .ref (ad 883)), (2, .int (zI (z))), (3, .int (zI (z1))), (4, .int (zI (z2)))]) C dX7_readTable_41 (by decide) rfl ?_
        refine z_aload_n C 2 dX7_readTable_43 rfl ?_
        refine z_cV (As := []) (rest := []) (ci := 9) C (c_fClose l D A cs tt N ad _ (by omega) _ _ _ _ _ _ _ _ (by omega) (by omega) hkvy22) (lt_K hN (rfl : Nat.blt (2) 952 = true)) hay1 hkvy22 rfl rfl mv_yX7_close q_821 hd_yX7_close (by decide) (Nat.le_of_ble_eq_true rfl) (by decide) dX7_readTable_44 rfl (kV0 fun gvy108 hvy108 => ?_)
        obtain rfl := hvy108
        refine z_aload_n C 2 dX7_readTable_47 rfl ?_
        refine z_get (v := .int (zI (cvy22))) C (lt_K hN (rfl : Nat.blt (2) 952 = true)) hay1 hkvy22 rfl inA_X7 1 (by decide) q_45 rfl rfl dX7_readTable_48 ?_
        refine z_if_ne (tgt := 76) C dX7_readTable_51 (by decide) (by omega) (fun _ => ?_) (fun h => absurd h (by omega))
        have hgy109 := (hfvy22 (1) (by decide)).trans hgy21
        have hgy110 := (hfvy10 (883) (by decide)).trans hP.1
        have hgy111 := (hfvy15 (883) (by decide)).trans hgy110
        have hgy112 := (hfvy22 (883) (by decide)).trans hgy111
        have hgy113 := (hfvy10 (883 + 1) (by omega)).trans hP.2.1
        have hgy114 := (hfvy15 (883 + 1) (by omega)).trans hgy113
        have hgy115 := (hfvy22 (883 + 1) (by omega)).trans hgy114
        have hgy116 := (hfvy10 (883 + 2) (by omega)).trans hP.2.2.1
        have hgy117 := (hfvy15 (883 + 2) (by omega)).trans hgy116
        have hgy118 := (hfvy22 (883 + 2) (by omega)).trans hgy117
        have hgy119 := (hfvy10 (883 + 3) (by omega)).trans hP.2.2.2.1
        have hgy120 := (hfvy15 (883 + 3) (by omega)).trans hgy119
        have hgy121 := (hfvy22 (883 + 3) (by omega)).trans hgy120
        have hgy122 := (hfvy10 (883 + 4) (by omega)).trans hP.2.2.2.2.1
        have hgy123 := (hfvy15 (883 + 4) (by omega)).trans hgy122
        have hgy124 := (hfvy22 (883 + 4) (by omega)).trans hgy123
        have hgy125 := (hfvy10 (883 + 5) (by omega)).trans hP.2.2.2.2.2.1
        have hgy126 := (hfvy15 (883 + 5) (by omega)).trans hgy125
        have hgy127 := (hfvy22 (883 + 5) (by omega)).trans hgy126
        have hgy128 := (hfvy10 (883 + 6) (by omega)).trans hP.2.2.2.2.2.2
        have hgy129 := (hfvy15 (883 + 6) (by omega)).trans hgy128
        have hgy130 := (hfvy22 (883 + 6) (by omega)).trans hgy129
        exact z_vret C hr hlk dX7_readTable_76 (by decide) (by decide) ⟨rfl, rfl, rfl, Or.inr ⟨(cvy22, (tk_nx T n (tk_nx T n f))), by simp only [cl_fin, cl_table, if_neg hnevy15, if_neg hscy20, hnvy22], ⟨by show 1 ≤ cvy22 ∧ cvy22 ≤ 5; omega, _, _, _, _, _, _, by omega, by omega, hkvy22, hgy109⟩, ⟨hgy112, hgy115, hgy118, hgy121, hgy124, hgy127, hgy130⟩⟩, fun j j1 j2 => by rw [hfvy22 _ (by omega)]; rw [hfvy15 _ (by omega)]; rw [hfvy10 _ (by omega)]⟩
    · have hscy131 : (B (z + (tk_kd T n (tk_nx T n f))).toNat = 1) := by omega
      refine z_aload_n C 1 dX7_readTable_25 rfl ?_
      refine z_iconst (z := 4) C dX7_readTable_26 rfl ?_
      refine z_aload_n C 1 dX7_readTable_27 rfl ?_
      refine z_get (v := .int (zI (((tk_nx T n f) : Int)))) C (lt_K hN (rfl : Nat.blt (2) 952 = true)) hay1 hkvy15 rfl inA_X7 7 (by decide) q_51 rfl rfl dX7_readTable_28 ?_
      refine z_cV (As := [.int (zI (4)), .int (zI (((tk_nx T n f) : Int)))]) (rest := []) (ci := 9) C (c_xFail l D A cs tt N ad _ (by omega) _ _ _ _ _ _ _ hkvy15 (4) (((tk_nx T n f) : Int))) (lt_K hN (rfl : Nat.blt (2) 952 = true)) hay1 hkvy15 rfl rfl mv_yX7_fail q_809 hd_yX7_fail (by decide) (Nat.le_of_ble_eq_true rfl) (by decide) dX7_readTable_31 rfl (kV0 fun gvy132 hvy132 => ?_)
      obtain ⟨hkvy132, hfvy132⟩ := hvy132
      refine z_aload_n C 1 dX7_readTable_34 rfl ?_
      refine z_iload_n C 4 dX7_readTable_35 rfl ?_
      refine z_iload C 5 dX7_readTable_36 rfl ?_
      have hgy134 := (hfvy15 (1) (by decide)).trans hgy14
      have hgy135 := (hfvy132 (1) (by decide)).trans hgy134
      have hruny133 : okRun cs ad gvy132 (4) tp := ⟨_, _, _, _, _, _, _, by omega, by omega, hkvy132, hgy135⟩
      refine z_cV (As := [.int (zI (z1)), .int (zI (z2))]) (rest := []) (ci := 9) C (c_fNumber l D A cs tt N ad _ (by omega) _ tp hruny133 (by omega) (z1) (by omega) (z2) (by omega)) (lt_K hN (rfl : Nat.blt (2) 952 = true)) hay1 hkvy132 rfl rfl mv_yX7_number q_817 hd_yX7_number (by decide) (Nat.le_of_ble_eq_true rfl) (by decide) dX7_readTable_38 rfl (kI0 fun vy136 gvy136 hvy136 => ?_)
      obtain ⟨hvy136, rfl⟩ := hvy136
      refine z_istore (lv' := [(6, .int (zI (vy136))), (5, .int (zI (z + (tk_kd T n (tk_nx T n f))))), (0, .ref (ad 2)), (1, .ref (ad 883)), (2, .int (zI (z))), (3, .int (zI (z1))), (4, .int (zI (z2)))]) C dX7_readTable_41 (by decide) rfl ?_
      refine z_aload_n C 2 dX7_readTable_43 rfl ?_
      refine z_cV (As := []) (rest := []) (ci := 9) C (c_fClose l D A cs tt N ad _ (by omega) _ _ _ _ _ _ _ _ (by omega) (by omega) hkvy132) (lt_K hN (rfl : Nat.blt (2) 952 = true)) hay1 hkvy132 rfl rfl mv_yX7_close q_821 hd_yX7_close (by decide) (Nat.le_of_ble_eq_true rfl) (by decide) dX7_readTable_44 rfl (kV0 fun gvy137 hvy137 => ?_)
      obtain rfl := hvy137
      refine z_aload_n C 2 dX7_readTable_47 rfl ?_
      refine z_get (v := .int (zI (4))) C (lt_K hN (rfl : Nat.blt (2) 952 = true)) hay1 hkvy132 rfl inA_X7 1 (by decide) q_45 rfl rfl dX7_readTable_48 ?_
      refine z_if_ne (tgt := 76) C dX7_readTable_51 (by decide) (by omega) (fun _ => ?_) (fun h => absurd h (by omega))
      have hgy138 := (hfvy10 (883) (by decide)).trans hP.1
      have hgy139 := (hfvy15 (883) (by decide)).trans hgy138
      have hgy140 := (hfvy132 (883) (by decide)).trans hgy139
      have hgy141 := (hfvy10 (883 + 1) (by omega)).trans hP.2.1
      have hgy142 := (hfvy15 (883 + 1) (by omega)).trans hgy141
      have hgy143 := (hfvy132 (883 + 1) (by omega)).trans hgy142
      have hgy144 := (hfvy10 (883 + 2) (by omega)).trans hP.2.2.1
      have hgy145 := (hfvy15 (883 + 2) (by omega)).trans hgy144
      have hgy146 := (hfvy132 (883 + 2) (by omega)).trans hgy145
      have hgy147 := (hfvy10 (883 + 3) (by omega)).trans hP.2.2.2.1
      have hgy148 := (hfvy15 (883 + 3) (by omega)).trans hgy147
      have hgy149 := (hfvy132 (883 + 3) (by omega)).trans hgy148
      have hgy150 := (hfvy10 (883 + 4) (by omega)).trans hP.2.2.2.2.1
      have hgy151 := (hfvy15 (883 + 4) (by omega)).trans hgy150
      have hgy152 := (hfvy132 (883 + 4) (by omega)).trans hgy151
      have hgy153 := (hfvy10 (883 + 5) (by omega)).trans hP.2.2.2.2.2.1
      have hgy154 := (hfvy15 (883 + 5) (by omega)).trans hgy153
      have hgy155 := (hfvy132 (883 + 5) (by omega)).trans hgy154
      have hgy156 := (hfvy10 (883 + 6) (by omega)).trans hP.2.2.2.2.2.2
      have hgy157 := (hfvy15 (883 + 6) (by omega)).trans hgy156
      have hgy158 := (hfvy132 (883 + 6) (by omega)).trans hgy157
      exact z_vret C hr hlk dX7_readTable_76 (by decide) (by decide) ⟨rfl, rfl, rfl, Or.inr ⟨(4, (tk_nx T n f)), by simp only [cl_fin, cl_table, if_neg hnevy15, if_pos hscy131], ⟨by show 1 ≤ 4 ∧ 4 ≤ 5; omega, _, _, _, _, _, _, by omega, by omega, hkvy132, hgy135⟩, ⟨hgy140, hgy143, hgy146, hgy149, hgy152, hgy155, hgy158⟩⟩, fun j j1 j2 => by rw [hfvy132 _ (by omega)]; rw [hfvy15 _ (by omega)]; rw [hfvy10 _ (by omega)]⟩
  · obtain ⟨hnvy15, rfl, hkvy15⟩ := hvy15
    refine z_iadd C dX7_readTable_9 ?_
    refine z_istore (lv' := [(5, .int (zI (z + 0))), (0, .ref (ad 2)), (1, .ref (ad 883)), (2, .int (zI (z))), (3, .int (zI (z1))), (4, .int (zI (z2)))]) C dX7_readTable_10 (by decide) rfl ?_
    refine z_aload_n C 1 dX7_readTable_12 rfl ?_
    refine z_get (v := .int (zI (td))) C (lt_K hN (rfl : Nat.blt (2) 952 = true)) hay1 hkvy15 rfl inA_X7 8 (by decide) q_52 rfl rfl dX7_readTable_13 ?_
    refine z_iload C 0 dX7_readTable_16 rfl ?_
    obtain ⟨xy159, exy160, hxy161⟩ := zI_of (zI (td) >>> (zI (z + 0) &&& 31))
    refine z_ishr (z := xy159) C dX7_readTable_18 exy160 ?_
    refine z_iconst (z := 1) C dX7_readTable_19 rfl ?_
    obtain ⟨xy162, exy163, hxy164⟩ := zI_and (zI (xy159)) (m := zI 1) 1 (by decide)
    refine z_iand (z := xy162) C dX7_readTable_20 exy163 ?_
    refine z_iconst (z := 1) C dX7_readTable_21 rfl ?_
    refine z_icmp_ne (tgt := 34) C dX7_readTable_22 (by decide) (by omega) (by omega) (fun hby165 => ?_) (fun hby165 => ?_)
    · refine z_aload_n C 1 dX7_readTable_34 rfl ?_
      refine z_iload_n C 4 dX7_readTable_35 rfl ?_
      refine z_iload C 5 dX7_readTable_36 rfl ?_
      have hgy167 := (hfvy15 (1) (by decide)).trans hgy14
      have hruny166 : okRun cs ad gvy15 (1) tp := ⟨_, _, _, _, _, _, _, by omega, by omega, hkvy15, hgy167⟩
      refine z_cV (As := [.int (zI (z1)), .int (zI (z2))]) (rest := []) (ci := 9) C (c_fNumber l D A cs tt N ad _ (by omega) _ tp hruny166 (by omega) (z1) (by omega) (z2) (by omega)) (lt_K hN (rfl : Nat.blt (2) 952 = true)) hay1 hkvy15 rfl rfl mv_yX7_number q_817 hd_yX7_number (by decide) (Nat.le_of_ble_eq_true rfl) (by decide) dX7_readTable_38 rfl (kI0 fun vy168 gvy168 hvy168 => ?_)
      obtain ⟨hvy168, rfl⟩ := hvy168
      refine z_istore (lv' := [(6, .int (zI (vy168))), (5, .int (zI (z + 0))), (0, .ref (ad 2)), (1, .ref (ad 883)), (2, .int (zI (z))), (3, .int (zI (z1))), (4, .int (zI (z2)))]) C dX7_readTable_41 (by decide) rfl ?_
      refine z_aload_n C 2 dX7_readTable_43 rfl ?_
      refine z_cV (As := []) (rest := []) (ci := 9) C (c_fClose l D A cs tt N ad _ (by omega) _ _ _ _ _ _ _ _ (by omega) (by omega) hkvy15) (lt_K hN (rfl : Nat.blt (2) 952 = true)) hay1 hkvy15 rfl rfl mv_yX7_close q_821 hd_yX7_close (by decide) (Nat.le_of_ble_eq_true rfl) (by decide) dX7_readTable_44 rfl (kV0 fun gvy169 hvy169 => ?_)
      obtain rfl := hvy169
      refine z_aload_n C 2 dX7_readTable_47 rfl ?_
      refine z_get (v := .int (zI (1))) C (lt_K hN (rfl : Nat.blt (2) 952 = true)) hay1 hkvy15 rfl inA_X7 1 (by decide) q_45 rfl rfl dX7_readTable_48 ?_
      refine z_if_ne (tgt := 76) C dX7_readTable_51 (by decide) (by omega) (fun _ => ?_) (fun h => absurd h (by omega))
      have hgy170 := (hfvy10 (883) (by decide)).trans hP.1
      have hgy171 := (hfvy15 (883) (by decide)).trans hgy170
      have hgy172 := (hfvy10 (883 + 1) (by omega)).trans hP.2.1
      have hgy173 := (hfvy15 (883 + 1) (by omega)).trans hgy172
      have hgy174 := (hfvy10 (883 + 2) (by omega)).trans hP.2.2.1
      have hgy175 := (hfvy15 (883 + 2) (by omega)).trans hgy174
      have hgy176 := (hfvy10 (883 + 3) (by omega)).trans hP.2.2.2.1
      have hgy177 := (hfvy15 (883 + 3) (by omega)).trans hgy176
      have hgy178 := (hfvy10 (883 + 4) (by omega)).trans hP.2.2.2.2.1
      have hgy179 := (hfvy15 (883 + 4) (by omega)).trans hgy178
      have hgy180 := (hfvy10 (883 + 5) (by omega)).trans hP.2.2.2.2.2.1
      have hgy181 := (hfvy15 (883 + 5) (by omega)).trans hgy180
      have hgy182 := (hfvy10 (883 + 6) (by omega)).trans hP.2.2.2.2.2.2
      have hgy183 := (hfvy15 (883 + 6) (by omega)).trans hgy182
      exact z_vret C hr hlk dX7_readTable_76 (by decide) (by decide) ⟨rfl, rfl, rfl, Or.inr ⟨(1, (tk_nx T n f)), by simp only [cl_fin, cl_table, if_pos hnvy15], ⟨by show 1 ≤ 1 ∧ 1 ≤ 5; omega, _, _, _, _, _, _, by omega, by omega, hkvy15, hgy167⟩, ⟨hgy171, hgy173, hgy175, hgy177, hgy179, hgy181, hgy183⟩⟩, fun j j1 j2 => by rw [hfvy15 _ (by omega)]; rw [hfvy10 _ (by omega)]⟩
    · refine z_aload_n C 1 dX7_readTable_25 rfl ?_
      refine z_iconst (z := 4) C dX7_readTable_26 rfl ?_
      refine z_aload_n C 1 dX7_readTable_27 rfl ?_
      refine z_get (v := .int (zI ((f : Int)))) C (lt_K hN (rfl : Nat.blt (2) 952 = true)) hay1 hkvy15 rfl inA_X7 7 (by decide) q_51 rfl rfl dX7_readTable_28 ?_
      refine z_cV (As := [.int (zI (4)), .int (zI ((f : Int)))]) (rest := []) (ci := 9) C (c_fFail l D A cs tt N ad _ (by omega) _ _ _ _ _ _ _ _ (by omega) hkvy15 (4) ((f : Int))) (lt_K hN (rfl : Nat.blt (2) 952 = true)) hay1 hkvy15 rfl rfl mv_yX7_fail q_809 hd_yX7_fail (by decide) (Nat.le_of_ble_eq_true rfl) (by decide) dX7_readTable_31 rfl (kV0 fun gvy184 hvy184 => ?_)
      obtain rfl := hvy184
      refine z_aload_n C 1 dX7_readTable_34 rfl ?_
      refine z_iload_n C 4 dX7_readTable_35 rfl ?_
      refine z_iload C 5 dX7_readTable_36 rfl ?_
      have hgy186 := (hfvy15 (1) (by decide)).trans hgy14
      have hruny185 : okRun cs ad gvy15 (1) tp := ⟨_, _, _, _, _, _, _, by omega, by omega, hkvy15, hgy186⟩
      refine z_cV (As := [.int (zI (z1)), .int (zI (z2))]) (rest := []) (ci := 9) C (c_fNumber l D A cs tt N ad _ (by omega) _ tp hruny185 (by omega) (z1) (by omega) (z2) (by omega)) (lt_K hN (rfl : Nat.blt (2) 952 = true)) hay1 hkvy15 rfl rfl mv_yX7_number q_817 hd_yX7_number (by decide) (Nat.le_of_ble_eq_true rfl) (by decide) dX7_readTable_38 rfl (kI0 fun vy187 gvy187 hvy187 => ?_)
      obtain ⟨hvy187, rfl⟩ := hvy187
      refine z_istore (lv' := [(6, .int (zI (vy187))), (5, .int (zI (z + 0))), (0, .ref (ad 2)), (1, .ref (ad 883)), (2, .int (zI (z))), (3, .int (zI (z1))), (4, .int (zI (z2)))]) C dX7_readTable_41 (by decide) rfl ?_
      refine z_aload_n C 2 dX7_readTable_43 rfl ?_
      refine z_cV (As := []) (rest := []) (ci := 9) C (c_fClose l D A cs tt N ad _ (by omega) _ _ _ _ _ _ _ _ (by omega) (by omega) hkvy15) (lt_K hN (rfl : Nat.blt (2) 952 = true)) hay1 hkvy15 rfl rfl mv_yX7_close q_821 hd_yX7_close (by decide) (Nat.le_of_ble_eq_true rfl) (by decide) dX7_readTable_44 rfl (kV0 fun gvy188 hvy188 => ?_)
      obtain rfl := hvy188
      refine z_aload_n C 2 dX7_readTable_47 rfl ?_
      refine z_get (v := .int (zI (1))) C (lt_K hN (rfl : Nat.blt (2) 952 = true)) hay1 hkvy15 rfl inA_X7 1 (by decide) q_45 rfl rfl dX7_readTable_48 ?_
      refine z_if_ne (tgt := 76) C dX7_readTable_51 (by decide) (by omega) (fun _ => ?_) (fun h => absurd h (by omega))
      have hgy189 := (hfvy10 (883) (by decide)).trans hP.1
      have hgy190 := (hfvy15 (883) (by decide)).trans hgy189
      have hgy191 := (hfvy10 (883 + 1) (by omega)).trans hP.2.1
      have hgy192 := (hfvy15 (883 + 1) (by omega)).trans hgy191
      have hgy193 := (hfvy10 (883 + 2) (by omega)).trans hP.2.2.1
      have hgy194 := (hfvy15 (883 + 2) (by omega)).trans hgy193
      have hgy195 := (hfvy10 (883 + 3) (by omega)).trans hP.2.2.2.1
      have hgy196 := (hfvy15 (883 + 3) (by omega)).trans hgy195
      have hgy197 := (hfvy10 (883 + 4) (by omega)).trans hP.2.2.2.2.1
      have hgy198 := (hfvy15 (883 + 4) (by omega)).trans hgy197
      have hgy199 := (hfvy10 (883 + 5) (by omega)).trans hP.2.2.2.2.2.1
      have hgy200 := (hfvy15 (883 + 5) (by omega)).trans hgy199
      have hgy201 := (hfvy10 (883 + 6) (by omega)).trans hP.2.2.2.2.2.2
      have hgy202 := (hfvy15 (883 + 6) (by omega)).trans hgy201
      exact z_vret C hr hlk dX7_readTable_76 (by decide) (by decide) ⟨rfl, rfl, rfl, Or.inr ⟨(1, (tk_nx T n f)), by simp only [cl_fin, cl_table, if_pos hnvy15], ⟨by show 1 ≤ 1 ∧ 1 ≤ 5; omega, _, _, _, _, _, _, by omega, by omega, hkvy15, hgy186⟩, ⟨hgy190, hgy192, hgy194, hgy196, hgy198, hgy200, hgy202⟩⟩, fun j j1 j2 => by rw [hfvy15 _ (by omega)]; rw [hfvy10 _ (by omega)]⟩
end
section
-- 70ng.xlay.lean.txt
/-- a layer put on -/
def la_ (r : Nat → Int) (sz z z1 z2 z3 z4 z5 : Int) : Nat → Int := uZ (uZ (uZ (uZ (uZ (uZ (uZ (r) ((0 + sz).toNat) (z)) ((12 + sz).toNat) (z1)) ((24 + sz).toNat) (z2)) ((36 + sz).toNat) (z3)) ((48 + sz).toNat) (z4)) ((60 + sz).toNat) (0)) ((72 + sz).toNat) (z5)
set_option maxRecDepth 100000 in
set_option maxHeartbeats 4000000 in
theorem c_xAdd (l : Launch) (D : va_G) (A : Nat → Prop) (cs : Nat → ClassId) (tt : Nat) (N : Nat) (ad : Nat → Nat) (g : Nat → va_E) (a : Nat) (hN : a + 2 ≤ N) (sz ro : Int) (r : Nat → Int) (hz : 0 ≤ sz ∧ sz ≤ 12) (ha : isPack cs ad g a sz ro r) (h12 : sz < 12) (z : Int) (z1 : Int) (z2 : Int) (z3 : Int) (z4 : Int) (z5 : Int) : zM l yX3_add cX3_add 7 none ({ frames := 1, cells := 0, slots := 0, locals := 60 } : Room) D A cs tt N ad g [.ref (ad a), .int (zI (z)), .int (zI (z1)), .int (zI (z2)), .int (zI (z3)), .int (zI (z4)), .int (zI (z5))] (rV0 N ad fun g' => isPack cs ad g' a (sz + 1) ro (la_ r sz z z1 z2 z3 z4 z5) ∧ ∀ j, j ≠ a → j ≠ a + 1 → g' j = g j) := by
  have hay1 : zAt ad (a) (ad a) := rfl
  have hay2 : zAt ad (a + 1) (ad (a + 1)) := rfl
  refine z_of (by decide) (Nat.le_of_ble_eq_true rfl) ?_
  intro p e s m below meth c C hr hlk hnm
  refine z_lv (lv' := [(0, .ref (ad a)), (1, .int (zI (z))), (2, .int (zI (z1))), (3, .int (zI (z2))), (4, .int (zI (z3))), (5, .int (zI (z4))), (6, .int (zI (z5)))]) [0, 1, 2, 3, 4, 5, 6] rfl ?_
  refine z_aload_n C 0 dX3_add_0 rfl ?_
  refine z_get (v := .int (zI (sz))) C (lt_A0 hN rfl) hay1 ha.1 rfl inA_X3 0 (by decide) q_154 rfl rfl dX3_add_1 ?_
  refine z_bipush (z := 12) C dX3_add_4 (by decide) ?_
  refine z_icmp_ge (tgt := 112) C dX3_add_6 (by decide) (by omega) (by omega) (fun h => absurd h (by omega)) (fun _ => ?_)
  refine z_aload_n C 0 dX3_add_9 rfl ?_
  refine z_get (v := .ref (ad (a + 1))) C (lt_A0 hN rfl) hay1 ha.1 rfl inA_X3 2 (by decide) q_162 rfl rfl dX3_add_10 ?_
  refine z_iconst (z := 0) C dX3_add_13 rfl ?_
  refine z_aload_n C 0 dX3_add_14 rfl ?_
  refine z_get (v := .int (zI (sz))) C (lt_A0 hN rfl) hay1 ha.1 rfl inA_X3 0 (by decide) q_154 rfl rfl dX3_add_15 ?_
  refine z_iadd C dX3_add_18 ?_
  refine z_iload_n C 1 dX3_add_19 rfl ?_
  refine z_iast C (lt_A (c := 1) hN rfl) hay2 ha.2 ((0 + sz).toNat) (by omega) (by omega) (by decide) dX3_add_20 (fun gy3 egy4 => ?_)
  have hgy5 := up_s egy4
  refine z_aload_n C 0 dX3_add_21 rfl ?_
  have hgy6 := up_n egy4 ha.1 (ne_o (i := a) (c := 0) (d := 1) rfl)
  refine z_get (v := .ref (ad (a + 1))) C (lt_A0 hN rfl) hay1 hgy6 rfl inA_X3 2 (by decide) q_162 rfl rfl dX3_add_22 ?_
  refine z_bipush (z := 12) C dX3_add_25 (by decide) ?_
  refine z_aload_n C 0 dX3_add_27 rfl ?_
  refine z_get (v := .int (zI (sz))) C (lt_A0 hN rfl) hay1 hgy6 rfl inA_X3 0 (by decide) q_154 rfl rfl dX3_add_28 ?_
  refine z_iadd C dX3_add_31 ?_
  refine z_iload_n C 2 dX3_add_32 rfl ?_
  refine z_iast C (lt_A (c := 1) hN rfl) hay2 hgy5 ((12 + sz).toNat) (by omega) (by omega) (by decide) dX3_add_33 (fun gy7 egy8 => ?_)
  have hgy9 := up_s egy8
  refine z_aload_n C 0 dX3_add_34 rfl ?_
  have hgy10 := up_n egy8 hgy6 (ne_o (i := a) (c := 0) (d := 1) rfl)
  refine z_get (v := .ref (ad (a + 1))) C (lt_A0 hN rfl) hay1 hgy10 rfl inA_X3 2 (by decide) q_162 rfl rfl dX3_add_35 ?_
  refine z_bipush (z := 24) C dX3_add_38 (by decide) ?_
  refine z_aload_n C 0 dX3_add_40 rfl ?_
  refine z_get (v := .int (zI (sz))) C (lt_A0 hN rfl) hay1 hgy10 rfl inA_X3 0 (by decide) q_154 rfl rfl dX3_add_41 ?_
  refine z_iadd C dX3_add_44 ?_
  refine z_iload_n C 3 dX3_add_45 rfl ?_
  refine z_iast C (lt_A (c := 1) hN rfl) hay2 hgy9 ((24 + sz).toNat) (by omega) (by omega) (by decide) dX3_add_46 (fun gy11 egy12 => ?_)
  have hgy13 := up_s egy12
  refine z_aload_n C 0 dX3_add_47 rfl ?_
  have hgy14 := up_n egy12 hgy10 (ne_o (i := a) (c := 0) (d := 1) rfl)
  refine z_get (v := .ref (ad (a + 1))) C (lt_A0 hN rfl) hay1 hgy14 rfl inA_X3 2 (by decide) q_162 rfl rfl dX3_add_48 ?_
  refine z_bipush (z := 36) C dX3_add_51 (by decide) ?_
  refine z_aload_n C 0 dX3_add_53 rfl ?_
  refine z_get (v := .int (zI (sz))) C (lt_A0 hN rfl) hay1 hgy14 rfl inA_X3 0 (by decide) q_154 rfl rfl dX3_add_54 ?_
  refine z_iadd C dX3_add_57 ?_
  refine z_iload C 4 dX3_add_58 rfl ?_
  refine z_iast C (lt_A (c := 1) hN rfl) hay2 hgy13 ((36 + sz).toNat) (by omega) (by omega) (by decide) dX3_add_60 (fun gy15 egy16 => ?_)
  have hgy17 := up_s egy16
  refine z_aload_n C 0 dX3_add_61 rfl ?_
  have hgy18 := up_n egy16 hgy14 (ne_o (i := a) (c := 0) (d := 1) rfl)
  refine z_get (v := .ref (ad (a + 1))) C (lt_A0 hN rfl) hay1 hgy18 rfl inA_X3 2 (by decide) q_162 rfl rfl dX3_add_62 ?_
  refine z_bipush (z := 48) C dX3_add_65 (by decide) ?_
  refine z_aload_n C 0 dX3_add_67 rfl ?_
  refine z_get (v := .int (zI (sz))) C (lt_A0 hN rfl) hay1 hgy18 rfl inA_X3 0 (by decide) q_154 rfl rfl dX3_add_68 ?_
  refine z_iadd C dX3_add_71 ?_
  refine z_iload C 5 dX3_add_72 rfl ?_
  refine z_iast C (lt_A (c := 1) hN rfl) hay2 hgy17 ((48 + sz).toNat) (by omega) (by omega) (by decide) dX3_add_74 (fun gy19 egy20 => ?_)
  have hgy21 := up_s egy20
  refine z_aload_n C 0 dX3_add_75 rfl ?_
  have hgy22 := up_n egy20 hgy18 (ne_o (i := a) (c := 0) (d := 1) rfl)
  refine z_get (v := .ref (ad (a + 1))) C (lt_A0 hN rfl) hay1 hgy22 rfl inA_X3 2 (by decide) q_162 rfl rfl dX3_add_76 ?_
  refine z_bipush (z := 60) C dX3_add_79 (by decide) ?_
  refine z_aload_n C 0 dX3_add_81 rfl ?_
  refine z_get (v := .int (zI (sz))) C (lt_A0 hN rfl) hay1 hgy22 rfl inA_X3 0 (by decide) q_154 rfl rfl dX3_add_82 ?_
  refine z_iadd C dX3_add_85 ?_
  refine z_iconst (z := 0) C dX3_add_86 rfl ?_
  refine z_iast C (lt_A (c := 1) hN rfl) hay2 hgy21 ((60 + sz).toNat) (by omega) (by omega) (by decide) dX3_add_87 (fun gy23 egy24 => ?_)
  have hgy25 := up_s egy24
  refine z_aload_n C 0 dX3_add_88 rfl ?_
  have hgy26 := up_n egy24 hgy22 (ne_o (i := a) (c := 0) (d := 1) rfl)
  refine z_get (v := .ref (ad (a + 1))) C (lt_A0 hN rfl) hay1 hgy26 rfl inA_X3 2 (by decide) q_162 rfl rfl dX3_add_89 ?_
  refine z_bipush (z := 72) C dX3_add_92 (by decide) ?_
  refine z_aload_n C 0 dX3_add_94 rfl ?_
  refine z_get (v := .int (zI (sz))) C (lt_A0 hN rfl) hay1 hgy26 rfl inA_X3 0 (by decide) q_154 rfl rfl dX3_add_95 ?_
  refine z_iadd C dX3_add_98 ?_
  refine z_iload C 6 dX3_add_99 rfl ?_
  refine z_iast C (lt_A (c := 1) hN rfl) hay2 hgy25 ((72 + sz).toNat) (by omega) (by omega) (by decide) dX3_add_101 (fun gy27 egy28 => ?_)
  have hgy29 := up_s egy28
  refine z_aload_n C 0 dX3_add_102 rfl ?_
  refine z_dup C dX3_add_103 rfl ?_
  have hgy30 := up_n egy28 hgy26 (ne_o (i := a) (c := 0) (d := 1) rfl)
  refine z_get (v := .int (zI (sz))) C (lt_A0 hN rfl) hay1 hgy30 rfl inA_X3 0 (by decide) q_154 rfl rfl dX3_add_104 ?_
  refine z_iconst (z := 1) C dX3_add_107 rfl ?_
  refine z_iadd C dX3_add_108 ?_
  refine z_put (fs' := [.int (zI (sz + 1)), .int (zI (ro)), .ref (ad (a + 1))]) C (lt_A0 hN rfl) hay1 hgy30 tyX3 tyX3_ok nmX3 rfl inA_X3 0 (by decide) q_154 rfl rfl rfl rfl (Nat.le_of_ble_eq_true rfl) rfl dX3_add_109 (fun gy31 egy32 => ?_)
  have hgy33 := up_s egy32
  have hgy34 := up_n egy32 hgy29 (ne_o (i := a) (c := 1) (d := 0) rfl)
  exact z_vret C hr hlk dX3_add_112 (by decide) (by decide) ⟨rfl, rfl, rfl, ⟨hgy33, hgy34⟩, fun j j1 j2 => by rw [egy32, va_up_ne _ _ (by omega)]; rw [egy28, va_up_ne _ _ (by omega)]; rw [egy24, va_up_ne _ _ (by omega)]; rw [egy20, va_up_ne _ _ (by omega)]; rw [egy16, va_up_ne _ _ (by omega)]; rw [egy12, va_up_ne _ _ (by omega)]; rw [egy8, va_up_ne _ _ (by omega)]; rw [egy4, va_up_ne _ _ (by omega)]⟩

theorem isWorld.lay {cs : Nat → ClassId} {ad : Nat → Nat} {g g' : Nat → va_E} {a k : Nat} {t z o : Nat → Int} {r : Nat → Nat → Int} (hk : k < 4) (h : isWorld cs ad g a t z o r) (hG : ∀ j, a ≤ j → j < a + 10 → j ≠ a → j ≠ a + 2 + 2 * k → j ≠ a + 2 + 2 * k + 1 → g' j = g j) {s' o' x1 : Int} {r' : Nat → Int} (hp : isPack cs ad g' (a + 2 + 2 * k) s' o' r') (hh : g' a = oC 10 [.int (zI (t 0)), .int (zI x1), .int (zI (t 2)), .int (zI (t 3)), .int (zI (t 4)), .int (zI (t 5)), .ref (ad (a + 1))]) : isWorld cs ad g' a (uZ t 1 x1) (uZ z k s') (uZ o k o') (fun j => if j = k then r' else r j) := by
  obtain ⟨h1, ⟨u, h2, h3⟩, h4⟩ := h
  refine ⟨hh, ⟨u, (hG _ (by omega) (by omega) (by omega) (by omega) (by omega)).trans h2, h3⟩, fun j hj => ?_⟩
  by_cases e : j = k
  · subst e
    rw [uZ_s, uZ_s]
    show isPack cs ad g' _ s' o' (if j = j then r' else r j)
    rw [if_pos rfl]
    exact hp
  · rw [uZ_n _ _ e, uZ_n _ _ e]
    show isPack cs ad g' _ (z j) (o j) (if j = k then r' else r j)
    rw [if_neg e]
    exact (h4 j hj).mv (fun _ _ _ => rfl) (fun i b1 b2 => hG i (by omega) (by omega) (by omega) (by omega) (by omega))

set_option maxRecDepth 100000 in
set_option maxHeartbeats 4000000 in
theorem c_xLayer (l : Launch) (D : va_G) (A : Nat → Prop) (cs : Nat → ClassId) (tt : Nat) (N : Nat) (ad : Nat → Nat) (g : Nat → va_E) (hN : 952 ≤ N) (pl tk td : Int) (tp T : Nat → Int) (hT : xT tp T) (n : Nat) (hn : n ≤ 900) (f : Nat) (hf : f ≤ n) (hg2 : g 2 = rdC ad (pl) (0) ((n : Int)) (tk_so T n f) ((f : Int)) (((tk_to T n f : Nat) : Int)) (tk) (td)) (hg1 : g 1 = bA cs 900 tp) (sl ho ua : Int) (st op ai fa mu tb : Nat → Int) (hP : isPlan cs ad g 883 sl ho ua st op ai fa mu tb) (hsl : 0 ≤ sl ∧ sl ≤ 4) (hho : 0 ≤ ho ∧ ho ≤ 24) (wt wz wo : Nat → Int) (wr : Nat → Nat → Int) (hW : isWorld cs ad g 890 wt wz wo wr) (wz4 : ∀ k, k < 4 → 0 ≤ wz k ∧ wz k ≤ 12) : zM l yX7_readLayer cX7_readLayer 9 none ({ frames := 7, cells := 0, slots := 0, locals := 420 } : Room) D A cs tt N ad g [.ref (ad 2), .ref (ad 883), .ref (ad 890)] (rV0 N ad fun g' => ((∃ v, cl_fin T n (cl_layer T n sl wz f) = .ok v ∧ ((f < n → f < v.2) ∧ v.2 ≤ n) ∧ (∃ tk' : Int, g' 2 = rdC ad (pl) (0) ((n : Int)) (tk_so T n v.2) ((v.2 : Int)) (((tk_to T n v.2 : Nat) : Int)) (tk') (td)) ∧ isPlan cs ad g' 883 sl ho ua st op ai fa mu tb ∧ (0 ≤ v.1.1 ∧ v.1.1 < sl ∧ wz v.1.1.toNat < 12) ∧ isWorld cs ad g' 890 (uZ wt 1 (wt 1 + 1)) (uZ wz v.1.1.toNat (wz v.1.1.toNat + 1)) (uZ wo v.1.1.toNat (wo v.1.1.toNat)) (fun j => if j = v.1.1.toNat then la_ (wr v.1.1.toNat) (wz v.1.1.toNat) v.1.2.1 v.1.2.2.1 v.1.2.2.2.1 v.1.2.2.2.2.1 v.1.2.2.2.2.2 (wt 1) else wr j)) ∨ (∃ e : Int × Nat, cl_fin T n (cl_layer T n sl wz f) = .error e ∧ xFl cs ad g' e.1 (e.2 : Int) tp ∧ isPlan cs ad g' 883 sl ho ua st op ai fa mu tb ∧ isWorld cs ad g' 890 wt wz wo wr)) ∧ ∀ j, j ≠ 2 → (j < 883 ∨ 900 ≤ j) → g' j = g j) := by
  have hay1 : zAt ad (2) (ad 2) := rfl
  have hay2 : zAt ad (1) (ad 1) := rfl
  have hTr : ∀ k, k < 900 → -128 ≤ tp k ∧ tp k ≤ 127 := fun k hk => (hT k hk).2.1
  have hsb := tk_so_b T n f
  have htb := tk_to_b (T := T) hf
  have hay3 : zAt ad (883) (ad 883) := rfl
  have hay4 : zAt ad (883 + 1) (ad (883 + 1)) := rfl
  have hay5 : zAt ad (883 + 2) (ad (883 + 2)) := rfl
  have hay6 : zAt ad (883 + 3) (ad (883 + 3)) := rfl
  have hay7 : zAt ad (883 + 4) (ad (883 + 4)) := rfl
  have hay8 : zAt ad (883 + 5) (ad (883 + 5)) := rfl
  have hay9 : zAt ad (883 + 6) (ad (883 + 6)) := rfl
  obtain ⟨w1, ⟨wu, w2, w3⟩, w4⟩ := id hW
  have hay10 : zAt ad (890) (ad 890) := rfl
  have hay11 : zAt ad (890 + 1) (ad (890 + 1)) := rfl
  refine z_of (by decide) (Nat.le_of_ble_eq_true rfl) ?_
  intro p e s m below meth c C hr hlk hnm
  refine z_lv (lv' := [(0, .ref (ad 2)), (1, .ref (ad 883)), (2, .ref (ad 890))]) [0, 1, 2] rfl ?_
  refine z_aload_n C 0 dX7_readLayer_0 rfl ?_
  refine z_cV (As := []) (rest := []) (ci := 9) C (c_xTake l D A cs tt N ad _ (by omega) _ _ _ tp T hT n hn f (by omega) hg2 hg1) (lt_K hN (rfl : Nat.blt (2) 952 = true)) hay1 hg2 rfl rfl mv_yX7_take q_813 hd_yX7_take (by decide) (Nat.le_of_ble_eq_true rfl) (by decide) dX7_readLayer_1 rfl (kV0 fun gvy12 hvy12 => ?_)
  obtain ⟨hkvy12, hfvy12⟩ := hvy12
  have hnby13 := tk_nx_b (T := T) (n := n) (f := f) (by omega)
  have hsby14 := tk_so_b T n (tk_nx T n f)
  have htby15 := tk_to_b (T := T) (n := n) (f := (tk_nx T n f)) (by omega)
  refine z_aload_n C 0 dX7_readLayer_4 rfl ?_
  refine z_iconst (z := 0) C dX7_readLayer_5 rfl ?_
  refine z_iconst (z := 3) C dX7_readLayer_6 rfl ?_
  have hgy16 := (hfvy12 (1) (by decide)).trans hg1
  refine z_cV (As := [.int (zI (0)), .int (zI (3))]) (rest := []) (ci := 9) C (c_xNumber l D A cs tt N ad _ (by omega) _ _ _ tp T hT n hn (tk_nx T n f) (by omega) hkvy12 hgy16 (0) (3) (by omega)) (lt_K hN (rfl : Nat.blt (2) 952 = true)) hay1 hkvy12 rfl rfl mv_yX7_number q_817 hd_yX7_number (by decide) (Nat.le_of_ble_eq_true rfl) (by decide) dX7_readLayer_7 rfl (kI0 fun vy17 gvy17 hvy17 => ?_)
  obtain ⟨hvy17, hfvy17⟩ := hvy17
  rcases hvy17 with hvy17 | hvy17
  · obtain ⟨hnvy17, hrvy17, hkvy17⟩ := hvy17
    have hnby18 := tk_nx_b (T := T) (n := n) (f := (tk_nx T n f)) (by omega)
    have hsby19 := tk_so_b T n (tk_nx T n (tk_nx T n f))
    have htby20 := tk_to_b (T := T) (n := n) (f := (tk_nx T n (tk_nx T n f))) (by omega)
    refine z_istore_n (lv' := [(3, .int (zI (vy17))), (0, .ref (ad 2)), (1, .ref (ad 883)), (2, .ref (ad 890))]) C dX7_readLayer_10 rfl (by decide) rfl ?_
    refine z_iload_n C 0 dX7_readLayer_11 rfl ?_
    refine z_aload_n C 2 dX7_readLayer_12 rfl ?_
    have hgy21 := (hfvy12 (883) (by decide)).trans hP.1
    have hgy22 := (hfvy17 (883) (by decide)).trans hgy21
    refine z_get (v := .int (zI (sl))) C (lt_K hN (rfl : Nat.blt (883) 952 = true)) hay3 hgy22 rfl inA_X5 0 (by decide) q_89 rfl rfl dX7_readLayer_13 ?_
    refine z_icmp_lt (tgt := 31) C dX7_readLayer_16 (by decide) (by omega) (by omega) (fun hby23 => ?_) (fun hby23 => ?_)
    · have hscy24 : ¬ (sl ≤ vy17) := by omega
      refine z_aload_n C 3 dX7_readLayer_31 rfl ?_
      have hgy25 := (hfvy12 (890) (by decide)).trans w1
      have hgy26 := (hfvy17 (890) (by decide)).trans hgy25
      refine z_get (v := .ref (ad (890 + 1))) C (lt_K hN (rfl : Nat.blt (890) 952 = true)) hay10 hgy26 rfl inA_X8 6 (by decide) q_189 rfl rfl dX7_readLayer_32 ?_
      refine z_iload_n C 0 dX7_readLayer_35 rfl ?_
      have hgy27 := (hfvy12 (890 + 1) (by omega)).trans w2
      have hgy28 := (hfvy17 (890 + 1) (by omega)).trans hgy27
      refine z_aald C (lt_K hN (rfl : Nat.blt (890 + 1) 952 = true)) hay11 hgy28 3 rfl ((vy17).toNat) (by omega) (by omega) (by decide) (w3 (vy17).toNat (by omega)) dX7_readLayer_36 ?_
      have hay29 : zAt ad (890 + 2 + 2 * (vy17).toNat) (ad (890 + 2 + 2 * (vy17).toNat)) := rfl
      have hay30 : zAt ad (890 + 2 + 2 * (vy17).toNat + 1) (ad (890 + 2 + 2 * (vy17).toNat + 1)) := rfl
      have hpy31 := w4 (vy17).toNat (by omega)
      have hqy32 := wz4 (vy17).toNat (by omega)
      have hgy33 := (hfvy12 (890 + 2 + 2 * (vy17).toNat) (by omega)).trans hpy31.1
      have hgy34 := (hfvy17 (890 + 2 + 2 * (vy17).toNat) (by omega)).trans hgy33
      refine z_get (v := .int (zI (wz (vy17).toNat))) C (by omega) hay29 hgy34 rfl inA_X3 0 (by decide) q_157 rfl rfl dX7_readLayer_37 ?_
      refine z_bipush (z := 12) C dX7_readLayer_40 (by decide) ?_
      refine z_icmp_lt (tgt := 54) C dX7_readLayer_42 (by decide) (by omega) (by omega) (fun hby35 => ?_) (fun hby35 => ?_)
      · have hscy36 : ¬ (12 ≤ wz (vy17).toNat) := by omega
        refine z_aload_n C 1 dX7_readLayer_54 rfl ?_
        have hgy37 := (hfvy17 (1) (by decide)).trans hgy16
        refine z_cV (As := []) (rest := []) (ci := 9) C (c_xKind l D A cs tt N ad _ (by omega) _ _ _ tp T hT n hn (tk_nx T n (tk_nx T n f)) (by omega) hkvy17 hgy37) (lt_K hN (rfl : Nat.blt (2) 952 = true)) hay1 hkvy17 rfl rfl mv_yX7_kind q_830 hd_yX7_kind (by decide) (Nat.le_of_ble_eq_true rfl) (by decide) dX7_readLayer_55 rfl (kI0 fun vy38 gvy38 hvy38 => ?_)
        obtain ⟨hvy38, hfvy38⟩ := hvy38
        rcases hvy38 with hvy38 | hvy38
        · obtain ⟨hnvy38, hrvy38, hkvy38⟩ := hvy38
          have hnby39 := tk_nx_b (T := T) (n := n) (f := (tk_nx T n (tk_nx T n f))) (by omega)
          have hsby40 := tk_so_b T n (tk_nx T n (tk_nx T n (tk_nx T n f)))
          have htby41 := tk_to_b (T := T) (n := n) (f := (tk_nx T n (tk_nx T n (tk_nx T n f)))) (by omega)
          subst hnvy38
          have hnevy38 : ¬ tk_kd T n (tk_nx T n (tk_nx T n f)) = -1 := by omega
          refine z_istore (lv' := [(4, .int (zI (tk_kd T n (tk_nx T n (tk_nx T n f))))), (3, .int (zI (vy17))), (0, .ref (ad 2)), (1, .ref (ad 883)), (2, .ref (ad 890))]) C dX7_readLayer_58 (by decide) rfl ?_
          refine z_aload_n C 2 dX7_readLayer_60 rfl ?_
          refine z_iconst (z := 1) C dX7_readLayer_61 rfl ?_
          refine z_bipush (z := 99) C dX7_readLayer_62 (by decide) ?_
          have hgy42 := (hfvy38 (1) (by decide)).trans hgy37
          refine z_cV (As := [.int (zI (1)), .int (zI (99))]) (rest := []) (ci := 9) C (c_xNumber l D A cs tt N ad _ (by omega) _ _ _ tp T hT n hn (tk_nx T n (tk_nx T n (tk_nx T n f))) (by omega) hkvy38 hgy42 (1) (99) (by omega)) (lt_K hN (rfl : Nat.blt (2) 952 = true)) hay1 hkvy38 rfl rfl mv_yX7_number q_817 hd_yX7_number (by decide) (Nat.le_of_ble_eq_true rfl) (by decide) dX7_readLayer_64 rfl (kI0 fun vy43 gvy43 hvy43 => ?_)
          obtain ⟨hvy43, hfvy43⟩ := hvy43
          rcases hvy43 with hvy43 | hvy43
          · obtain ⟨hnvy43, hrvy43, hkvy43⟩ := hvy43
            have hnby44 := tk_nx_b (T := T) (n := n) (f := (tk_nx T n (tk_nx T n (tk_nx T n f)))) (by omega)
            have hsby45 := tk_so_b T n (tk_nx T n (tk_nx T n (tk_nx T n (tk_nx T n f))))
            have htby46 := tk_to_b (T := T) (n := n) (f := (tk_nx T n (tk_nx T n (tk_nx T n (tk_nx T n f))))) (by omega)
            refine z_istore (lv' := [(5, .int (zI (vy43))), (4, .int (zI (tk_kd T n (tk_nx T n (tk_nx T n f))))), (3, .int (zI (vy17))), (0, .ref (ad 2)), (1, .ref (ad 883)), (2, .ref (ad 890))]) C dX7_readLayer_67 (by decide) rfl ?_
            refine z_aload_n C 3 dX7_readLayer_69 rfl ?_
            refine z_iconst (z := 0) C dX7_readLayer_70 rfl ?_
            refine z_bipush (z := 99) C dX7_readLayer_71 (by decide) ?_
            have hgy47 := (hfvy43 (1) (by decide)).trans hgy42
            refine z_cV (As := [.int (zI (0)), .int (zI (99))]) (rest := []) (ci := 9) C (c_xNumber l D A cs tt N ad _ (by omega) _ _ _ tp T hT n hn (tk_nx T n (tk_nx T n (tk_nx T n (tk_nx T n f)))) (by omega) hkvy43 hgy47 (0) (99) (by omega)) (lt_K hN (rfl : Nat.blt (2) 952 = true)) hay1 hkvy43 rfl rfl mv_yX7_number q_817 hd_yX7_number (by decide) (Nat.le_of_ble_eq_true rfl) (by decide) dX7_readLayer_73 rfl (kI0 fun vy48 gvy48 hvy48 => ?_)
            obtain ⟨hvy48, hfvy48⟩ := hvy48
            rcases hvy48 with hvy48 | hvy48
            · obtain ⟨hnvy48, hrvy48, hkvy48⟩ := hvy48
              have hnby49 := tk_nx_b (T := T) (n := n) (f := (tk_nx T n (tk_nx T n (tk_nx T n (tk_nx T n f))))) (by omega)
              have hsby50 := tk_so_b T n (tk_nx T n (tk_nx T n (tk_nx T n (tk_nx T n (tk_nx T n f)))))
              have htby51 := tk_to_b (T := T) (n := n) (f := (tk_nx T n (tk_nx T n (tk_nx T n (tk_nx T n (tk_nx T n f)))))) (by omega)
              refine z_istore (lv' := [(6, .int (zI (vy48))), (5, .int (zI (vy43))), (4, .int (zI (tk_kd T n (tk_nx T n (tk_nx T n f))))), (3, .int (zI (vy17))), (0, .ref (ad 2)), (1, .ref (ad 883)), (2, .ref (ad 890))]) C dX7_readLayer_76 (by decide) rfl ?_
              refine z_aload_n C 4 dX7_readLayer_78 rfl ?_
              refine z_iconst (z := 1) C dX7_readLayer_79 rfl ?_
              refine z_sipush (z := 999) C dX7_readLayer_80 (by decide) ?_
              have hgy52 := (hfvy48 (1) (by decide)).trans hgy47
              refine z_cV (As := [.int (zI (1)), .int (zI (999))]) (rest := []) (ci := 9) C (c_xNumber l D A cs tt N ad _ (by omega) _ _ _ tp T hT n hn (tk_nx T n (tk_nx T n (tk_nx T n (tk_nx T n (tk_nx T n f))))) (by omega) hkvy48 hgy52 (1) (999) (by omega)) (lt_K hN (rfl : Nat.blt (2) 952 = true)) hay1 hkvy48 rfl rfl mv_yX7_number q_817 hd_yX7_number (by decide) (Nat.le_of_ble_eq_true rfl) (by decide) dX7_readLayer_83 rfl (kI0 fun vy53 gvy53 hvy53 => ?_)
              obtain ⟨hvy53, hfvy53⟩ := hvy53
              rcases hvy53 with hvy53 | hvy53
              · obtain ⟨hnvy53, hrvy53, hkvy53⟩ := hvy53
                have hnby54 := tk_nx_b (T := T) (n := n) (f := (tk_nx T n (tk_nx T n (tk_nx T n (tk_nx T n (tk_nx T n f)))))) (by omega)
                have hsby55 := tk_so_b T n (tk_nx T n (tk_nx T n (tk_nx T n (tk_nx T n (tk_nx T n (tk_nx T n f))))))
                have htby56 := tk_to_b (T := T) (n := n) (f := (tk_nx T n (tk_nx T n (tk_nx T n (tk_nx T n (tk_nx T n (tk_nx T n f))))))) (by omega)
                refine z_istore (lv' := [(7, .int (zI (vy53))), (6, .int (zI (vy48))), (5, .int (zI (vy43))), (4, .int (zI (tk_kd T n (tk_nx T n (tk_nx T n f))))), (3, .int (zI (vy17))), (0, .ref (ad 2)), (1, .ref (ad 883)), (2, .ref (ad 890))]) C dX7_readLayer_86 (by decide) rfl ?_
                refine z_iload C 0 dX7_readLayer_88 rfl ?_
                refine z_iload C 2 dX7_readLayer_90 rfl ?_
                refine z_iload C 1 dX7_readLayer_92 rfl ?_
                refine z_iadd C dX7_readLayer_94 ?_
                refine z_icmp_ge (tgt := 107) C dX7_readLayer_95 (by decide) (by omega) (by omega) (fun hby57 => ?_) (fun hby57 => ?_)
                · have hscy58 : ¬ (vy53 < vy43 + vy48) := by omega
                  refine z_aload_n C 5 dX7_readLayer_107 rfl ?_
                  refine z_iconst (z := 0) C dX7_readLayer_108 rfl ?_
                  refine z_sipush (z := 300) C dX7_readLayer_109 (by decide) ?_
                  have hgy59 := (hfvy53 (1) (by decide)).trans hgy52
                  refine z_cV (As := [.int (zI (0)), .int (zI (300))]) (rest := []) (ci := 9) C (c_xNumber l D A cs tt N ad _ (by omega) _ _ _ tp T hT n hn (tk_nx T n (tk_nx T n (tk_nx T n (tk_nx T n (tk_nx T n (tk_nx T n f)))))) (by omega) hkvy53 hgy59 (0) (300) (by omega)) (lt_K hN (rfl : Nat.blt (2) 952 = true)) hay1 hkvy53 rfl rfl mv_yX7_number q_817 hd_yX7_number (by decide) (Nat.le_of_ble_eq_true rfl) (by decide) dX7_readLayer_112 rfl (kI0 fun vy60 gvy60 hvy60 => ?_)
                  obtain ⟨hvy60, hfvy60⟩ := hvy60
                  rcases hvy60 with hvy60 | hvy60
                  · obtain ⟨hnvy60, hrvy60, hkvy60⟩ := hvy60
                    have hnby61 := tk_nx_b (T := T) (n := n) (f := (tk_nx T n (tk_nx T n (tk_nx T n (tk_nx T n (tk_nx T n (tk_nx T n f))))))) (by omega)
                    have hsby62 := tk_so_b T n (tk_nx T n (tk_nx T n (tk_nx T n (tk_nx T n (tk_nx T n (tk_nx T n (tk_nx T n f)))))))
                    have htby63 := tk_to_b (T := T) (n := n) (f := (tk_nx T n (tk_nx T n (tk_nx T n (tk_nx T n (tk_nx T n (tk_nx T n (tk_nx T n f)))))))) (by omega)
                    refine z_istore (lv' := [(8, .int (zI (vy60))), (7, .int (zI (vy53))), (6, .int (zI (vy48))), (5, .int (zI (vy43))), (4, .int (zI (tk_kd T n (tk_nx T n (tk_nx T n f))))), (3, .int (zI (vy17))), (0, .ref (ad 2)), (1, .ref (ad 883)), (2, .ref (ad 890))]) C dX7_readLayer_115 (by decide) rfl ?_
                    refine z_aload_n C 6 dX7_readLayer_117 rfl ?_
                    have hgy65 := (hfvy60 (1) (by decide)).trans hgy59
                    refine z_cV (As := []) (rest := []) (ci := 9) C (c_xClose l D A cs tt N ad _ (by omega) _ _ _ tp T hT n hn (tk_nx T n (tk_nx T n (tk_nx T n (tk_nx T n (tk_nx T n (tk_nx T n (tk_nx T n f))))))) (by omega) hkvy60 hgy65) (lt_K hN (rfl : Nat.blt (2) 952 = true)) hay1 hkvy60 rfl rfl mv_yX7_close q_821 hd_yX7_close (by decide) (Nat.le_of_ble_eq_true rfl) (by decide) dX7_readLayer_118 rfl (kV0 fun gvy64 hvy64 => ?_)
                    obtain ⟨hvy64, hfvy64⟩ := hvy64
                    rcases hvy64 with hvy64 | hvy64
                    · obtain ⟨hnvy64, hkvy64⟩ := hvy64
                      have hnby66 := tk_nx_b (T := T) (n := n) (f := (tk_nx T n (tk_nx T n (tk_nx T n (tk_nx T n (tk_nx T n (tk_nx T n (tk_nx T n f)))))))) (by omega)
                      have hsby67 := tk_so_b T n (tk_nx T n (tk_nx T n (tk_nx T n (tk_nx T n (tk_nx T n (tk_nx T n (tk_nx T n (tk_nx T n f))))))))
                      have htby68 := tk_to_b (T := T) (n := n) (f := (tk_nx T n (tk_nx T n (tk_nx T n (tk_nx T n (tk_nx T n (tk_nx T n (tk_nx T n (tk_nx T n f))))))))) (by omega)
                      refine z_aload_n C 6 dX7_readLayer_121 rfl ?_
                      refine z_get (v := .int (zI (0))) C (lt_K hN (rfl : Nat.blt (2) 952 = true)) hay1 hkvy64 rfl inA_X7 1 (by decide) q_45 rfl rfl dX7_readLayer_122 ?_
                      refine z_if_ne (tgt := 162) C dX7_readLayer_125 (by decide) (by omega) (fun h => absurd h (by omega)) (fun _ => ?_)
                      refine z_aload_n C 8 dX7_readLayer_128 rfl ?_
                      have hgy69 := (hfvy38 (890) (by decide)).trans hgy26
                      have hgy70 := (hfvy43 (890) (by decide)).trans hgy69
                      have hgy71 := (hfvy48 (890) (by decide)).trans hgy70
                      have hgy72 := (hfvy53 (890) (by decide)).trans hgy71
                      have hgy73 := (hfvy60 (890) (by decide)).trans hgy72
                      have hgy74 := (hfvy64 (890) (by decide)).trans hgy73
                      refine z_get (v := .ref (ad (890 + 1))) C (lt_K hN (rfl : Nat.blt (890) 952 = true)) hay10 hgy74 rfl inA_X8 6 (by decide) q_189 rfl rfl dX7_readLayer_129 ?_
                      refine z_iload_n C 5 dX7_readLayer_132 rfl ?_
                      have hgy75 := (hfvy38 (890 + 1) (by omega)).trans hgy28
                      have hgy76 := (hfvy43 (890 + 1) (by omega)).trans hgy75
                      have hgy77 := (hfvy48 (890 + 1) (by omega)).trans hgy76
                      have hgy78 := (hfvy53 (890 + 1) (by omega)).trans hgy77
                      have hgy79 := (hfvy60 (890 + 1) (by omega)).trans hgy78
                      have hgy80 := (hfvy64 (890 + 1) (by omega)).trans hgy79
                      refine z_aald C (lt_K hN (rfl : Nat.blt (890 + 1) 952 = true)) hay11 hgy80 3 rfl ((vy17).toNat) (by omega) (by omega) (by decide) (w3 (vy17).toNat (by omega)) dX7_readLayer_133 ?_
                      refine z_iload C 4 dX7_readLayer_134 rfl ?_
                      refine z_iload C 3 dX7_readLayer_136 rfl ?_
                      refine z_iload C 2 dX7_readLayer_138 rfl ?_
                      refine z_iload C 1 dX7_readLayer_140 rfl ?_
                      refine z_iload C 0 dX7_readLayer_142 rfl ?_
                      refine z_ineg C dX7_readLayer_144 ?_
                      refine z_aload_n C 8 dX7_readLayer_145 rfl ?_
                      refine z_get (v := .int (zI (wt 1))) C (lt_K hN (rfl : Nat.blt (890) 952 = true)) hay10 hgy74 rfl inA_X8 1 (by decide) q_178 rfl rfl dX7_readLayer_146 ?_
                      have hgy81 := (hfvy38 (890 + 2 + 2 * (vy17).toNat) (by omega)).trans hgy34
                      have hgy82 := (hfvy43 (890 + 2 + 2 * (vy17).toNat) (by omega)).trans hgy81
                      have hgy83 := (hfvy48 (890 + 2 + 2 * (vy17).toNat) (by omega)).trans hgy82
                      have hgy84 := (hfvy53 (890 + 2 + 2 * (vy17).toNat) (by omega)).trans hgy83
                      have hgy85 := (hfvy60 (890 + 2 + 2 * (vy17).toNat) (by omega)).trans hgy84
                      have hgy86 := (hfvy64 (890 + 2 + 2 * (vy17).toNat) (by omega)).trans hgy85
                      have hgy87 := (hfvy12 (890 + 2 + 2 * (vy17).toNat + 1) (by omega)).trans hpy31.2
                      have hgy88 := (hfvy17 (890 + 2 + 2 * (vy17).toNat + 1) (by omega)).trans hgy87
                      have hgy89 := (hfvy38 (890 + 2 + 2 * (vy17).toNat + 1) (by omega)).trans hgy88
                      have hgy90 := (hfvy43 (890 + 2 + 2 * (vy17).toNat + 1) (by omega)).trans hgy89
                      have hgy91 := (hfvy48 (890 + 2 + 2 * (vy17).toNat + 1) (by omega)).trans hgy90
                      have hgy92 := (hfvy53 (890 + 2 + 2 * (vy17).toNat + 1) (by omega)).trans hgy91
                      have hgy93 := (hfvy60 (890 + 2 + 2 * (vy17).toNat + 1) (by omega)).trans hgy92
                      have hgy94 := (hfvy64 (890 + 2 + 2 * (vy17).toNat + 1) (by omega)).trans hgy93
                      refine z_cV (As := [.int (zI (tk_kd T n (tk_nx T n (tk_nx T n f)))), .int (zI (vy43)), .int (zI (vy48)), .int (zI (vy53)), .int (zI (-(vy60))), .int (zI (wt 1))]) (rest := []) (ci := 5) C (c_xAdd l D A cs tt N ad _ (890 + 2 + 2 * (vy17).toNat) (by omega) _ _ _ (by omega) ⟨hgy86, hgy94⟩ (by omega) (tk_kd T n (tk_nx T n (tk_nx T n f))) (vy43) (vy48) (vy53) (-(vy60)) (wt 1)) (by omega) hay29 hgy86 rfl rfl mv_yX3_add q_842 hd_yX3_add (by decide) (Nat.le_of_ble_eq_true rfl) (by decide) dX7_readLayer_149 rfl (kV0 fun gvy95 hvy95 => ?_)
                      obtain ⟨hpvy95, hfvy95⟩ := hvy95
                      refine z_aload_n C 8 dX7_readLayer_152 rfl ?_
                      refine z_dup C dX7_readLayer_153 rfl ?_
                      have hgy96 := (hfvy95 (890) (by omega) (by omega)).trans hgy74
                      refine z_get (v := .int (zI (wt 1))) C (lt_K hN (rfl : Nat.blt (890) 952 = true)) hay10 hgy96 rfl inA_X8 1 (by decide) q_178 rfl rfl dX7_readLayer_154 ?_
                      refine z_iconst (z := 1) C dX7_readLayer_157 rfl ?_
                      refine z_iadd C dX7_readLayer_158 ?_
                      refine z_put (fs' := [.int (zI (wt 0)), .int (zI ((wt 1) + 1)), .int (zI (wt 2)), .int (zI (wt 3)), .int (zI (wt 4)), .int (zI (wt 5)), .ref (ad (890 + 1))]) C (lt_K hN (rfl : Nat.blt (890) 952 = true)) hay10 hgy96 tyX8 tyX8_ok nmX8 rfl inA_X8 1 (by decide) q_178 rfl rfl rfl rfl (Nat.le_of_ble_eq_true rfl) rfl dX7_readLayer_159 (fun gy97 egy98 => ?_)
                      have hgy99 := up_s egy98
                      have hgy100 := (hfvy95 (2) (by omega) (by omega)).trans hkvy64
                      have hgy101 := up_n egy98 hgy100 (by decide)
                      have hgy102 := (hfvy64 (1) (by decide)).trans hgy65
                      have hgy103 := (hfvy95 (1) (by omega) (by omega)).trans hgy102
                      have hgy104 := up_n egy98 hgy103 (by decide)
                      have hgy105 := up_n egy98 hpvy95.1 (by omega)
                      have hgy106 := up_n egy98 hpvy95.2 (by omega)
                      have hW9 := isWorld.lay (g' := gy97) (k := (vy17).toNat) (by omega) hW (fun j j0 j9 j1 j2 j3 => by rw [egy98, va_up_ne _ _ (by omega)]; rw [hfvy95 _ (by omega) (by omega)]; rw [hfvy64 _ (by omega)]; rw [hfvy60 _ (by omega)]; rw [hfvy53 _ (by omega)]; rw [hfvy48 _ (by omega)]; rw [hfvy43 _ (by omega)]; rw [hfvy38 _ (by omega)]; rw [hfvy17 _ (by omega)]; rw [hfvy12 _ (by omega)]) ⟨hgy105, hgy106⟩ hgy99
                      have hgy107 := (hfvy38 (883) (by decide)).trans hgy22
                      have hgy108 := (hfvy43 (883) (by decide)).trans hgy107
                      have hgy109 := (hfvy48 (883) (by decide)).trans hgy108
                      have hgy110 := (hfvy53 (883) (by decide)).trans hgy109
                      have hgy111 := (hfvy60 (883) (by decide)).trans hgy110
                      have hgy112 := (hfvy64 (883) (by decide)).trans hgy111
                      have hgy113 := (hfvy95 (883) (by omega) (by omega)).trans hgy112
                      have hgy114 := up_n egy98 hgy113 (by decide)
                      have hgy115 := (hfvy12 (883 + 1) (by omega)).trans hP.2.1
                      have hgy116 := (hfvy17 (883 + 1) (by omega)).trans hgy115
                      have hgy117 := (hfvy38 (883 + 1) (by omega)).trans hgy116
                      have hgy118 := (hfvy43 (883 + 1) (by omega)).trans hgy117
                      have hgy119 := (hfvy48 (883 + 1) (by omega)).trans hgy118
                      have hgy120 := (hfvy53 (883 + 1) (by omega)).trans hgy119
                      have hgy121 := (hfvy60 (883 + 1) (by omega)).trans hgy120
                      have hgy122 := (hfvy64 (883 + 1) (by omega)).trans hgy121
                      have hgy123 := (hfvy95 (883 + 1) (by omega) (by omega)).trans hgy122
                      have hgy124 := up_n egy98 hgy123 (by omega)
                      have hgy125 := (hfvy12 (883 + 2) (by omega)).trans hP.2.2.1
                      have hgy126 := (hfvy17 (883 + 2) (by omega)).trans hgy125
                      have hgy127 := (hfvy38 (883 + 2) (by omega)).trans hgy126
                      have hgy128 := (hfvy43 (883 + 2) (by omega)).trans hgy127
                      have hgy129 := (hfvy48 (883 + 2) (by omega)).trans hgy128
                      have hgy130 := (hfvy53 (883 + 2) (by omega)).trans hgy129
                      have hgy131 := (hfvy60 (883 + 2) (by omega)).trans hgy130
                      have hgy132 := (hfvy64 (883 + 2) (by omega)).trans hgy131
                      have hgy133 := (hfvy95 (883 + 2) (by omega) (by omega)).trans hgy132
                      have hgy134 := up_n egy98 hgy133 (by omega)
                      have hgy135 := (hfvy12 (883 + 3) (by omega)).trans hP.2.2.2.1
                      have hgy136 := (hfvy17 (883 + 3) (by omega)).trans hgy135
                      have hgy137 := (hfvy38 (883 + 3) (by omega)).trans hgy136
                      have hgy138 := (hfvy43 (883 + 3) (by omega)).trans hgy137
                      have hgy139 := (hfvy48 (883 + 3) (by omega)).trans hgy138
                      have hgy140 := (hfvy53 (883 + 3) (by omega)).trans hgy139
                      have hgy141 := (hfvy60 (883 + 3) (by omega)).trans hgy140
                      have hgy142 := (hfvy64 (883 + 3) (by omega)).trans hgy141
                      have hgy143 := (hfvy95 (883 + 3) (by omega) (by omega)).trans hgy142
                      have hgy144 := up_n egy98 hgy143 (by omega)
                      have hgy145 := (hfvy12 (883 + 4) (by omega)).trans hP.2.2.2.2.1
                      have hgy146 := (hfvy17 (883 + 4) (by omega)).trans hgy145
                      have hgy147 := (hfvy38 (883 + 4) (by omega)).trans hgy146
                      have hgy148 := (hfvy43 (883 + 4) (by omega)).trans hgy147
                      have hgy149 := (hfvy48 (883 + 4) (by omega)).trans hgy148
                      have hgy150 := (hfvy53 (883 + 4) (by omega)).trans hgy149
                      have hgy151 := (hfvy60 (883 + 4) (by omega)).trans hgy150
                      have hgy152 := (hfvy64 (883 + 4) (by omega)).trans hgy151
                      have hgy153 := (hfvy95 (883 + 4) (by omega) (by omega)).trans hgy152
                      have hgy154 := up_n egy98 hgy153 (by omega)
                      have hgy155 := (hfvy12 (883 + 5) (by omega)).trans hP.2.2.2.2.2.1
                      have hgy156 := (hfvy17 (883 + 5) (by omega)).trans hgy155
                      have hgy157 := (hfvy38 (883 + 5) (by omega)).trans hgy156
                      have hgy158 := (hfvy43 (883 + 5) (by omega)).trans hgy157
                      have hgy159 := (hfvy48 (883 + 5) (by omega)).trans hgy158
                      have hgy160 := (hfvy53 (883 + 5) (by omega)).trans hgy159
                      have hgy161 := (hfvy60 (883 + 5) (by omega)).trans hgy160
                      have hgy162 := (hfvy64 (883 + 5) (by omega)).trans hgy161
                      have hgy163 := (hfvy95 (883 + 5) (by omega) (by omega)).trans hgy162
                      have hgy164 := up_n egy98 hgy163 (by omega)
                      have hgy165 := (hfvy12 (883 + 6) (by omega)).trans hP.2.2.2.2.2.2
                      have hgy166 := (hfvy17 (883 + 6) (by omega)).trans hgy165
                      have hgy167 := (hfvy38 (883 + 6) (by omega)).trans hgy166
                      have hgy168 := (hfvy43 (883 + 6) (by omega)).trans hgy167
                      have hgy169 := (hfvy48 (883 + 6) (by omega)).trans hgy168
                      have hgy170 := (hfvy53 (883 + 6) (by omega)).trans hgy169
                      have hgy171 := (hfvy60 (883 + 6) (by omega)).trans hgy170
                      have hgy172 := (hfvy64 (883 + 6) (by omega)).trans hgy171
                      have hgy173 := (hfvy95 (883 + 6) (by omega) (by omega)).trans hgy172
                      have hgy174 := up_n egy98 hgy173 (by omega)
                      exact z_vret C hr hlk dX7_readLayer_162 (by decide) (by decide) ⟨rfl, rfl, rfl, Or.inl ⟨_, by simp only [cl_fin, cl_layer, cl_layer2, hnvy17, if_neg hscy24, if_neg hscy36, if_neg hnevy38, hnvy43, hnvy48, hnvy53, if_neg hscy58, hnvy60, if_pos hnvy64]; rfl, by show (f < n → f < (tk_nx T n (tk_nx T n (tk_nx T n (tk_nx T n (tk_nx T n (tk_nx T n (tk_nx T n (tk_nx T n f))))))))) ∧ (tk_nx T n (tk_nx T n (tk_nx T n (tk_nx T n (tk_nx T n (tk_nx T n (tk_nx T n (tk_nx T n f)))))))) ≤ n; omega, ⟨_, hgy101⟩, ⟨hgy114, hgy124, hgy134, hgy144, hgy154, hgy164, hgy174⟩, by show 0 ≤ vy17 ∧ vy17 < sl ∧ wz (vy17).toNat < 12; omega, hW9⟩, fun j j1 j2 => by rw [egy98, va_up_ne _ _ (by omega)]; rw [hfvy95 _ (by omega) (by omega)]; rw [hfvy64 _ (by omega)]; rw [hfvy60 _ (by omega)]; rw [hfvy53 _ (by omega)]; rw [hfvy48 _ (by omega)]; rw [hfvy43 _ (by omega)]; rw [hfvy38 _ (by omega)]; rw [hfvy17 _ (by omega)]; rw [hfvy12 _ (by omega)]⟩
                    · obtain ⟨hnvy64, hkvy64⟩ := hvy64
                      refine z_aload_n C 6 dX7_readLayer_121 rfl ?_
                      refine z_get (v := .int (zI (1))) C (lt_K hN (rfl : Nat.blt (2) 952 = true)) hay1 hkvy64 rfl inA_X7 1 (by decide) q_45 rfl rfl dX7_readLayer_122 ?_
                      refine z_if_ne (tgt := 162) C dX7_readLayer_125 (by decide) (by omega) (fun _ => ?_) (fun h => absurd h (by omega))
                      have hgy175 := (hfvy64 (1) (by decide)).trans hgy65
                      have hW9 : isWorld cs ad gvy64 890 wt wz wo wr := hW.mv (fun _ _ _ => rfl) (fun j j1 j2 => by rw [hfvy64 _ (by omega)]; rw [hfvy60 _ (by omega)]; rw [hfvy53 _ (by omega)]; rw [hfvy48 _ (by omega)]; rw [hfvy43 _ (by omega)]; rw [hfvy38 _ (by omega)]; rw [hfvy17 _ (by omega)]; rw [hfvy12 _ (by omega)])
                      have hgy176 := (hfvy38 (883) (by decide)).trans hgy22
                      have hgy177 := (hfvy43 (883) (by decide)).trans hgy176
                      have hgy178 := (hfvy48 (883) (by decide)).trans hgy177
                      have hgy179 := (hfvy53 (883) (by decide)).trans hgy178
                      have hgy180 := (hfvy60 (883) (by decide)).trans hgy179
                      have hgy181 := (hfvy64 (883) (by decide)).trans hgy180
                      have hgy182 := (hfvy12 (883 + 1) (by omega)).trans hP.2.1
                      have hgy183 := (hfvy17 (883 + 1) (by omega)).trans hgy182
                      have hgy184 := (hfvy38 (883 + 1) (by omega)).trans hgy183
                      have hgy185 := (hfvy43 (883 + 1) (by omega)).trans hgy184
                      have hgy186 := (hfvy48 (883 + 1) (by omega)).trans hgy185
                      have hgy187 := (hfvy53 (883 + 1) (by omega)).trans hgy186
                      have hgy188 := (hfvy60 (883 + 1) (by omega)).trans hgy187
                      have hgy189 := (hfvy64 (883 + 1) (by omega)).trans hgy188
                      have hgy190 := (hfvy12 (883 + 2) (by omega)).trans hP.2.2.1
                      have hgy191 := (hfvy17 (883 + 2) (by omega)).trans hgy190
                      have hgy192 := (hfvy38 (883 + 2) (by omega)).trans hgy191
                      have hgy193 := (hfvy43 (883 + 2) (by omega)).trans hgy192
                      have hgy194 := (hfvy48 (883 + 2) (by omega)).trans hgy193
                      have hgy195 := (hfvy53 (883 + 2) (by omega)).trans hgy194
                      have hgy196 := (hfvy60 (883 + 2) (by omega)).trans hgy195
                      have hgy197 := (hfvy64 (883 + 2) (by omega)).trans hgy196
                      have hgy198 := (hfvy12 (883 + 3) (by omega)).trans hP.2.2.2.1
                      have hgy199 := (hfvy17 (883 + 3) (by omega)).trans hgy198
                      have hgy200 := (hfvy38 (883 + 3) (by omega)).trans hgy199
                      have hgy201 := (hfvy43 (883 + 3) (by omega)).trans hgy200
                      have hgy202 := (hfvy48 (883 + 3) (by omega)).trans hgy201
                      have hgy203 := (hfvy53 (883 + 3) (by omega)).trans hgy202
                      have hgy204 := (hfvy60 (883 + 3) (by omega)).trans hgy203
                      have hgy205 := (hfvy64 (883 + 3) (by omega)).trans hgy204
                      have hgy206 := (hfvy12 (883 + 4) (by omega)).trans hP.2.2.2.2.1
                      have hgy207 := (hfvy17 (883 + 4) (by omega)).trans hgy206
                      have hgy208 := (hfvy38 (883 + 4) (by omega)).trans hgy207
                      have hgy209 := (hfvy43 (883 + 4) (by omega)).trans hgy208
                      have hgy210 := (hfvy48 (883 + 4) (by omega)).trans hgy209
                      have hgy211 := (hfvy53 (883 + 4) (by omega)).trans hgy210
                      have hgy212 := (hfvy60 (883 + 4) (by omega)).trans hgy211
                      have hgy213 := (hfvy64 (883 + 4) (by omega)).trans hgy212
                      have hgy214 := (hfvy12 (883 + 5) (by omega)).trans hP.2.2.2.2.2.1
                      have hgy215 := (hfvy17 (883 + 5) (by omega)).trans hgy214
                      have hgy216 := (hfvy38 (883 + 5) (by omega)).trans hgy215
                      have hgy217 := (hfvy43 (883 + 5) (by omega)).trans hgy216
                      have hgy218 := (hfvy48 (883 + 5) (by omega)).trans hgy217
                      have hgy219 := (hfvy53 (883 + 5) (by omega)).trans hgy218
                      have hgy220 := (hfvy60 (883 + 5) (by omega)).trans hgy219
                      have hgy221 := (hfvy64 (883 + 5) (by omega)).trans hgy220
                      have hgy222 := (hfvy12 (883 + 6) (by omega)).trans hP.2.2.2.2.2.2
                      have hgy223 := (hfvy17 (883 + 6) (by omega)).trans hgy222
                      have hgy224 := (hfvy38 (883 + 6) (by omega)).trans hgy223
                      have hgy225 := (hfvy43 (883 + 6) (by omega)).trans hgy224
                      have hgy226 := (hfvy48 (883 + 6) (by omega)).trans hgy225
                      have hgy227 := (hfvy53 (883 + 6) (by omega)).trans hgy226
                      have hgy228 := (hfvy60 (883 + 6) (by omega)).trans hgy227
                      have hgy229 := (hfvy64 (883 + 6) (by omega)).trans hgy228
                      exact z_vret C hr hlk dX7_readLayer_162 (by decide) (by decide) ⟨rfl, rfl, rfl, Or.inr ⟨(1, (tk_nx T n (tk_nx T n (tk_nx T n (tk_nx T n (tk_nx T n (tk_nx T n (tk_nx T n f)))))))), by simp only [cl_fin, cl_layer, cl_layer2, hnvy17, if_neg hscy24, if_neg hscy36, if_neg hnevy38, hnvy43, hnvy48, hnvy53, if_neg hscy58, hnvy60, if_neg hnvy64], ⟨by show 1 ≤ 1 ∧ 1 ≤ 5; omega, _, _, _, _, _, _, by omega, by omega, hkvy64, hgy175⟩, ⟨hgy181, hgy189, hgy197, hgy205, hgy213, hgy221, hgy229⟩, hW9⟩, fun j j1 j2 => by rw [hfvy64 _ (by omega)]; rw [hfvy60 _ (by omega)]; rw [hfvy53 _ (by omega)]; rw [hfvy48 _ (by omega)]; rw [hfvy43 _ (by omega)]; rw [hfvy38 _ (by omega)]; rw [hfvy17 _ (by omega)]; rw [hfvy12 _ (by omega)]⟩
                  · obtain ⟨cvy60, hcvy60, hnvy60, rfl, hkvy60⟩ := hvy60
                    refine z_istore (lv' := [(8, .int (zI (0))), (7, .int (zI (vy53))), (6, .int (zI (vy48))), (5, .int (zI (vy43))), (4, .int (zI (tk_kd T n (tk_nx T n (tk_nx T n f))))), (3, .int (zI (vy17))), (0, .ref (ad 2)), (1, .ref (ad 883)), (2, .ref (ad 890))]) C dX7_readLayer_115 (by decide) rfl ?_
                    refine z_aload_n C 6 dX7_readLayer_117 rfl ?_
                    refine z_cV (As := []) (rest := []) (ci := 9) C (c_fClose l D A cs tt N ad _ (by omega) _ _ _ _ _ _ _ _ (by omega) (by omega) hkvy60) (lt_K hN (rfl : Nat.blt (2) 952 = true)) hay1 hkvy60 rfl rfl mv_yX7_close q_821 hd_yX7_close (by decide) (Nat.le_of_ble_eq_true rfl) (by decide) dX7_readLayer_118 rfl (kV0 fun gvy230 hvy230 => ?_)
                    obtain rfl := hvy230
                    refine z_aload_n C 6 dX7_readLayer_121 rfl ?_
                    refine z_get (v := .int (zI (cvy60))) C (lt_K hN (rfl : Nat.blt (2) 952 = true)) hay1 hkvy60 rfl inA_X7 1 (by decide) q_45 rfl rfl dX7_readLayer_122 ?_
                    refine z_if_ne (tgt := 162) C dX7_readLayer_125 (by decide) (by omega) (fun _ => ?_) (fun h => absurd h (by omega))
                    have hgy231 := (hfvy60 (1) (by decide)).trans hgy59
                    have hW9 : isWorld cs ad gvy60 890 wt wz wo wr := hW.mv (fun _ _ _ => rfl) (fun j j1 j2 => by rw [hfvy60 _ (by omega)]; rw [hfvy53 _ (by omega)]; rw [hfvy48 _ (by omega)]; rw [hfvy43 _ (by omega)]; rw [hfvy38 _ (by omega)]; rw [hfvy17 _ (by omega)]; rw [hfvy12 _ (by omega)])
                    have hgy232 := (hfvy38 (883) (by decide)).trans hgy22
                    have hgy233 := (hfvy43 (883) (by decide)).trans hgy232
                    have hgy234 := (hfvy48 (883) (by decide)).trans hgy233
                    have hgy235 := (hfvy53 (883) (by decide)).trans hgy234
                    have hgy236 := (hfvy60 (883) (by decide)).trans hgy235
                    have hgy237 := (hfvy12 (883 + 1) (by omega)).trans hP.2.1
                    have hgy238 := (hfvy17 (883 + 1) (by omega)).trans hgy237
                    have hgy239 := (hfvy38 (883 + 1) (by omega)).trans hgy238
                    have hgy240 := (hfvy43 (883 + 1) (by omega)).trans hgy239
                    have hgy241 := (hfvy48 (883 + 1) (by omega)).trans hgy240
                    have hgy242 := (hfvy53 (883 + 1) (by omega)).trans hgy241
                    have hgy243 := (hfvy60 (883 + 1) (by omega)).trans hgy242
                    have hgy244 := (hfvy12 (883 + 2) (by omega)).trans hP.2.2.1
                    have hgy245 := (hfvy17 (883 + 2) (by omega)).trans hgy244
                    have hgy246 := (hfvy38 (883 + 2) (by omega)).trans hgy245
                    have hgy247 := (hfvy43 (883 + 2) (by omega)).trans hgy246
                    have hgy248 := (hfvy48 (883 + 2) (by omega)).trans hgy247
                    have hgy249 := (hfvy53 (883 + 2) (by omega)).trans hgy248
                    have hgy250 := (hfvy60 (883 + 2) (by omega)).trans hgy249
                    have hgy251 := (hfvy12 (883 + 3) (by omega)).trans hP.2.2.2.1
                    have hgy252 := (hfvy17 (883 + 3) (by omega)).trans hgy251
                    have hgy253 := (hfvy38 (883 + 3) (by omega)).trans hgy252
                    have hgy254 := (hfvy43 (883 + 3) (by omega)).trans hgy253
                    have hgy255 := (hfvy48 (883 + 3) (by omega)).trans hgy254
                    have hgy256 := (hfvy53 (883 + 3) (by omega)).trans hgy255
                    have hgy257 := (hfvy60 (883 + 3) (by omega)).trans hgy256
                    have hgy258 := (hfvy12 (883 + 4) (by omega)).trans hP.2.2.2.2.1
                    have hgy259 := (hfvy17 (883 + 4) (by omega)).trans hgy258
                    have hgy260 := (hfvy38 (883 + 4) (by omega)).trans hgy259
                    have hgy261 := (hfvy43 (883 + 4) (by omega)).trans hgy260
                    have hgy262 := (hfvy48 (883 + 4) (by omega)).trans hgy261
                    have hgy263 := (hfvy53 (883 + 4) (by omega)).trans hgy262
                    have hgy264 := (hfvy60 (883 + 4) (by omega)).trans hgy263
                    have hgy265 := (hfvy12 (883 + 5) (by omega)).trans hP.2.2.2.2.2.1
                    have hgy266 := (hfvy17 (883 + 5) (by omega)).trans hgy265
                    have hgy267 := (hfvy38 (883 + 5) (by omega)).trans hgy266
                    have hgy268 := (hfvy43 (883 + 5) (by omega)).trans hgy267
                    have hgy269 := (hfvy48 (883 + 5) (by omega)).trans hgy268
                    have hgy270 := (hfvy53 (883 + 5) (by omega)).trans hgy269
                    have hgy271 := (hfvy60 (883 + 5) (by omega)).trans hgy270
                    have hgy272 := (hfvy12 (883 + 6) (by omega)).trans hP.2.2.2.2.2.2
                    have hgy273 := (hfvy17 (883 + 6) (by omega)).trans hgy272
                    have hgy274 := (hfvy38 (883 + 6) (by omega)).trans hgy273
                    have hgy275 := (hfvy43 (883 + 6) (by omega)).trans hgy274
                    have hgy276 := (hfvy48 (883 + 6) (by omega)).trans hgy275
                    have hgy277 := (hfvy53 (883 + 6) (by omega)).trans hgy276
                    have hgy278 := (hfvy60 (883 + 6) (by omega)).trans hgy277
                    exact z_vret C hr hlk dX7_readLayer_162 (by decide) (by decide) ⟨rfl, rfl, rfl, Or.inr ⟨(cvy60, (tk_nx T n (tk_nx T n (tk_nx T n (tk_nx T n (tk_nx T n (tk_nx T n f))))))), by simp only [cl_fin, cl_layer, cl_layer2, hnvy17, if_neg hscy24, if_neg hscy36, if_neg hnevy38, hnvy43, hnvy48, hnvy53, if_neg hscy58, hnvy60], ⟨by show 1 ≤ cvy60 ∧ cvy60 ≤ 5; omega, _, _, _, _, _, _, by omega, by omega, hkvy60, hgy231⟩, ⟨hgy236, hgy243, hgy250, hgy257, hgy264, hgy271, hgy278⟩, hW9⟩, fun j j1 j2 => by rw [hfvy60 _ (by omega)]; rw [hfvy53 _ (by omega)]; rw [hfvy48 _ (by omega)]; rw [hfvy43 _ (by omega)]; rw [hfvy38 _ (by omega)]; rw [hfvy17 _ (by omega)]; rw [hfvy12 _ (by omega)]⟩
                · have hscy279 : (vy53 < vy43 + vy48) := by omega
                  refine z_aload_n C 5 dX7_readLayer_98 rfl ?_
                  refine z_iconst (z := 5) C dX7_readLayer_99 rfl ?_
                  refine z_aload_n C 5 dX7_readLayer_100 rfl ?_
                  refine z_get (v := .int (zI (((tk_nx T n (tk_nx T n (tk_nx T n (tk_nx T n (tk_nx T n f))))) : Int)))) C (lt_K hN (rfl : Nat.blt (2) 952 = true)) hay1 hkvy53 rfl inA_X7 7 (by decide) q_51 rfl rfl dX7_readLayer_101 ?_
                  refine z_cV (As := [.int (zI (5)), .int (zI (((tk_nx T n (tk_nx T n (tk_nx T n (tk_nx T n (tk_nx T n f))))) : Int)))]) (rest := []) (ci := 9) C (c_xFail l D A cs tt N ad _ (by omega) _ _ _ _ _ _ _ hkvy53 (5) (((tk_nx T n (tk_nx T n (tk_nx T n (tk_nx T n (tk_nx T n f))))) : Int))) (lt_K hN (rfl : Nat.blt (2) 952 = true)) hay1 hkvy53 rfl rfl mv_yX7_fail q_809 hd_yX7_fail (by decide) (Nat.le_of_ble_eq_true rfl) (by decide) dX7_readLayer_104 rfl (kV0 fun gvy280 hvy280 => ?_)
                  obtain ⟨hkvy280, hfvy280⟩ := hvy280
                  refine z_aload_n C 5 dX7_readLayer_107 rfl ?_
                  refine z_iconst (z := 0) C dX7_readLayer_108 rfl ?_
                  refine z_sipush (z := 300) C dX7_readLayer_109 (by decide) ?_
                  have hgy282 := (hfvy53 (1) (by decide)).trans hgy52
                  have hgy283 := (hfvy280 (1) (by decide)).trans hgy282
                  have hruny281 : okRun cs ad gvy280 (5) tp := ⟨_, _, _, _, _, _, _, by omega, by omega, hkvy280, hgy283⟩
                  refine z_cV (As := [.int (zI (0)), .int (zI (300))]) (rest := []) (ci := 9) C (c_fNumber l D A cs tt N ad _ (by omega) _ tp hruny281 (by omega) (0) (by omega) (300) (by omega)) (lt_K hN (rfl : Nat.blt (2) 952 = true)) hay1 hkvy280 rfl rfl mv_yX7_number q_817 hd_yX7_number (by decide) (Nat.le_of_ble_eq_true rfl) (by decide) dX7_readLayer_112 rfl (kI0 fun vy284 gvy284 hvy284 => ?_)
                  obtain ⟨hvy284, rfl⟩ := hvy284
                  refine z_istore (lv' := [(8, .int (zI (vy284))), (7, .int (zI (vy53))), (6, .int (zI (vy48))), (5, .int (zI (vy43))), (4, .int (zI (tk_kd T n (tk_nx T n (tk_nx T n f))))), (3, .int (zI (vy17))), (0, .ref (ad 2)), (1, .ref (ad 883)), (2, .ref (ad 890))]) C dX7_readLayer_115 (by decide) rfl ?_
                  refine z_aload_n C 6 dX7_readLayer_117 rfl ?_
                  refine z_cV (As := []) (rest := []) (ci := 9) C (c_fClose l D A cs tt N ad _ (by omega) _ _ _ _ _ _ _ _ (by omega) (by omega) hkvy280) (lt_K hN (rfl : Nat.blt (2) 952 = true)) hay1 hkvy280 rfl rfl mv_yX7_close q_821 hd_yX7_close (by decide) (Nat.le_of_ble_eq_true rfl) (by decide) dX7_readLayer_118 rfl (kV0 fun gvy285 hvy285 => ?_)
                  obtain rfl := hvy285
                  refine z_aload_n C 6 dX7_readLayer_121 rfl ?_
                  refine z_get (v := .int (zI (5))) C (lt_K hN (rfl : Nat.blt (2) 952 = true)) hay1 hkvy280 rfl inA_X7 1 (by decide) q_45 rfl rfl dX7_readLayer_122 ?_
                  refine z_if_ne (tgt := 162) C dX7_readLayer_125 (by decide) (by omega) (fun _ => ?_) (fun h => absurd h (by omega))
                  have hW9 : isWorld cs ad gvy280 890 wt wz wo wr := hW.mv (fun _ _ _ => rfl) (fun j j1 j2 => by rw [hfvy280 _ (by omega)]; rw [hfvy53 _ (by omega)]; rw [hfvy48 _ (by omega)]; rw [hfvy43 _ (by omega)]; rw [hfvy38 _ (by omega)]; rw [hfvy17 _ (by omega)]; rw [hfvy12 _ (by omega)])
                  have hgy286 := (hfvy38 (883) (by decide)).trans hgy22
                  have hgy287 := (hfvy43 (883) (by decide)).trans hgy286
                  have hgy288 := (hfvy48 (883) (by decide)).trans hgy287
                  have hgy289 := (hfvy53 (883) (by decide)).trans hgy288
                  have hgy290 := (hfvy280 (883) (by decide)).trans hgy289
                  have hgy291 := (hfvy12 (883 + 1) (by omega)).trans hP.2.1
                  have hgy292 := (hfvy17 (883 + 1) (by omega)).trans hgy291
                  have hgy293 := (hfvy38 (883 + 1) (by omega)).trans hgy292
                  have hgy294 := (hfvy43 (883 + 1) (by omega)).trans hgy293
                  have hgy295 := (hfvy48 (883 + 1) (by omega)).trans hgy294
                  have hgy296 := (hfvy53 (883 + 1) (by omega)).trans hgy295
                  have hgy297 := (hfvy280 (883 + 1) (by omega)).trans hgy296
                  have hgy298 := (hfvy12 (883 + 2) (by omega)).trans hP.2.2.1
                  have hgy299 := (hfvy17 (883 + 2) (by omega)).trans hgy298
                  have hgy300 := (hfvy38 (883 + 2) (by omega)).trans hgy299
                  have hgy301 := (hfvy43 (883 + 2) (by omega)).trans hgy300
                  have hgy302 := (hfvy48 (883 + 2) (by omega)).trans hgy301
                  have hgy303 := (hfvy53 (883 + 2) (by omega)).trans hgy302
                  have hgy304 := (hfvy280 (883 + 2) (by omega)).trans hgy303
                  have hgy305 := (hfvy12 (883 + 3) (by omega)).trans hP.2.2.2.1
                  have hgy306 := (hfvy17 (883 + 3) (by omega)).trans hgy305
                  have hgy307 := (hfvy38 (883 + 3) (by omega)).trans hgy306
                  have hgy308 := (hfvy43 (883 + 3) (by omega)).trans hgy307
                  have hgy309 := (hfvy48 (883 + 3) (by omega)).trans hgy308
                  have hgy310 := (hfvy53 (883 + 3) (by omega)).trans hgy309
                  have hgy311 := (hfvy280 (883 + 3) (by omega)).trans hgy310
                  have hgy312 := (hfvy12 (883 + 4) (by omega)).trans hP.2.2.2.2.1
                  have hgy313 := (hfvy17 (883 + 4) (by omega)).trans hgy312
                  have hgy314 := (hfvy38 (883 + 4) (by omega)).trans hgy313
                  have hgy315 := (hfvy43 (883 + 4) (by omega)).trans hgy314
                  have hgy316 := (hfvy48 (883 + 4) (by omega)).trans hgy315
                  have hgy317 := (hfvy53 (883 + 4) (by omega)).trans hgy316
                  have hgy318 := (hfvy280 (883 + 4) (by omega)).trans hgy317
                  have hgy319 := (hfvy12 (883 + 5) (by omega)).trans hP.2.2.2.2.2.1
                  have hgy320 := (hfvy17 (883 + 5) (by omega)).trans hgy319
                  have hgy321 := (hfvy38 (883 + 5) (by omega)).trans hgy320
                  have hgy322 := (hfvy43 (883 + 5) (by omega)).trans hgy321
                  have hgy323 := (hfvy48 (883 + 5) (by omega)).trans hgy322
                  have hgy324 := (hfvy53 (883 + 5) (by omega)).trans hgy323
                  have hgy325 := (hfvy280 (883 + 5) (by omega)).trans hgy324
                  have hgy326 := (hfvy12 (883 + 6) (by omega)).trans hP.2.2.2.2.2.2
                  have hgy327 := (hfvy17 (883 + 6) (by omega)).trans hgy326
                  have hgy328 := (hfvy38 (883 + 6) (by omega)).trans hgy327
                  have hgy329 := (hfvy43 (883 + 6) (by omega)).trans hgy328
                  have hgy330 := (hfvy48 (883 + 6) (by omega)).trans hgy329
                  have hgy331 := (hfvy53 (883 + 6) (by omega)).trans hgy330
                  have hgy332 := (hfvy280 (883 + 6) (by omega)).trans hgy331
                  exact z_vret C hr hlk dX7_readLayer_162 (by decide) (by decide) ⟨rfl, rfl, rfl, Or.inr ⟨(5, (tk_nx T n (tk_nx T n (tk_nx T n (tk_nx T n (tk_nx T n f)))))), by simp only [cl_fin, cl_layer, cl_layer2, hnvy17, if_neg hscy24, if_neg hscy36, if_neg hnevy38, hnvy43, hnvy48, hnvy53, if_pos hscy279], ⟨by show 1 ≤ 5 ∧ 5 ≤ 5; omega, _, _, _, _, _, _, by omega, by omega, hkvy280, hgy283⟩, ⟨hgy290, hgy297, hgy304, hgy311, hgy318, hgy325, hgy332⟩, hW9⟩, fun j j1 j2 => by rw [hfvy280 _ (by omega)]; rw [hfvy53 _ (by omega)]; rw [hfvy48 _ (by omega)]; rw [hfvy43 _ (by omega)]; rw [hfvy38 _ (by omega)]; rw [hfvy17 _ (by omega)]; rw [hfvy12 _ (by omega)]⟩
              · obtain ⟨cvy53, hcvy53, hnvy53, rfl, hkvy53⟩ := hvy53
                refine z_istore (lv' := [(7, .int (zI (0))), (6, .int (zI (vy48))), (5, .int (zI (vy43))), (4, .int (zI (tk_kd T n (tk_nx T n (tk_nx T n f))))), (3, .int (zI (vy17))), (0, .ref (ad 2)), (1, .ref (ad 883)), (2, .ref (ad 890))]) C dX7_readLayer_86 (by decide) rfl ?_
                refine z_iload C 0 dX7_readLayer_88 rfl ?_
                refine z_iload C 2 dX7_readLayer_90 rfl ?_
                refine z_iload C 1 dX7_readLayer_92 rfl ?_
                refine z_iadd C dX7_readLayer_94 ?_
                refine z_icmp_ge (tgt := 107) C dX7_readLayer_95 (by decide) (by omega) (by omega) (fun hby333 => ?_) (fun hby333 => ?_)
                · refine z_aload_n C 5 dX7_readLayer_107 rfl ?_
                  refine z_iconst (z := 0) C dX7_readLayer_108 rfl ?_
                  refine z_sipush (z := 300) C dX7_readLayer_109 (by decide) ?_
                  have hgy335 := (hfvy53 (1) (by decide)).trans hgy52
                  have hruny334 : okRun cs ad gvy53 (cvy53) tp := ⟨_, _, _, _, _, _, _, by omega, by omega, hkvy53, hgy335⟩
                  refine z_cV (As := [.int (zI (0)), .int (zI (300))]) (rest := []) (ci := 9) C (c_fNumber l D A cs tt N ad _ (by omega) _ tp hruny334 (by omega) (0) (by omega) (300) (by omega)) (lt_K hN (rfl : Nat.blt (2) 952 = true)) hay1 hkvy53 rfl rfl mv_yX7_number q_817 hd_yX7_number (by decide) (Nat.le_of_ble_eq_true rfl) (by decide) dX7_readLayer_112 rfl (kI0 fun vy336 gvy336 hvy336 => ?_)
                  obtain ⟨hvy336, rfl⟩ := hvy336
                  refine z_istore (lv' := [(8, .int (zI (vy336))), (7, .int (zI (0))), (6, .int (zI (vy48))), (5, .int (zI (vy43))), (4, .int (zI (tk_kd T n (tk_nx T n (tk_nx T n f))))), (3, .int (zI (vy17))), (0, .ref (ad 2)), (1, .ref (ad 883)), (2, .ref (ad 890))]) C dX7_readLayer_115 (by decide) rfl ?_
                  refine z_aload_n C 6 dX7_readLayer_117 rfl ?_
                  refine z_cV (As := []) (rest := []) (ci := 9) C (c_fClose l D A cs tt N ad _ (by omega) _ _ _ _ _ _ _ _ (by omega) (by omega) hkvy53) (lt_K hN (rfl : Nat.blt (2) 952 = true)) hay1 hkvy53 rfl rfl mv_yX7_close q_821 hd_yX7_close (by decide) (Nat.le_of_ble_eq_true rfl) (by decide) dX7_readLayer_118 rfl (kV0 fun gvy337 hvy337 => ?_)
                  obtain rfl := hvy337
                  refine z_aload_n C 6 dX7_readLayer_121 rfl ?_
                  refine z_get (v := .int (zI (cvy53))) C (lt_K hN (rfl : Nat.blt (2) 952 = true)) hay1 hkvy53 rfl inA_X7 1 (by decide) q_45 rfl rfl dX7_readLayer_122 ?_
                  refine z_if_ne (tgt := 162) C dX7_readLayer_125 (by decide) (by omega) (fun _ => ?_) (fun h => absurd h (by omega))
                  have hW9 : isWorld cs ad gvy53 890 wt wz wo wr := hW.mv (fun _ _ _ => rfl) (fun j j1 j2 => by rw [hfvy53 _ (by omega)]; rw [hfvy48 _ (by omega)]; rw [hfvy43 _ (by omega)]; rw [hfvy38 _ (by omega)]; rw [hfvy17 _ (by omega)]; rw [hfvy12 _ (by omega)])
                  have hgy338 := (hfvy38 (883) (by decide)).trans hgy22
                  have hgy339 := (hfvy43 (883) (by decide)).trans hgy338
                  have hgy340 := (hfvy48 (883) (by decide)).trans hgy339
                  have hgy341 := (hfvy53 (883) (by decide)).trans hgy340
                  have hgy342 := (hfvy12 (883 + 1) (by omega)).trans hP.2.1
                  have hgy343 := (hfvy17 (883 + 1) (by omega)).trans hgy342
                  have hgy344 := (hfvy38 (883 + 1) (by omega)).trans hgy343
                  have hgy345 := (hfvy43 (883 + 1) (by omega)).trans hgy344
                  have hgy346 := (hfvy48 (883 + 1) (by omega)).trans hgy345
                  have hgy347 := (hfvy53 (883 + 1) (by omega)).trans hgy346
                  have hgy348 := (hfvy12 (883 + 2) (by omega)).trans hP.2.2.1
                  have hgy349 := (hfvy17 (883 + 2) (by omega)).trans hgy348
                  have hgy350 := (hfvy38 (883 + 2) (by omega)).trans hgy349
                  have hgy351 := (hfvy43 (883 + 2) (by omega)).trans hgy350
                  have hgy352 := (hfvy48 (883 + 2) (by omega)).trans hgy351
                  have hgy353 := (hfvy53 (883 + 2) (by omega)).trans hgy352
                  have hgy354 := (hfvy12 (883 + 3) (by omega)).trans hP.2.2.2.1
                  have hgy355 := (hfvy17 (883 + 3) (by omega)).trans hgy354
                  have hgy356 := (hfvy38 (883 + 3) (by omega)).trans hgy355
                  have hgy357 := (hfvy43 (883 + 3) (by omega)).trans hgy356
                  have hgy358 := (hfvy48 (883 + 3) (by omega)).trans hgy357
                  have hgy359 := (hfvy53 (883 + 3) (by omega)).trans hgy358
                  have hgy360 := (hfvy12 (883 + 4) (by omega)).trans hP.2.2.2.2.1
                  have hgy361 := (hfvy17 (883 + 4) (by omega)).trans hgy360
                  have hgy362 := (hfvy38 (883 + 4) (by omega)).trans hgy361
                  have hgy363 := (hfvy43 (883 + 4) (by omega)).trans hgy362
                  have hgy364 := (hfvy48 (883 + 4) (by omega)).trans hgy363
                  have hgy365 := (hfvy53 (883 + 4) (by omega)).trans hgy364
                  have hgy366 := (hfvy12 (883 + 5) (by omega)).trans hP.2.2.2.2.2.1
                  have hgy367 := (hfvy17 (883 + 5) (by omega)).trans hgy366
                  have hgy368 := (hfvy38 (883 + 5) (by omega)).trans hgy367
                  have hgy369 := (hfvy43 (883 + 5) (by omega)).trans hgy368
                  have hgy370 := (hfvy48 (883 + 5) (by omega)).trans hgy369
                  have hgy371 := (hfvy53 (883 + 5) (by omega)).trans hgy370
                  have hgy372 := (hfvy12 (883 + 6) (by omega)).trans hP.2.2.2.2.2.2
                  have hgy373 := (hfvy17 (883 + 6) (by omega)).trans hgy372
                  have hgy374 := (hfvy38 (883 + 6) (by omega)).trans hgy373
                  have hgy375 := (hfvy43 (883 + 6) (by omega)).trans hgy374
                  have hgy376 := (hfvy48 (883 + 6) (by omega)).trans hgy375
                  have hgy377 := (hfvy53 (883 + 6) (by omega)).trans hgy376
                  exact z_vret C hr hlk dX7_readLayer_162 (by decide) (by decide) ⟨rfl, rfl, rfl, Or.inr ⟨(cvy53, (tk_nx T n (tk_nx T n (tk_nx T n (tk_nx T n (tk_nx T n f)))))), by simp only [cl_fin, cl_layer, cl_layer2, hnvy17, if_neg hscy24, if_neg hscy36, if_neg hnevy38, hnvy43, hnvy48, hnvy53], ⟨by show 1 ≤ cvy53 ∧ cvy53 ≤ 5; omega, _, _, _, _, _, _, by omega, by omega, hkvy53, hgy335⟩, ⟨hgy341, hgy347, hgy353, hgy359, hgy365, hgy371, hgy377⟩, hW9⟩, fun j j1 j2 => by rw [hfvy53 _ (by omega)]; rw [hfvy48 _ (by omega)]; rw [hfvy43 _ (by omega)]; rw [hfvy38 _ (by omega)]; rw [hfvy17 _ (by omega)]; rw [hfvy12 _ (by omega)]⟩
                · refine z_aload_n C 5 dX7_readLayer_98 rfl ?_
                  refine z_iconst (z := 5) C dX7_readLayer_99 rfl ?_
                  refine z_aload_n C 5 dX7_readLayer_100 rfl ?_
                  refine z_get (v := .int (zI (((tk_nx T n (tk_nx T n (tk_nx T n (tk_nx T n f)))) : Int)))) C (lt_K hN (rfl : Nat.blt (2) 952 = true)) hay1 hkvy53 rfl inA_X7 7 (by decide) q_51 rfl rfl dX7_readLayer_101 ?_
                  refine z_cV (As := [.int (zI (5)), .int (zI (((tk_nx T n (tk_nx T n (tk_nx T n (tk_nx T n f)))) : Int)))]) (rest := []) (ci := 9) C (c_fFail l D A cs tt N ad _ (by omega) _ _ _ _ _ _ _ _ (by omega) hkvy53 (5) (((tk_nx T n (tk_nx T n (tk_nx T n (tk_nx T n f)))) : Int))) (lt_K hN (rfl : Nat.blt (2) 952 = true)) hay1 hkvy53 rfl rfl mv_yX7_fail q_809 hd_yX7_fail (by decide) (Nat.le_of_ble_eq_true rfl) (by decide) dX7_readLayer_104 rfl (kV0 fun gvy378 hvy378 => ?_)
                  obtain rfl := hvy378
                  refine z_aload_n C 5 dX7_readLayer_107 rfl ?_
                  refine z_iconst (z := 0) C dX7_readLayer_108 rfl ?_
                  refine z_sipush (z := 300) C dX7_readLayer_109 (by decide) ?_
                  have hgy380 := (hfvy53 (1) (by decide)).trans hgy52
                  have hruny379 : okRun cs ad gvy53 (cvy53) tp := ⟨_, _, _, _, _, _, _, by omega, by omega, hkvy53, hgy380⟩
                  refine z_cV (As := [.int (zI (0)), .int (zI (300))]) (rest := []) (ci := 9) C (c_fNumber l D A cs tt N ad _ (by omega) _ tp hruny379 (by omega) (0) (by omega) (300) (by omega)) (lt_K hN (rfl : Nat.blt (2) 952 = true)) hay1 hkvy53 rfl rfl mv_yX7_number q_817 hd_yX7_number (by decide) (Nat.le_of_ble_eq_true rfl) (by decide) dX7_readLayer_112 rfl (kI0 fun vy381 gvy381 hvy381 => ?_)
                  obtain ⟨hvy381, rfl⟩ := hvy381
                  refine z_istore (lv' := [(8, .int (zI (vy381))), (7, .int (zI (0))), (6, .int (zI (vy48))), (5, .int (zI (vy43))), (4, .int (zI (tk_kd T n (tk_nx T n (tk_nx T n f))))), (3, .int (zI (vy17))), (0, .ref (ad 2)), (1, .ref (ad 883)), (2, .ref (ad 890))]) C dX7_readLayer_115 (by decide) rfl ?_
                  refine z_aload_n C 6 dX7_readLayer_117 rfl ?_
                  refine z_cV (As := []) (rest := []) (ci := 9) C (c_fClose l D A cs tt N ad _ (by omega) _ _ _ _ _ _ _ _ (by omega) (by omega) hkvy53) (lt_K hN (rfl : Nat.blt (2) 952 = true)) hay1 hkvy53 rfl rfl mv_yX7_close q_821 hd_yX7_close (by decide) (Nat.le_of_ble_eq_true rfl) (by decide) dX7_readLayer_118 rfl (kV0 fun gvy382 hvy382 => ?_)
                  obtain rfl := hvy382
                  refine z_aload_n C 6 dX7_readLayer_121 rfl ?_
                  refine z_get (v := .int (zI (cvy53))) C (lt_K hN (rfl : Nat.blt (2) 952 = true)) hay1 hkvy53 rfl inA_X7 1 (by decide) q_45 rfl rfl dX7_readLayer_122 ?_
                  refine z_if_ne (tgt := 162) C dX7_readLayer_125 (by decide) (by omega) (fun _ => ?_) (fun h => absurd h (by omega))
                  have hW9 : isWorld cs ad gvy53 890 wt wz wo wr := hW.mv (fun _ _ _ => rfl) (fun j j1 j2 => by rw [hfvy53 _ (by omega)]; rw [hfvy48 _ (by omega)]; rw [hfvy43 _ (by omega)]; rw [hfvy38 _ (by omega)]; rw [hfvy17 _ (by omega)]; rw [hfvy12 _ (by omega)])
                  have hgy383 := (hfvy38 (883) (by decide)).trans hgy22
                  have hgy384 := (hfvy43 (883) (by decide)).trans hgy383
                  have hgy385 := (hfvy48 (883) (by decide)).trans hgy384
                  have hgy386 := (hfvy53 (883) (by decide)).trans hgy385
                  have hgy387 := (hfvy12 (883 + 1) (by omega)).trans hP.2.1
                  have hgy388 := (hfvy17 (883 + 1) (by omega)).trans hgy387
                  have hgy389 := (hfvy38 (883 + 1) (by omega)).trans hgy388
                  have hgy390 := (hfvy43 (883 + 1) (by omega)).trans hgy389
                  have hgy391 := (hfvy48 (883 + 1) (by omega)).trans hgy390
                  have hgy392 := (hfvy53 (883 + 1) (by omega)).trans hgy391
                  have hgy393 := (hfvy12 (883 + 2) (by omega)).trans hP.2.2.1
                  have hgy394 := (hfvy17 (883 + 2) (by omega)).trans hgy393
                  have hgy395 := (hfvy38 (883 + 2) (by omega)).trans hgy394
                  have hgy396 := (hfvy43 (883 + 2) (by omega)).trans hgy395
                  have hgy397 := (hfvy48 (883 + 2) (by omega)).trans hgy396
                  have hgy398 := (hfvy53 (883 + 2) (by omega)).trans hgy397
                  have hgy399 := (hfvy12 (883 + 3) (by omega)).trans hP.2.2.2.1
                  have hgy400 := (hfvy17 (883 + 3) (by omega)).trans hgy399
                  have hgy401 := (hfvy38 (883 + 3) (by omega)).trans hgy400
                  have hgy402 := (hfvy43 (883 + 3) (by omega)).trans hgy401
                  have hgy403 := (hfvy48 (883 + 3) (by omega)).trans hgy402
                  have hgy404 := (hfvy53 (883 + 3) (by omega)).trans hgy403
                  have hgy405 := (hfvy12 (883 + 4) (by omega)).trans hP.2.2.2.2.1
                  have hgy406 := (hfvy17 (883 + 4) (by omega)).trans hgy405
                  have hgy407 := (hfvy38 (883 + 4) (by omega)).trans hgy406
                  have hgy408 := (hfvy43 (883 + 4) (by omega)).trans hgy407
                  have hgy409 := (hfvy48 (883 + 4) (by omega)).trans hgy408
                  have hgy410 := (hfvy53 (883 + 4) (by omega)).trans hgy409
                  have hgy411 := (hfvy12 (883 + 5) (by omega)).trans hP.2.2.2.2.2.1
                  have hgy412 := (hfvy17 (883 + 5) (by omega)).trans hgy411
                  have hgy413 := (hfvy38 (883 + 5) (by omega)).trans hgy412
                  have hgy414 := (hfvy43 (883 + 5) (by omega)).trans hgy413
                  have hgy415 := (hfvy48 (883 + 5) (by omega)).trans hgy414
                  have hgy416 := (hfvy53 (883 + 5) (by omega)).trans hgy415
                  have hgy417 := (hfvy12 (883 + 6) (by omega)).trans hP.2.2.2.2.2.2
                  have hgy418 := (hfvy17 (883 + 6) (by omega)).trans hgy417
                  have hgy419 := (hfvy38 (883 + 6) (by omega)).trans hgy418
                  have hgy420 := (hfvy43 (883 + 6) (by omega)).trans hgy419
                  have hgy421 := (hfvy48 (883 + 6) (by omega)).trans hgy420
                  have hgy422 := (hfvy53 (883 + 6) (by omega)).trans hgy421
                  exact z_vret C hr hlk dX7_readLayer_162 (by decide) (by decide) ⟨rfl, rfl, rfl, Or.inr ⟨(cvy53, (tk_nx T n (tk_nx T n (tk_nx T n (tk_nx T n (tk_nx T n f)))))), by simp only [cl_fin, cl_layer, cl_layer2, hnvy17, if_neg hscy24, if_neg hscy36, if_neg hnevy38, hnvy43, hnvy48, hnvy53], ⟨by show 1 ≤ cvy53 ∧ cvy53 ≤ 5; omega, _, _, _, _, _, _, by omega, by omega, hkvy53, hgy380⟩, ⟨hgy386, hgy392, hgy398, hgy404, hgy410, hgy416, hgy422⟩, hW9⟩, fun j j1 j2 => by rw [hfvy53 _ (by omega)]; rw [hfvy48 _ (by omega)]; rw [hfvy43 _ (by omega)]; rw [hfvy38 _ (by omega)]; rw [hfvy17 _ (by omega)]; rw [hfvy12 _ (by omega)]⟩
            · obtain ⟨cvy48, hcvy48, hnvy48, rfl, hkvy48⟩ := hvy48
              refine z_istore (lv' := [(6, .int (zI (0))), (5, .int (zI (vy43))), (4, .int (zI (tk_kd T n (tk_nx T n (tk_nx T n f))))), (3, .int (zI (vy17))), (0, .ref (ad 2)), (1, .ref (ad 883)), (2, .ref (ad 890))]) C dX7_readLayer_76 (by decide) rfl ?_
              refine z_aload_n C 4 dX7_readLayer_78 rfl ?_
              refine z_iconst (z := 1) C dX7_readLayer_79 rfl ?_
              refine z_sipush (z := 999) C dX7_readLayer_80 (by decide) ?_
              have hgy424 := (hfvy48 (1) (by decide)).trans hgy47
              have hruny423 : okRun cs ad gvy48 (cvy48) tp := ⟨_, _, _, _, _, _, _, by omega, by omega, hkvy48, hgy424⟩
              refine z_cV (As := [.int (zI (1)), .int (zI (999))]) (rest := []) (ci := 9) C (c_fNumber l D A cs tt N ad _ (by omega) _ tp hruny423 (by omega) (1) (by omega) (999) (by omega)) (lt_K hN (rfl : Nat.blt (2) 952 = true)) hay1 hkvy48 rfl rfl mv_yX7_number q_817 hd_yX7_number (by decide) (Nat.le_of_ble_eq_true rfl) (by decide) dX7_readLayer_83 rfl (kI0 fun vy425 gvy425 hvy425 => ?_)
              obtain ⟨hvy425, rfl⟩ := hvy425
              refine z_istore (lv' := [(7, .int (zI (vy425))), (6, .int (zI (0))), (5, .int (zI (vy43))), (4, .int (zI (tk_kd T n (tk_nx T n (tk_nx T n f))))), (3, .int (zI (vy17))), (0, .ref (ad 2)), (1, .ref (ad 883)), (2, .ref (ad 890))]) C dX7_readLayer_86 (by decide) rfl ?_
              refine z_iload C 0 dX7_readLayer_88 rfl ?_
              refine z_iload C 2 dX7_readLayer_90 rfl ?_
              refine z_iload C 1 dX7_readLayer_92 rfl ?_
              refine z_iadd C dX7_readLayer_94 ?_
              refine z_icmp_ge (tgt := 107) C dX7_readLayer_95 (by decide) (by omega) (by omega) (fun hby426 => ?_) (fun hby426 => ?_)
              · refine z_aload_n C 5 dX7_readLayer_107 rfl ?_
                refine z_iconst (z := 0) C dX7_readLayer_108 rfl ?_
                refine z_sipush (z := 300) C dX7_readLayer_109 (by decide) ?_
                have hruny427 : okRun cs ad gvy48 (cvy48) tp := ⟨_, _, _, _, _, _, _, by omega, by omega, hkvy48, hgy424⟩
                refine z_cV (As := [.int (zI (0)), .int (zI (300))]) (rest := []) (ci := 9) C (c_fNumber l D A cs tt N ad _ (by omega) _ tp hruny427 (by omega) (0) (by omega) (300) (by omega)) (lt_K hN (rfl : Nat.blt (2) 952 = true)) hay1 hkvy48 rfl rfl mv_yX7_number q_817 hd_yX7_number (by decide) (Nat.le_of_ble_eq_true rfl) (by decide) dX7_readLayer_112 rfl (kI0 fun vy428 gvy428 hvy428 => ?_)
                obtain ⟨hvy428, rfl⟩ := hvy428
                refine z_istore (lv' := [(8, .int (zI (vy428))), (7, .int (zI (vy425))), (6, .int (zI (0))), (5, .int (zI (vy43))), (4, .int (zI (tk_kd T n (tk_nx T n (tk_nx T n f))))), (3, .int (zI (vy17))), (0, .ref (ad 2)), (1, .ref (ad 883)), (2, .ref (ad 890))]) C dX7_readLayer_115 (by decide) rfl ?_
                refine z_aload_n C 6 dX7_readLayer_117 rfl ?_
                refine z_cV (As := []) (rest := []) (ci := 9) C (c_fClose l D A cs tt N ad _ (by omega) _ _ _ _ _ _ _ _ (by omega) (by omega) hkvy48) (lt_K hN (rfl : Nat.blt (2) 952 = true)) hay1 hkvy48 rfl rfl mv_yX7_close q_821 hd_yX7_close (by decide) (Nat.le_of_ble_eq_true rfl) (by decide) dX7_readLayer_118 rfl (kV0 fun gvy429 hvy429 => ?_)
                obtain rfl := hvy429
                refine z_aload_n C 6 dX7_readLayer_121 rfl ?_
                refine z_get (v := .int (zI (cvy48))) C (lt_K hN (rfl : Nat.blt (2) 952 = true)) hay1 hkvy48 rfl inA_X7 1 (by decide) q_45 rfl rfl dX7_readLayer_122 ?_
                refine z_if_ne (tgt := 162) C dX7_readLayer_125 (by decide) (by omega) (fun _ => ?_) (fun h => absurd h (by omega))
                have hW9 : isWorld cs ad gvy48 890 wt wz wo wr := hW.mv (fun _ _ _ => rfl) (fun j j1 j2 => by rw [hfvy48 _ (by omega)]; rw [hfvy43 _ (by omega)]; rw [hfvy38 _ (by omega)]; rw [hfvy17 _ (by omega)]; rw [hfvy12 _ (by omega)])
                have hgy430 := (hfvy38 (883) (by decide)).trans hgy22
                have hgy431 := (hfvy43 (883) (by decide)).trans hgy430
                have hgy432 := (hfvy48 (883) (by decide)).trans hgy431
                have hgy433 := (hfvy12 (883 + 1) (by omega)).trans hP.2.1
                have hgy434 := (hfvy17 (883 + 1) (by omega)).trans hgy433
                have hgy435 := (hfvy38 (883 + 1) (by omega)).trans hgy434
                have hgy436 := (hfvy43 (883 + 1) (by omega)).trans hgy435
                have hgy437 := (hfvy48 (883 + 1) (by omega)).trans hgy436
                have hgy438 := (hfvy12 (883 + 2) (by omega)).trans hP.2.2.1
                have hgy439 := (hfvy17 (883 + 2) (by omega)).trans hgy438
                have hgy440 := (hfvy38 (883 + 2) (by omega)).trans hgy439
                have hgy441 := (hfvy43 (883 + 2) (by omega)).trans hgy440
                have hgy442 := (hfvy48 (883 + 2) (by omega)).trans hgy441
                have hgy443 := (hfvy12 (883 + 3) (by omega)).trans hP.2.2.2.1
                have hgy444 := (hfvy17 (883 + 3) (by omega)).trans hgy443
                have hgy445 := (hfvy38 (883 + 3) (by omega)).trans hgy444
                have hgy446 := (hfvy43 (883 + 3) (by omega)).trans hgy445
                have hgy447 := (hfvy48 (883 + 3) (by omega)).trans hgy446
                have hgy448 := (hfvy12 (883 + 4) (by omega)).trans hP.2.2.2.2.1
                have hgy449 := (hfvy17 (883 + 4) (by omega)).trans hgy448
                have hgy450 := (hfvy38 (883 + 4) (by omega)).trans hgy449
                have hgy451 := (hfvy43 (883 + 4) (by omega)).trans hgy450
                have hgy452 := (hfvy48 (883 + 4) (by omega)).trans hgy451
                have hgy453 := (hfvy12 (883 + 5) (by omega)).trans hP.2.2.2.2.2.1
                have hgy454 := (hfvy17 (883 + 5) (by omega)).trans hgy453
                have hgy455 := (hfvy38 (883 + 5) (by omega)).trans hgy454
                have hgy456 := (hfvy43 (883 + 5) (by omega)).trans hgy455
                have hgy457 := (hfvy48 (883 + 5) (by omega)).trans hgy456
                have hgy458 := (hfvy12 (883 + 6) (by omega)).trans hP.2.2.2.2.2.2
                have hgy459 := (hfvy17 (883 + 6) (by omega)).trans hgy458
                have hgy460 := (hfvy38 (883 + 6) (by omega)).trans hgy459
                have hgy461 := (hfvy43 (883 + 6) (by omega)).trans hgy460
                have hgy462 := (hfvy48 (883 + 6) (by omega)).trans hgy461
                exact z_vret C hr hlk dX7_readLayer_162 (by decide) (by decide) ⟨rfl, rfl, rfl, Or.inr ⟨(cvy48, (tk_nx T n (tk_nx T n (tk_nx T n (tk_nx T n f))))), by simp only [cl_fin, cl_layer, cl_layer2, hnvy17, if_neg hscy24, if_neg hscy36, if_neg hnevy38, hnvy43, hnvy48], ⟨by show 1 ≤ cvy48 ∧ cvy48 ≤ 5; omega, _, _, _, _, _, _, by omega, by omega, hkvy48, hgy424⟩, ⟨hgy432, hgy437, hgy442, hgy447, hgy452, hgy457, hgy462⟩, hW9⟩, fun j j1 j2 => by rw [hfvy48 _ (by omega)]; rw [hfvy43 _ (by omega)]; rw [hfvy38 _ (by omega)]; rw [hfvy17 _ (by omega)]; rw [hfvy12 _ (by omega)]⟩
              · refine z_aload_n C 5 dX7_readLayer_98 rfl ?_
                refine z_iconst (z := 5) C dX7_readLayer_99 rfl ?_
                refine z_aload_n C 5 dX7_readLayer_100 rfl ?_
                refine z_get (v := .int (zI (((tk_nx T n (tk_nx T n (tk_nx T n f))) : Int)))) C (lt_K hN (rfl : Nat.blt (2) 952 = true)) hay1 hkvy48 rfl inA_X7 7 (by decide) q_51 rfl rfl dX7_readLayer_101 ?_
                refine z_cV (As := [.int (zI (5)), .int (zI (((tk_nx T n (tk_nx T n (tk_nx T n f))) : Int)))]) (rest := []) (ci := 9) C (c_fFail l D A cs tt N ad _ (by omega) _ _ _ _ _ _ _ _ (by omega) hkvy48 (5) (((tk_nx T n (tk_nx T n (tk_nx T n f))) : Int))) (lt_K hN (rfl : Nat.blt (2) 952 = true)) hay1 hkvy48 rfl rfl mv_yX7_fail q_809 hd_yX7_fail (by decide) (Nat.le_of_ble_eq_true rfl) (by decide) dX7_readLayer_104 rfl (kV0 fun gvy463 hvy463 => ?_)
                obtain rfl := hvy463
                refine z_aload_n C 5 dX7_readLayer_107 rfl ?_
                refine z_iconst (z := 0) C dX7_readLayer_108 rfl ?_
                refine z_sipush (z := 300) C dX7_readLayer_109 (by decide) ?_
                have hruny464 : okRun cs ad gvy48 (cvy48) tp := ⟨_, _, _, _, _, _, _, by omega, by omega, hkvy48, hgy424⟩
                refine z_cV (As := [.int (zI (0)), .int (zI (300))]) (rest := []) (ci := 9) C (c_fNumber l D A cs tt N ad _ (by omega) _ tp hruny464 (by omega) (0) (by omega) (300) (by omega)) (lt_K hN (rfl : Nat.blt (2) 952 = true)) hay1 hkvy48 rfl rfl mv_yX7_number q_817 hd_yX7_number (by decide) (Nat.le_of_ble_eq_true rfl) (by decide) dX7_readLayer_112 rfl (kI0 fun vy465 gvy465 hvy465 => ?_)
                obtain ⟨hvy465, rfl⟩ := hvy465
                refine z_istore (lv' := [(8, .int (zI (vy465))), (7, .int (zI (vy425))), (6, .int (zI (0))), (5, .int (zI (vy43))), (4, .int (zI (tk_kd T n (tk_nx T n (tk_nx T n f))))), (3, .int (zI (vy17))), (0, .ref (ad 2)), (1, .ref (ad 883)), (2, .ref (ad 890))]) C dX7_readLayer_115 (by decide) rfl ?_
                refine z_aload_n C 6 dX7_readLayer_117 rfl ?_
                refine z_cV (As := []) (rest := []) (ci := 9) C (c_fClose l D A cs tt N ad _ (by omega) _ _ _ _ _ _ _ _ (by omega) (by omega) hkvy48) (lt_K hN (rfl : Nat.blt (2) 952 = true)) hay1 hkvy48 rfl rfl mv_yX7_close q_821 hd_yX7_close (by decide) (Nat.le_of_ble_eq_true rfl) (by decide) dX7_readLayer_118 rfl (kV0 fun gvy466 hvy466 => ?_)
                obtain rfl := hvy466
                refine z_aload_n C 6 dX7_readLayer_121 rfl ?_
                refine z_get (v := .int (zI (cvy48))) C (lt_K hN (rfl : Nat.blt (2) 952 = true)) hay1 hkvy48 rfl inA_X7 1 (by decide) q_45 rfl rfl dX7_readLayer_122 ?_
                refine z_if_ne (tgt := 162) C dX7_readLayer_125 (by decide) (by omega) (fun _ => ?_) (fun h => absurd h (by omega))
                have hW9 : isWorld cs ad gvy48 890 wt wz wo wr := hW.mv (fun _ _ _ => rfl) (fun j j1 j2 => by rw [hfvy48 _ (by omega)]; rw [hfvy43 _ (by omega)]; rw [hfvy38 _ (by omega)]; rw [hfvy17 _ (by omega)]; rw [hfvy12 _ (by omega)])
                have hgy467 := (hfvy38 (883) (by decide)).trans hgy22
                have hgy468 := (hfvy43 (883) (by decide)).trans hgy467
                have hgy469 := (hfvy48 (883) (by decide)).trans hgy468
                have hgy470 := (hfvy12 (883 + 1) (by omega)).trans hP.2.1
                have hgy471 := (hfvy17 (883 + 1) (by omega)).trans hgy470
                have hgy472 := (hfvy38 (883 + 1) (by omega)).trans hgy471
                have hgy473 := (hfvy43 (883 + 1) (by omega)).trans hgy472
                have hgy474 := (hfvy48 (883 + 1) (by omega)).trans hgy473
                have hgy475 := (hfvy12 (883 + 2) (by omega)).trans hP.2.2.1
                have hgy476 := (hfvy17 (883 + 2) (by omega)).trans hgy475
                have hgy477 := (hfvy38 (883 + 2) (by omega)).trans hgy476
                have hgy478 := (hfvy43 (883 + 2) (by omega)).trans hgy477
                have hgy479 := (hfvy48 (883 + 2) (by omega)).trans hgy478
                have hgy480 := (hfvy12 (883 + 3) (by omega)).trans hP.2.2.2.1
                have hgy481 := (hfvy17 (883 + 3) (by omega)).trans hgy480
                have hgy482 := (hfvy38 (883 + 3) (by omega)).trans hgy481
                have hgy483 := (hfvy43 (883 + 3) (by omega)).trans hgy482
                have hgy484 := (hfvy48 (883 + 3) (by omega)).trans hgy483
                have hgy485 := (hfvy12 (883 + 4) (by omega)).trans hP.2.2.2.2.1
                have hgy486 := (hfvy17 (883 + 4) (by omega)).trans hgy485
                have hgy487 := (hfvy38 (883 + 4) (by omega)).trans hgy486
                have hgy488 := (hfvy43 (883 + 4) (by omega)).trans hgy487
                have hgy489 := (hfvy48 (883 + 4) (by omega)).trans hgy488
                have hgy490 := (hfvy12 (883 + 5) (by omega)).trans hP.2.2.2.2.2.1
                have hgy491 := (hfvy17 (883 + 5) (by omega)).trans hgy490
                have hgy492 := (hfvy38 (883 + 5) (by omega)).trans hgy491
                have hgy493 := (hfvy43 (883 + 5) (by omega)).trans hgy492
                have hgy494 := (hfvy48 (883 + 5) (by omega)).trans hgy493
                have hgy495 := (hfvy12 (883 + 6) (by omega)).trans hP.2.2.2.2.2.2
                have hgy496 := (hfvy17 (883 + 6) (by omega)).trans hgy495
                have hgy497 := (hfvy38 (883 + 6) (by omega)).trans hgy496
                have hgy498 := (hfvy43 (883 + 6) (by omega)).trans hgy497
                have hgy499 := (hfvy48 (883 + 6) (by omega)).trans hgy498
                exact z_vret C hr hlk dX7_readLayer_162 (by decide) (by decide) ⟨rfl, rfl, rfl, Or.inr ⟨(cvy48, (tk_nx T n (tk_nx T n (tk_nx T n (tk_nx T n f))))), by simp only [cl_fin, cl_layer, cl_layer2, hnvy17, if_neg hscy24, if_neg hscy36, if_neg hnevy38, hnvy43, hnvy48], ⟨by show 1 ≤ cvy48 ∧ cvy48 ≤ 5; omega, _, _, _, _, _, _, by omega, by omega, hkvy48, hgy424⟩, ⟨hgy469, hgy474, hgy479, hgy484, hgy489, hgy494, hgy499⟩, hW9⟩, fun j j1 j2 => by rw [hfvy48 _ (by omega)]; rw [hfvy43 _ (by omega)]; rw [hfvy38 _ (by omega)]; rw [hfvy17 _ (by omega)]; rw [hfvy12 _ (by omega)]⟩
          · obtain ⟨cvy43, hcvy43, hnvy43, rfl, hkvy43⟩ := hvy43
            refine z_istore (lv' := [(5, .int (zI (0))), (4, .int (zI (tk_kd T n (tk_nx T n (tk_nx T n f))))), (3, .int (zI (vy17))), (0, .ref (ad 2)), (1, .ref (ad 883)), (2, .ref (ad 890))]) C dX7_readLayer_67 (by decide) rfl ?_
            refine z_aload_n C 3 dX7_readLayer_69 rfl ?_
            refine z_iconst (z := 0) C dX7_readLayer_70 rfl ?_
            refine z_bipush (z := 99) C dX7_readLayer_71 (by decide) ?_
            have hgy501 := (hfvy43 (1) (by decide)).trans hgy42
            have hruny500 : okRun cs ad gvy43 (cvy43) tp := ⟨_, _, _, _, _, _, _, by omega, by omega, hkvy43, hgy501⟩
            refine z_cV (As := [.int (zI (0)), .int (zI (99))]) (rest := []) (ci := 9) C (c_fNumber l D A cs tt N ad _ (by omega) _ tp hruny500 (by omega) (0) (by omega) (99) (by omega)) (lt_K hN (rfl : Nat.blt (2) 952 = true)) hay1 hkvy43 rfl rfl mv_yX7_number q_817 hd_yX7_number (by decide) (Nat.le_of_ble_eq_true rfl) (by decide) dX7_readLayer_73 rfl (kI0 fun vy502 gvy502 hvy502 => ?_)
            obtain ⟨hvy502, rfl⟩ := hvy502
            refine z_istore (lv' := [(6, .int (zI (vy502))), (5, .int (zI (0))), (4, .int (zI (tk_kd T n (tk_nx T n (tk_nx T n f))))), (3, .int (zI (vy17))), (0, .ref (ad 2)), (1, .ref (ad 883)), (2, .ref (ad 890))]) C dX7_readLayer_76 (by decide) rfl ?_
            refine z_aload_n C 4 dX7_readLayer_78 rfl ?_
            refine z_iconst (z := 1) C dX7_readLayer_79 rfl ?_
            refine z_sipush (z := 999) C dX7_readLayer_80 (by decide) ?_
            have hruny503 : okRun cs ad gvy43 (cvy43) tp := ⟨_, _, _, _, _, _, _, by omega, by omega, hkvy43, hgy501⟩
            refine z_cV (As := [.int (zI (1)), .int (zI (999))]) (rest := []) (ci := 9) C (c_fNumber l D A cs tt N ad _ (by omega) _ tp hruny503 (by omega) (1) (by omega) (999) (by omega)) (lt_K hN (rfl : Nat.blt (2) 952 = true)) hay1 hkvy43 rfl rfl mv_yX7_number q_817 hd_yX7_number (by decide) (Nat.le_of_ble_eq_true rfl) (by decide) dX7_readLayer_83 rfl (kI0 fun vy504 gvy504 hvy504 => ?_)
            obtain ⟨hvy504, rfl⟩ := hvy504
            refine z_istore (lv' := [(7, .int (zI (vy504))), (6, .int (zI (vy502))), (5, .int (zI (0))), (4, .int (zI (tk_kd T n (tk_nx T n (tk_nx T n f))))), (3, .int (zI (vy17))), (0, .ref (ad 2)), (1, .ref (ad 883)), (2, .ref (ad 890))]) C dX7_readLayer_86 (by decide) rfl ?_
            refine z_iload C 0 dX7_readLayer_88 rfl ?_
            refine z_iload C 2 dX7_readLayer_90 rfl ?_
            refine z_iload C 1 dX7_readLayer_92 rfl ?_
            refine z_iadd C dX7_readLayer_94 ?_
            refine z_icmp_ge (tgt := 107) C dX7_readLayer_95 (by decide) (by omega) (by omega) (fun hby505 => ?_) (fun hby505 => ?_)
            · refine z_aload_n C 5 dX7_readLayer_107 rfl ?_
              refine z_iconst (z := 0) C dX7_readLayer_108 rfl ?_
              refine z_sipush (z := 300) C dX7_readLayer_109 (by decide) ?_
              have hruny506 : okRun cs ad gvy43 (cvy43) tp := ⟨_, _, _, _, _, _, _, by omega, by omega, hkvy43, hgy501⟩
              refine z_cV (As := [.int (zI (0)), .int (zI (300))]) (rest := []) (ci := 9) C (c_fNumber l D A cs tt N ad _ (by omega) _ tp hruny506 (by omega) (0) (by omega) (300) (by omega)) (lt_K hN (rfl : Nat.blt (2) 952 = true)) hay1 hkvy43 rfl rfl mv_yX7_number q_817 hd_yX7_number (by decide) (Nat.le_of_ble_eq_true rfl) (by decide) dX7_readLayer_112 rfl (kI0 fun vy507 gvy507 hvy507 => ?_)
              obtain ⟨hvy507, rfl⟩ := hvy507
              refine z_istore (lv' := [(8, .int (zI (vy507))), (7, .int (zI (vy504))), (6, .int (zI (vy502))), (5, .int (zI (0))), (4, .int (zI (tk_kd T n (tk_nx T n (tk_nx T n f))))), (3, .int (zI (vy17))), (0, .ref (ad 2)), (1, .ref (ad 883)), (2, .ref (ad 890))]) C dX7_readLayer_115 (by decide) rfl ?_
              refine z_aload_n C 6 dX7_readLayer_117 rfl ?_
              refine z_cV (As := []) (rest := []) (ci := 9) C (c_fClose l D A cs tt N ad _ (by omega) _ _ _ _ _ _ _ _ (by omega) (by omega) hkvy43) (lt_K hN (rfl : Nat.blt (2) 952 = true)) hay1 hkvy43 rfl rfl mv_yX7_close q_821 hd_yX7_close (by decide) (Nat.le_of_ble_eq_true rfl) (by decide) dX7_readLayer_118 rfl (kV0 fun gvy508 hvy508 => ?_)
              obtain rfl := hvy508
              refine z_aload_n C 6 dX7_readLayer_121 rfl ?_
              refine z_get (v := .int (zI (cvy43))) C (lt_K hN (rfl : Nat.blt (2) 952 = true)) hay1 hkvy43 rfl inA_X7 1 (by decide) q_45 rfl rfl dX7_readLayer_122 ?_
              refine z_if_ne (tgt := 162) C dX7_readLayer_125 (by decide) (by omega) (fun _ => ?_) (fun h => absurd h (by omega))
              have hW9 : isWorld cs ad gvy43 890 wt wz wo wr := hW.mv (fun _ _ _ => rfl) (fun j j1 j2 => by rw [hfvy43 _ (by omega)]; rw [hfvy38 _ (by omega)]; rw [hfvy17 _ (by omega)]; rw [hfvy12 _ (by omega)])
              have hgy509 := (hfvy38 (883) (by decide)).trans hgy22
              have hgy510 := (hfvy43 (883) (by decide)).trans hgy509
              have hgy511 := (hfvy12 (883 + 1) (by omega)).trans hP.2.1
              have hgy512 := (hfvy17 (883 + 1) (by omega)).trans hgy511
              have hgy513 := (hfvy38 (883 + 1) (by omega)).trans hgy512
              have hgy514 := (hfvy43 (883 + 1) (by omega)).trans hgy513
              have hgy515 := (hfvy12 (883 + 2) (by omega)).trans hP.2.2.1
              have hgy516 := (hfvy17 (883 + 2) (by omega)).trans hgy515
              have hgy517 := (hfvy38 (883 + 2) (by omega)).trans hgy516
              have hgy518 := (hfvy43 (883 + 2) (by omega)).trans hgy517
              have hgy519 := (hfvy12 (883 + 3) (by omega)).trans hP.2.2.2.1
              have hgy520 := (hfvy17 (883 + 3) (by omega)).trans hgy519
              have hgy521 := (hfvy38 (883 + 3) (by omega)).trans hgy520
              have hgy522 := (hfvy43 (883 + 3) (by omega)).trans hgy521
              have hgy523 := (hfvy12 (883 + 4) (by omega)).trans hP.2.2.2.2.1
              have hgy524 := (hfvy17 (883 + 4) (by omega)).trans hgy523
              have hgy525 := (hfvy38 (883 + 4) (by omega)).trans hgy524
              have hgy526 := (hfvy43 (883 + 4) (by omega)).trans hgy525
              have hgy527 := (hfvy12 (883 + 5) (by omega)).trans hP.2.2.2.2.2.1
              have hgy528 := (hfvy17 (883 + 5) (by omega)).trans hgy527
              have hgy529 := (hfvy38 (883 + 5) (by omega)).trans hgy528
              have hgy530 := (hfvy43 (883 + 5) (by omega)).trans hgy529
              have hgy531 := (hfvy12 (883 + 6) (by omega)).trans hP.2.2.2.2.2.2
              have hgy532 := (hfvy17 (883 + 6) (by omega)).trans hgy531
              have hgy533 := (hfvy38 (883 + 6) (by omega)).trans hgy532
              have hgy534 := (hfvy43 (883 + 6) (by omega)).trans hgy533
              exact z_vret C hr hlk dX7_readLayer_162 (by decide) (by decide) ⟨rfl, rfl, rfl, Or.inr ⟨(cvy43, (tk_nx T n (tk_nx T n (tk_nx T n f)))), by simp only [cl_fin, cl_layer, cl_layer2, hnvy17, if_neg hscy24, if_neg hscy36, if_neg hnevy38, hnvy43], ⟨by show 1 ≤ cvy43 ∧ cvy43 ≤ 5; omega, _, _, _, _, _, _, by omega, by omega, hkvy43, hgy501⟩, ⟨hgy510, hgy514, hgy518, hgy522, hgy526, hgy530, hgy534⟩, hW9⟩, fun j j1 j2 => by rw [hfvy43 _ (by omega)]; rw [hfvy38 _ (by omega)]; rw [hfvy17 _ (by omega)]; rw [hfvy12 _ (by omega)]⟩
            · refine z_aload_n C 5 dX7_readLayer_98 rfl ?_
              refine z_iconst (z := 5) C dX7_readLayer_99 rfl ?_
              refine z_aload_n C 5 dX7_readLayer_100 rfl ?_
              refine z_get (v := .int (zI (((tk_nx T n (tk_nx T n f)) : Int)))) C (lt_K hN (rfl : Nat.blt (2) 952 = true)) hay1 hkvy43 rfl inA_X7 7 (by decide) q_51 rfl rfl dX7_readLayer_101 ?_
              refine z_cV (As := [.int (zI (5)), .int (zI (((tk_nx T n (tk_nx T n f)) : Int)))]) (rest := []) (ci := 9) C (c_fFail l D A cs tt N ad _ (by omega) _ _ _ _ _ _ _ _ (by omega) hkvy43 (5) (((tk_nx T n (tk_nx T n f)) : Int))) (lt_K hN (rfl : Nat.blt (2) 952 = true)) hay1 hkvy43 rfl rfl mv_yX7_fail q_809 hd_yX7_fail (by decide) (Nat.le_of_ble_eq_true rfl) (by decide) dX7_readLayer_104 rfl (kV0 fun gvy535 hvy535 => ?_)
              obtain rfl := hvy535
              refine z_aload_n C 5 dX7_readLayer_107 rfl ?_
              refine z_iconst (z := 0) C dX7_readLayer_108 rfl ?_
              refine z_sipush (z := 300) C dX7_readLayer_109 (by decide) ?_
              have hruny536 : okRun cs ad gvy43 (cvy43) tp := ⟨_, _, _, _, _, _, _, by omega, by omega, hkvy43, hgy501⟩
              refine z_cV (As := [.int (zI (0)), .int (zI (300))]) (rest := []) (ci := 9) C (c_fNumber l D A cs tt N ad _ (by omega) _ tp hruny536 (by omega) (0) (by omega) (300) (by omega)) (lt_K hN (rfl : Nat.blt (2) 952 = true)) hay1 hkvy43 rfl rfl mv_yX7_number q_817 hd_yX7_number (by decide) (Nat.le_of_ble_eq_true rfl) (by decide) dX7_readLayer_112 rfl (kI0 fun vy537 gvy537 hvy537 => ?_)
              obtain ⟨hvy537, rfl⟩ := hvy537
              refine z_istore (lv' := [(8, .int (zI (vy537))), (7, .int (zI (vy504))), (6, .int (zI (vy502))), (5, .int (zI (0))), (4, .int (zI (tk_kd T n (tk_nx T n (tk_nx T n f))))), (3, .int (zI (vy17))), (0, .ref (ad 2)), (1, .ref (ad 883)), (2, .ref (ad 890))]) C dX7_readLayer_115 (by decide) rfl ?_
              refine z_aload_n C 6 dX7_readLayer_117 rfl ?_
              refine z_cV (As := []) (rest := []) (ci := 9) C (c_fClose l D A cs tt N ad _ (by omega) _ _ _ _ _ _ _ _ (by omega) (by omega) hkvy43) (lt_K hN (rfl : Nat.blt (2) 952 = true)) hay1 hkvy43 rfl rfl mv_yX7_close q_821 hd_yX7_close (by decide) (Nat.le_of_ble_eq_true rfl) (by decide) dX7_readLayer_118 rfl (kV0 fun gvy538 hvy538 => ?_)
              obtain rfl := hvy538
              refine z_aload_n C 6 dX7_readLayer_121 rfl ?_
              refine z_get (v := .int (zI (cvy43))) C (lt_K hN (rfl : Nat.blt (2) 952 = true)) hay1 hkvy43 rfl inA_X7 1 (by decide) q_45 rfl rfl dX7_readLayer_122 ?_
              refine z_if_ne (tgt := 162) C dX7_readLayer_125 (by decide) (by omega) (fun _ => ?_) (fun h => absurd h (by omega))
              have hW9 : isWorld cs ad gvy43 890 wt wz wo wr := hW.mv (fun _ _ _ => rfl) (fun j j1 j2 => by rw [hfvy43 _ (by omega)]; rw [hfvy38 _ (by omega)]; rw [hfvy17 _ (by omega)]; rw [hfvy12 _ (by omega)])
              have hgy539 := (hfvy38 (883) (by decide)).trans hgy22
              have hgy540 := (hfvy43 (883) (by decide)).trans hgy539
              have hgy541 := (hfvy12 (883 + 1) (by omega)).trans hP.2.1
              have hgy542 := (hfvy17 (883 + 1) (by omega)).trans hgy541
              have hgy543 := (hfvy38 (883 + 1) (by omega)).trans hgy542
              have hgy544 := (hfvy43 (883 + 1) (by omega)).trans hgy543
              have hgy545 := (hfvy12 (883 + 2) (by omega)).trans hP.2.2.1
              have hgy546 := (hfvy17 (883 + 2) (by omega)).trans hgy545
              have hgy547 := (hfvy38 (883 + 2) (by omega)).trans hgy546
              have hgy548 := (hfvy43 (883 + 2) (by omega)).trans hgy547
              have hgy549 := (hfvy12 (883 + 3) (by omega)).trans hP.2.2.2.1
              have hgy550 := (hfvy17 (883 + 3) (by omega)).trans hgy549
              have hgy551 := (hfvy38 (883 + 3) (by omega)).trans hgy550
              have hgy552 := (hfvy43 (883 + 3) (by omega)).trans hgy551
              have hgy553 := (hfvy12 (883 + 4) (by omega)).trans hP.2.2.2.2.1
              have hgy554 := (hfvy17 (883 + 4) (by omega)).trans hgy553
              have hgy555 := (hfvy38 (883 + 4) (by omega)).trans hgy554
              have hgy556 := (hfvy43 (883 + 4) (by omega)).trans hgy555
              have hgy557 := (hfvy12 (883 + 5) (by omega)).trans hP.2.2.2.2.2.1
              have hgy558 := (hfvy17 (883 + 5) (by omega)).trans hgy557
              have hgy559 := (hfvy38 (883 + 5) (by omega)).trans hgy558
              have hgy560 := (hfvy43 (883 + 5) (by omega)).trans hgy559
              have hgy561 := (hfvy12 (883 + 6) (by omega)).trans hP.2.2.2.2.2.2
              have hgy562 := (hfvy17 (883 + 6) (by omega)).trans hgy561
              have hgy563 := (hfvy38 (883 + 6) (by omega)).trans hgy562
              have hgy564 := (hfvy43 (883 + 6) (by omega)).trans hgy563
              exact z_vret C hr hlk dX7_readLayer_162 (by decide) (by decide) ⟨rfl, rfl, rfl, Or.inr ⟨(cvy43, (tk_nx T n (tk_nx T n (tk_nx T n f)))), by simp only [cl_fin, cl_layer, cl_layer2, hnvy17, if_neg hscy24, if_neg hscy36, if_neg hnevy38, hnvy43], ⟨by show 1 ≤ cvy43 ∧ cvy43 ≤ 5; omega, _, _, _, _, _, _, by omega, by omega, hkvy43, hgy501⟩, ⟨hgy540, hgy544, hgy548, hgy552, hgy556, hgy560, hgy564⟩, hW9⟩, fun j j1 j2 => by rw [hfvy43 _ (by omega)]; rw [hfvy38 _ (by omega)]; rw [hfvy17 _ (by omega)]; rw [hfvy12 _ (by omega)]⟩
        · obtain ⟨hnvy38, rfl, hkvy38⟩ := hvy38
          refine z_istore (lv' := [(4, .int (zI (0))), (3, .int (zI (vy17))), (0, .ref (ad 2)), (1, .ref (ad 883)), (2, .ref (ad 890))]) C dX7_readLayer_58 (by decide) rfl ?_
          refine z_aload_n C 2 dX7_readLayer_60 rfl ?_
          refine z_iconst (z := 1) C dX7_readLayer_61 rfl ?_
          refine z_bipush (z := 99) C dX7_readLayer_62 (by decide) ?_
          have hgy566 := (hfvy38 (1) (by decide)).trans hgy37
          have hruny565 : okRun cs ad gvy38 (1) tp := ⟨_, _, _, _, _, _, _, by omega, by omega, hkvy38, hgy566⟩
          refine z_cV (As := [.int (zI (1)), .int (zI (99))]) (rest := []) (ci := 9) C (c_fNumber l D A cs tt N ad _ (by omega) _ tp hruny565 (by omega) (1) (by omega) (99) (by omega)) (lt_K hN (rfl : Nat.blt (2) 952 = true)) hay1 hkvy38 rfl rfl mv_yX7_number q_817 hd_yX7_number (by decide) (Nat.le_of_ble_eq_true rfl) (by decide) dX7_readLayer_64 rfl (kI0 fun vy567 gvy567 hvy567 => ?_)
          obtain ⟨hvy567, rfl⟩ := hvy567
          refine z_istore (lv' := [(5, .int (zI (vy567))), (4, .int (zI (0))), (3, .int (zI (vy17))), (0, .ref (ad 2)), (1, .ref (ad 883)), (2, .ref (ad 890))]) C dX7_readLayer_67 (by decide) rfl ?_
          refine z_aload_n C 3 dX7_readLayer_69 rfl ?_
          refine z_iconst (z := 0) C dX7_readLayer_70 rfl ?_
          refine z_bipush (z := 99) C dX7_readLayer_71 (by decide) ?_
          have hruny568 : okRun cs ad gvy38 (1) tp := ⟨_, _, _, _, _, _, _, by omega, by omega, hkvy38, hgy566⟩
          refine z_cV (As := [.int (zI (0)), .int (zI (99))]) (rest := []) (ci := 9) C (c_fNumber l D A cs tt N ad _ (by omega) _ tp hruny568 (by omega) (0) (by omega) (99) (by omega)) (lt_K hN (rfl : Nat.blt (2) 952 = true)) hay1 hkvy38 rfl rfl mv_yX7_number q_817 hd_yX7_number (by decide) (Nat.le_of_ble_eq_true rfl) (by decide) dX7_readLayer_73 rfl (kI0 fun vy569 gvy569 hvy569 => ?_)
          obtain ⟨hvy569, rfl⟩ := hvy569
          refine z_istore (lv' := [(6, .int (zI (vy569))), (5, .int (zI (vy567))), (4, .int (zI (0))), (3, .int (zI (vy17))), (0, .ref (ad 2)), (1, .ref (ad 883)), (2, .ref (ad 890))]) C dX7_readLayer_76 (by decide) rfl ?_
          refine z_aload_n C 4 dX7_readLayer_78 rfl ?_
          refine z_iconst (z := 1) C dX7_readLayer_79 rfl ?_
          refine z_sipush (z := 999) C dX7_readLayer_80 (by decide) ?_
          have hruny570 : okRun cs ad gvy38 (1) tp := ⟨_, _, _, _, _, _, _, by omega, by omega, hkvy38, hgy566⟩
          refine z_cV (As := [.int (zI (1)), .int (zI (999))]) (rest := []) (ci := 9) C (c_fNumber l D A cs tt N ad _ (by omega) _ tp hruny570 (by omega) (1) (by omega) (999) (by omega)) (lt_K hN (rfl : Nat.blt (2) 952 = true)) hay1 hkvy38 rfl rfl mv_yX7_number q_817 hd_yX7_number (by decide) (Nat.le_of_ble_eq_true rfl) (by decide) dX7_readLayer_83 rfl (kI0 fun vy571 gvy571 hvy571 => ?_)
          obtain ⟨hvy571, rfl⟩ := hvy571
          refine z_istore (lv' := [(7, .int (zI (vy571))), (6, .int (zI (vy569))), (5, .int (zI (vy567))), (4, .int (zI (0))), (3, .int (zI (vy17))), (0, .ref (ad 2)), (1, .ref (ad 883)), (2, .ref (ad 890))]) C dX7_readLayer_86 (by decide) rfl ?_
          refine z_iload C 0 dX7_readLayer_88 rfl ?_
          refine z_iload C 2 dX7_readLayer_90 rfl ?_
          refine z_iload C 1 dX7_readLayer_92 rfl ?_
          refine z_iadd C dX7_readLayer_94 ?_
          refine z_icmp_ge (tgt := 107) C dX7_readLayer_95 (by decide) (by omega) (by omega) (fun hby572 => ?_) (fun hby572 => ?_)
          · refine z_aload_n C 5 dX7_readLayer_107 rfl ?_
            refine z_iconst (z := 0) C dX7_readLayer_108 rfl ?_
            refine z_sipush (z := 300) C dX7_readLayer_109 (by decide) ?_
            have hruny573 : okRun cs ad gvy38 (1) tp := ⟨_, _, _, _, _, _, _, by omega, by omega, hkvy38, hgy566⟩
            refine z_cV (As := [.int (zI (0)), .int (zI (300))]) (rest := []) (ci := 9) C (c_fNumber l D A cs tt N ad _ (by omega) _ tp hruny573 (by omega) (0) (by omega) (300) (by omega)) (lt_K hN (rfl : Nat.blt (2) 952 = true)) hay1 hkvy38 rfl rfl mv_yX7_number q_817 hd_yX7_number (by decide) (Nat.le_of_ble_eq_true rfl) (by decide) dX7_readLayer_112 rfl (kI0 fun vy574 gvy574 hvy574 => ?_)
            obtain ⟨hvy574, rfl⟩ := hvy574
            refine z_istore (lv' := [(8, .int (zI (vy574))), (7, .int (zI (vy571))), (6, .int (zI (vy569))), (5, .int (zI (vy567))), (4, .int (zI (0))), (3, .int (zI (vy17))), (0, .ref (ad 2)), (1, .ref (ad 883)), (2, .ref (ad 890))]) C dX7_readLayer_115 (by decide) rfl ?_
            refine z_aload_n C 6 dX7_readLayer_117 rfl ?_
            refine z_cV (As := []) (rest := []) (ci := 9) C (c_fClose l D A cs tt N ad _ (by omega) _ _ _ _ _ _ _ _ (by omega) (by omega) hkvy38) (lt_K hN (rfl : Nat.blt (2) 952 = true)) hay1 hkvy38 rfl rfl mv_yX7_close q_821 hd_yX7_close (by decide) (Nat.le_of_ble_eq_true rfl) (by decide) dX7_readLayer_118 rfl (kV0 fun gvy575 hvy575 => ?_)
            obtain rfl := hvy575
            refine z_aload_n C 6 dX7_readLayer_121 rfl ?_
            refine z_get (v := .int (zI (1))) C (lt_K hN (rfl : Nat.blt (2) 952 = true)) hay1 hkvy38 rfl inA_X7 1 (by decide) q_45 rfl rfl dX7_readLayer_122 ?_
            refine z_if_ne (tgt := 162) C dX7_readLayer_125 (by decide) (by omega) (fun _ => ?_) (fun h => absurd h (by omega))
            have hW9 : isWorld cs ad gvy38 890 wt wz wo wr := hW.mv (fun _ _ _ => rfl) (fun j j1 j2 => by rw [hfvy38 _ (by omega)]; rw [hfvy17 _ (by omega)]; rw [hfvy12 _ (by omega)])
            have hgy576 := (hfvy38 (883) (by decide)).trans hgy22
            have hgy577 := (hfvy12 (883 + 1) (by omega)).trans hP.2.1
            have hgy578 := (hfvy17 (883 + 1) (by omega)).trans hgy577
            have hgy579 := (hfvy38 (883 + 1) (by omega)).trans hgy578
            have hgy580 := (hfvy12 (883 + 2) (by omega)).trans hP.2.2.1
            have hgy581 := (hfvy17 (883 + 2) (by omega)).trans hgy580
            have hgy582 := (hfvy38 (883 + 2) (by omega)).trans hgy581
            have hgy583 := (hfvy12 (883 + 3) (by omega)).trans hP.2.2.2.1
            have hgy584 := (hfvy17 (883 + 3) (by omega)).trans hgy583
            have hgy585 := (hfvy38 (883 + 3) (by omega)).trans hgy584
            have hgy586 := (hfvy12 (883 + 4) (by omega)).trans hP.2.2.2.2.1
            have hgy587 := (hfvy17 (883 + 4) (by omega)).trans hgy586
            have hgy588 := (hfvy38 (883 + 4) (by omega)).trans hgy587
            have hgy589 := (hfvy12 (883 + 5) (by omega)).trans hP.2.2.2.2.2.1
            have hgy590 := (hfvy17 (883 + 5) (by omega)).trans hgy589
            have hgy591 := (hfvy38 (883 + 5) (by omega)).trans hgy590
            have hgy592 := (hfvy12 (883 + 6) (by omega)).trans hP.2.2.2.2.2.2
            have hgy593 := (hfvy17 (883 + 6) (by omega)).trans hgy592
            have hgy594 := (hfvy38 (883 + 6) (by omega)).trans hgy593
            exact z_vret C hr hlk dX7_readLayer_162 (by decide) (by decide) ⟨rfl, rfl, rfl, Or.inr ⟨(1, (tk_nx T n (tk_nx T n f))), by simp only [cl_fin, cl_layer, cl_layer2, hnvy17, if_neg hscy24, if_neg hscy36, if_pos hnvy38], ⟨by show 1 ≤ 1 ∧ 1 ≤ 5; omega, _, _, _, _, _, _, by omega, by omega, hkvy38, hgy566⟩, ⟨hgy576, hgy579, hgy582, hgy585, hgy588, hgy591, hgy594⟩, hW9⟩, fun j j1 j2 => by rw [hfvy38 _ (by omega)]; rw [hfvy17 _ (by omega)]; rw [hfvy12 _ (by omega)]⟩
          · refine z_aload_n C 5 dX7_readLayer_98 rfl ?_
            refine z_iconst (z := 5) C dX7_readLayer_99 rfl ?_
            refine z_aload_n C 5 dX7_readLayer_100 rfl ?_
            refine z_get (v := .int (zI (((tk_nx T n f) : Int)))) C (lt_K hN (rfl : Nat.blt (2) 952 = true)) hay1 hkvy38 rfl inA_X7 7 (by decide) q_51 rfl rfl dX7_readLayer_101 ?_
            refine z_cV (As := [.int (zI (5)), .int (zI (((tk_nx T n f) : Int)))]) (rest := []) (ci := 9) C (c_fFail l D A cs tt N ad _ (by omega) _ _ _ _ _ _ _ _ (by omega) hkvy38 (5) (((tk_nx T n f) : Int))) (lt_K hN (rfl : Nat.blt (2) 952 = true)) hay1 hkvy38 rfl rfl mv_yX7_fail q_809 hd_yX7_fail (by decide) (Nat.le_of_ble_eq_true rfl) (by decide) dX7_readLayer_104 rfl (kV0 fun gvy595 hvy595 => ?_)
            obtain rfl := hvy595
            refine z_aload_n C 5 dX7_readLayer_107 rfl ?_
            refine z_iconst (z := 0) C dX7_readLayer_108 rfl ?_
            refine z_sipush (z := 300) C dX7_readLayer_109 (by decide) ?_
            have hruny596 : okRun cs ad gvy38 (1) tp := ⟨_, _, _, _, _, _, _, by omega, by omega, hkvy38, hgy566⟩
            refine z_cV (As := [.int (zI (0)), .int (zI (300))]) (rest := []) (ci := 9) C (c_fNumber l D A cs tt N ad _ (by omega) _ tp hruny596 (by omega) (0) (by omega) (300) (by omega)) (lt_K hN (rfl : Nat.blt (2) 952 = true)) hay1 hkvy38 rfl rfl mv_yX7_number q_817 hd_yX7_number (by decide) (Nat.le_of_ble_eq_true rfl) (by decide) dX7_readLayer_112 rfl (kI0 fun vy597 gvy597 hvy597 => ?_)
            obtain ⟨hvy597, rfl⟩ := hvy597
            refine z_istore (lv' := [(8, .int (zI (vy597))), (7, .int (zI (vy571))), (6, .int (zI (vy569))), (5, .int (zI (vy567))), (4, .int (zI (0))), (3, .int (zI (vy17))), (0, .ref (ad 2)), (1, .ref (ad 883)), (2, .ref (ad 890))]) C dX7_readLayer_115 (by decide) rfl ?_
            refine z_aload_n C 6 dX7_readLayer_117 rfl ?_
            refine z_cV (As := []) (rest := []) (ci := 9) C (c_fClose l D A cs tt N ad _ (by omega) _ _ _ _ _ _ _ _ (by omega) (by omega) hkvy38) (lt_K hN (rfl : Nat.blt (2) 952 = true)) hay1 hkvy38 rfl rfl mv_yX7_close q_821 hd_yX7_close (by decide) (Nat.le_of_ble_eq_true rfl) (by decide) dX7_readLayer_118 rfl (kV0 fun gvy598 hvy598 => ?_)
            obtain rfl := hvy598
            refine z_aload_n C 6 dX7_readLayer_121 rfl ?_
            refine z_get (v := .int (zI (1))) C (lt_K hN (rfl : Nat.blt (2) 952 = true)) hay1 hkvy38 rfl inA_X7 1 (by decide) q_45 rfl rfl dX7_readLayer_122 ?_
            refine z_if_ne (tgt := 162) C dX7_readLayer_125 (by decide) (by omega) (fun _ => ?_) (fun h => absurd h (by omega))
            have hW9 : isWorld cs ad gvy38 890 wt wz wo wr := hW.mv (fun _ _ _ => rfl) (fun j j1 j2 => by rw [hfvy38 _ (by omega)]; rw [hfvy17 _ (by omega)]; rw [hfvy12 _ (by omega)])
            have hgy599 := (hfvy38 (883) (by decide)).trans hgy22
            have hgy600 := (hfvy12 (883 + 1) (by omega)).trans hP.2.1
            have hgy601 := (hfvy17 (883 + 1) (by omega)).trans hgy600
            have hgy602 := (hfvy38 (883 + 1) (by omega)).trans hgy601
            have hgy603 := (hfvy12 (883 + 2) (by omega)).trans hP.2.2.1
            have hgy604 := (hfvy17 (883 + 2) (by omega)).trans hgy603
            have hgy605 := (hfvy38 (883 + 2) (by omega)).trans hgy604
            have hgy606 := (hfvy12 (883 + 3) (by omega)).trans hP.2.2.2.1
            have hgy607 := (hfvy17 (883 + 3) (by omega)).trans hgy606
            have hgy608 := (hfvy38 (883 + 3) (by omega)).trans hgy607
            have hgy609 := (hfvy12 (883 + 4) (by omega)).trans hP.2.2.2.2.1
            have hgy610 := (hfvy17 (883 + 4) (by omega)).trans hgy609
            have hgy611 := (hfvy38 (883 + 4) (by omega)).trans hgy610
            have hgy612 := (hfvy12 (883 + 5) (by omega)).trans hP.2.2.2.2.2.1
            have hgy613 := (hfvy17 (883 + 5) (by omega)).trans hgy612
            have hgy614 := (hfvy38 (883 + 5) (by omega)).trans hgy613
            have hgy615 := (hfvy12 (883 + 6) (by omega)).trans hP.2.2.2.2.2.2
            have hgy616 := (hfvy17 (883 + 6) (by omega)).trans hgy615
            have hgy617 := (hfvy38 (883 + 6) (by omega)).trans hgy616
            exact z_vret C hr hlk dX7_readLayer_162 (by decide) (by decide) ⟨rfl, rfl, rfl, Or.inr ⟨(1, (tk_nx T n (tk_nx T n f))), by simp only [cl_fin, cl_layer, cl_layer2, hnvy17, if_neg hscy24, if_neg hscy36, if_pos hnvy38], ⟨by show 1 ≤ 1 ∧ 1 ≤ 5; omega, _, _, _, _, _, _, by omega, by omega, hkvy38, hgy566⟩, ⟨hgy599, hgy602, hgy605, hgy608, hgy611, hgy614, hgy617⟩, hW9⟩, fun j j1 j2 => by rw [hfvy38 _ (by omega)]; rw [hfvy17 _ (by omega)]; rw [hfvy12 _ (by omega)]⟩
      · have hscy618 : (12 ≤ wz (vy17).toNat) := by omega
        refine z_aload_n C 1 dX7_readLayer_45 rfl ?_
        refine z_iconst (z := 2) C dX7_readLayer_46 rfl ?_
        refine z_aload_n C 1 dX7_readLayer_47 rfl ?_
        refine z_get (v := .int (zI (((tk_nx T n f) : Int)))) C (lt_K hN (rfl : Nat.blt (2) 952 = true)) hay1 hkvy17 rfl inA_X7 7 (by decide) q_51 rfl rfl dX7_readLayer_48 ?_
        refine z_cV (As := [.int (zI (2)), .int (zI (((tk_nx T n f) : Int)))]) (rest := []) (ci := 9) C (c_xFail l D A cs tt N ad _ (by omega) _ _ _ _ _ _ _ hkvy17 (2) (((tk_nx T n f) : Int))) (lt_K hN (rfl : Nat.blt (2) 952 = true)) hay1 hkvy17 rfl rfl mv_yX7_fail q_809 hd_yX7_fail (by decide) (Nat.le_of_ble_eq_true rfl) (by decide) dX7_readLayer_51 rfl (kV0 fun gvy619 hvy619 => ?_)
        obtain ⟨hkvy619, hfvy619⟩ := hvy619
        refine z_aload_n C 1 dX7_readLayer_54 rfl ?_
        have hgy621 := (hfvy17 (1) (by decide)).trans hgy16
        have hgy622 := (hfvy619 (1) (by decide)).trans hgy621
        have hruny620 : okRun cs ad gvy619 (2) tp := ⟨_, _, _, _, _, _, _, by omega, by omega, hkvy619, hgy622⟩
        refine z_cV (As := []) (rest := []) (ci := 9) C (c_fKind l D A cs tt N ad _ (by omega) _ tp hruny620 (by omega) ) (lt_K hN (rfl : Nat.blt (2) 952 = true)) hay1 hkvy619 rfl rfl mv_yX7_kind q_830 hd_yX7_kind (by decide) (Nat.le_of_ble_eq_true rfl) (by decide) dX7_readLayer_55 rfl (kI0 fun vy623 gvy623 hvy623 => ?_)
        obtain ⟨hvy623, rfl⟩ := hvy623
        refine z_istore (lv' := [(4, .int (zI (vy623))), (3, .int (zI (vy17))), (0, .ref (ad 2)), (1, .ref (ad 883)), (2, .ref (ad 890))]) C dX7_readLayer_58 (by decide) rfl ?_
        refine z_aload_n C 2 dX7_readLayer_60 rfl ?_
        refine z_iconst (z := 1) C dX7_readLayer_61 rfl ?_
        refine z_bipush (z := 99) C dX7_readLayer_62 (by decide) ?_
        have hruny624 : okRun cs ad gvy619 (2) tp := ⟨_, _, _, _, _, _, _, by omega, by omega, hkvy619, hgy622⟩
        refine z_cV (As := [.int (zI (1)), .int (zI (99))]) (rest := []) (ci := 9) C (c_fNumber l D A cs tt N ad _ (by omega) _ tp hruny624 (by omega) (1) (by omega) (99) (by omega)) (lt_K hN (rfl : Nat.blt (2) 952 = true)) hay1 hkvy619 rfl rfl mv_yX7_number q_817 hd_yX7_number (by decide) (Nat.le_of_ble_eq_true rfl) (by decide) dX7_readLayer_64 rfl (kI0 fun vy625 gvy625 hvy625 => ?_)
        obtain ⟨hvy625, rfl⟩ := hvy625
        refine z_istore (lv' := [(5, .int (zI (vy625))), (4, .int (zI (vy623))), (3, .int (zI (vy17))), (0, .ref (ad 2)), (1, .ref (ad 883)), (2, .ref (ad 890))]) C dX7_readLayer_67 (by decide) rfl ?_
        refine z_aload_n C 3 dX7_readLayer_69 rfl ?_
        refine z_iconst (z := 0) C dX7_readLayer_70 rfl ?_
        refine z_bipush (z := 99) C dX7_readLayer_71 (by decide) ?_
        have hruny626 : okRun cs ad gvy619 (2) tp := ⟨_, _, _, _, _, _, _, by omega, by omega, hkvy619, hgy622⟩
        refine z_cV (As := [.int (zI (0)), .int (zI (99))]) (rest := []) (ci := 9) C (c_fNumber l D A cs tt N ad _ (by omega) _ tp hruny626 (by omega) (0) (by omega) (99) (by omega)) (lt_K hN (rfl : Nat.blt (2) 952 = true)) hay1 hkvy619 rfl rfl mv_yX7_number q_817 hd_yX7_number (by decide) (Nat.le_of_ble_eq_true rfl) (by decide) dX7_readLayer_73 rfl (kI0 fun vy627 gvy627 hvy627 => ?_)
        obtain ⟨hvy627, rfl⟩ := hvy627
        refine z_istore (lv' := [(6, .int (zI (vy627))), (5, .int (zI (vy625))), (4, .int (zI (vy623))), (3, .int (zI (vy17))), (0, .ref (ad 2)), (1, .ref (ad 883)), (2, .ref (ad 890))]) C dX7_readLayer_76 (by decide) rfl ?_
        refine z_aload_n C 4 dX7_readLayer_78 rfl ?_
        refine z_iconst (z := 1) C dX7_readLayer_79 rfl ?_
        refine z_sipush (z := 999) C dX7_readLayer_80 (by decide) ?_
        have hruny628 : okRun cs ad gvy619 (2) tp := ⟨_, _, _, _, _, _, _, by omega, by omega, hkvy619, hgy622⟩
        refine z_cV (As := [.int (zI (1)), .int (zI (999))]) (rest := []) (ci := 9) C (c_fNumber l D A cs tt N ad _ (by omega) _ tp hruny628 (by omega) (1) (by omega) (999) (by omega)) (lt_K hN (rfl : Nat.blt (2) 952 = true)) hay1 hkvy619 rfl rfl mv_yX7_number q_817 hd_yX7_number (by decide) (Nat.le_of_ble_eq_true rfl) (by decide) dX7_readLayer_83 rfl (kI0 fun vy629 gvy629 hvy629 => ?_)
        obtain ⟨hvy629, rfl⟩ := hvy629
        refine z_istore (lv' := [(7, .int (zI (vy629))), (6, .int (zI (vy627))), (5, .int (zI (vy625))), (4, .int (zI (vy623))), (3, .int (zI (vy17))), (0, .ref (ad 2)), (1, .ref (ad 883)), (2, .ref (ad 890))]) C dX7_readLayer_86 (by decide) rfl ?_
        refine z_iload C 0 dX7_readLayer_88 rfl ?_
        refine z_iload C 2 dX7_readLayer_90 rfl ?_
        refine z_iload C 1 dX7_readLayer_92 rfl ?_
        refine z_iadd C dX7_readLayer_94 ?_
        refine z_icmp_ge (tgt := 107) C dX7_readLayer_95 (by decide) (by omega) (by omega) (fun hby630 => ?_) (fun hby630 => ?_)
        · refine z_aload_n C 5 dX7_readLayer_107 rfl ?_
          refine z_iconst (z := 0) C dX7_readLayer_108 rfl ?_
          refine z_sipush (z := 300) C dX7_readLayer_109 (by decide) ?_
          have hruny631 : okRun cs ad gvy619 (2) tp := ⟨_, _, _, _, _, _, _, by omega, by omega, hkvy619, hgy622⟩
          refine z_cV (As := [.int (zI (0)), .int (zI (300))]) (rest := []) (ci := 9) C (c_fNumber l D A cs tt N ad _ (by omega) _ tp hruny631 (by omega) (0) (by omega) (300) (by omega)) (lt_K hN (rfl : Nat.blt (2) 952 = true)) hay1 hkvy619 rfl rfl mv_yX7_number q_817 hd_yX7_number (by decide) (Nat.le_of_ble_eq_true rfl) (by decide) dX7_readLayer_112 rfl (kI0 fun vy632 gvy632 hvy632 => ?_)
          obtain ⟨hvy632, rfl⟩ := hvy632
          refine z_istore (lv' := [(8, .int (zI (vy632))), (7, .int (zI (vy629))), (6, .int (zI (vy627))), (5, .int (zI (vy625))), (4, .int (zI (vy623))), (3, .int (zI (vy17))), (0, .ref (ad 2)), (1, .ref (ad 883)), (2, .ref (ad 890))]) C dX7_readLayer_115 (by decide) rfl ?_
          refine z_aload_n C 6 dX7_readLayer_117 rfl ?_
          refine z_cV (As := []) (rest := []) (ci := 9) C (c_fClose l D A cs tt N ad _ (by omega) _ _ _ _ _ _ _ _ (by omega) (by omega) hkvy619) (lt_K hN (rfl : Nat.blt (2) 952 = true)) hay1 hkvy619 rfl rfl mv_yX7_close q_821 hd_yX7_close (by decide) (Nat.le_of_ble_eq_true rfl) (by decide) dX7_readLayer_118 rfl (kV0 fun gvy633 hvy633 => ?_)
          obtain rfl := hvy633
          refine z_aload_n C 6 dX7_readLayer_121 rfl ?_
          refine z_get (v := .int (zI (2))) C (lt_K hN (rfl : Nat.blt (2) 952 = true)) hay1 hkvy619 rfl inA_X7 1 (by decide) q_45 rfl rfl dX7_readLayer_122 ?_
          refine z_if_ne (tgt := 162) C dX7_readLayer_125 (by decide) (by omega) (fun _ => ?_) (fun h => absurd h (by omega))
          have hW9 : isWorld cs ad gvy619 890 wt wz wo wr := hW.mv (fun _ _ _ => rfl) (fun j j1 j2 => by rw [hfvy619 _ (by omega)]; rw [hfvy17 _ (by omega)]; rw [hfvy12 _ (by omega)])
          have hgy634 := (hfvy619 (883) (by decide)).trans hgy22
          have hgy635 := (hfvy12 (883 + 1) (by omega)).trans hP.2.1
          have hgy636 := (hfvy17 (883 + 1) (by omega)).trans hgy635
          have hgy637 := (hfvy619 (883 + 1) (by omega)).trans hgy636
          have hgy638 := (hfvy12 (883 + 2) (by omega)).trans hP.2.2.1
          have hgy639 := (hfvy17 (883 + 2) (by omega)).trans hgy638
          have hgy640 := (hfvy619 (883 + 2) (by omega)).trans hgy639
          have hgy641 := (hfvy12 (883 + 3) (by omega)).trans hP.2.2.2.1
          have hgy642 := (hfvy17 (883 + 3) (by omega)).trans hgy641
          have hgy643 := (hfvy619 (883 + 3) (by omega)).trans hgy642
          have hgy644 := (hfvy12 (883 + 4) (by omega)).trans hP.2.2.2.2.1
          have hgy645 := (hfvy17 (883 + 4) (by omega)).trans hgy644
          have hgy646 := (hfvy619 (883 + 4) (by omega)).trans hgy645
          have hgy647 := (hfvy12 (883 + 5) (by omega)).trans hP.2.2.2.2.2.1
          have hgy648 := (hfvy17 (883 + 5) (by omega)).trans hgy647
          have hgy649 := (hfvy619 (883 + 5) (by omega)).trans hgy648
          have hgy650 := (hfvy12 (883 + 6) (by omega)).trans hP.2.2.2.2.2.2
          have hgy651 := (hfvy17 (883 + 6) (by omega)).trans hgy650
          have hgy652 := (hfvy619 (883 + 6) (by omega)).trans hgy651
          exact z_vret C hr hlk dX7_readLayer_162 (by decide) (by decide) ⟨rfl, rfl, rfl, Or.inr ⟨(2, (tk_nx T n f)), by simp only [cl_fin, cl_layer, cl_layer2, hnvy17, if_neg hscy24, if_pos hscy618], ⟨by show 1 ≤ 2 ∧ 2 ≤ 5; omega, _, _, _, _, _, _, by omega, by omega, hkvy619, hgy622⟩, ⟨hgy634, hgy637, hgy640, hgy643, hgy646, hgy649, hgy652⟩, hW9⟩, fun j j1 j2 => by rw [hfvy619 _ (by omega)]; rw [hfvy17 _ (by omega)]; rw [hfvy12 _ (by omega)]⟩
        · refine z_aload_n C 5 dX7_readLayer_98 rfl ?_
          refine z_iconst (z := 5) C dX7_readLayer_99 rfl ?_
          refine z_aload_n C 5 dX7_readLayer_100 rfl ?_
          refine z_get (v := .int (zI (((tk_nx T n f) : Int)))) C (lt_K hN (rfl : Nat.blt (2) 952 = true)) hay1 hkvy619 rfl inA_X7 7 (by decide) q_51 rfl rfl dX7_readLayer_101 ?_
          refine z_cV (As := [.int (zI (5)), .int (zI (((tk_nx T n f) : Int)))]) (rest := []) (ci := 9) C (c_fFail l D A cs tt N ad _ (by omega) _ _ _ _ _ _ _ _ (by omega) hkvy619 (5) (((tk_nx T n f) : Int))) (lt_K hN (rfl : Nat.blt (2) 952 = true)) hay1 hkvy619 rfl rfl mv_yX7_fail q_809 hd_yX7_fail (by decide) (Nat.le_of_ble_eq_true rfl) (by decide) dX7_readLayer_104 rfl (kV0 fun gvy653 hvy653 => ?_)
          obtain rfl := hvy653
          refine z_aload_n C 5 dX7_readLayer_107 rfl ?_
          refine z_iconst (z := 0) C dX7_readLayer_108 rfl ?_
          refine z_sipush (z := 300) C dX7_readLayer_109 (by decide) ?_
          have hruny654 : okRun cs ad gvy619 (2) tp := ⟨_, _, _, _, _, _, _, by omega, by omega, hkvy619, hgy622⟩
          refine z_cV (As := [.int (zI (0)), .int (zI (300))]) (rest := []) (ci := 9) C (c_fNumber l D A cs tt N ad _ (by omega) _ tp hruny654 (by omega) (0) (by omega) (300) (by omega)) (lt_K hN (rfl : Nat.blt (2) 952 = true)) hay1 hkvy619 rfl rfl mv_yX7_number q_817 hd_yX7_number (by decide) (Nat.le_of_ble_eq_true rfl) (by decide) dX7_readLayer_112 rfl (kI0 fun vy655 gvy655 hvy655 => ?_)
          obtain ⟨hvy655, rfl⟩ := hvy655
          refine z_istore (lv' := [(8, .int (zI (vy655))), (7, .int (zI (vy629))), (6, .int (zI (vy627))), (5, .int (zI (vy625))), (4, .int (zI (vy623))), (3, .int (zI (vy17))), (0, .ref (ad 2)), (1, .ref (ad 883)), (2, .ref (ad 890))]) C dX7_readLayer_115 (by decide) rfl ?_
          refine z_aload_n C 6 dX7_readLayer_117 rfl ?_
          refine z_cV (As := []) (rest := []) (ci := 9) C (c_fClose l D A cs tt N ad _ (by omega) _ _ _ _ _ _ _ _ (by omega) (by omega) hkvy619) (lt_K hN (rfl : Nat.blt (2) 952 = true)) hay1 hkvy619 rfl rfl mv_yX7_close q_821 hd_yX7_close (by decide) (Nat.le_of_ble_eq_true rfl) (by decide) dX7_readLayer_118 rfl (kV0 fun gvy656 hvy656 => ?_)
          obtain rfl := hvy656
          refine z_aload_n C 6 dX7_readLayer_121 rfl ?_
          refine z_get (v := .int (zI (2))) C (lt_K hN (rfl : Nat.blt (2) 952 = true)) hay1 hkvy619 rfl inA_X7 1 (by decide) q_45 rfl rfl dX7_readLayer_122 ?_
          refine z_if_ne (tgt := 162) C dX7_readLayer_125 (by decide) (by omega) (fun _ => ?_) (fun h => absurd h (by omega))
          have hW9 : isWorld cs ad gvy619 890 wt wz wo wr := hW.mv (fun _ _ _ => rfl) (fun j j1 j2 => by rw [hfvy619 _ (by omega)]; rw [hfvy17 _ (by omega)]; rw [hfvy12 _ (by omega)])
          have hgy657 := (hfvy619 (883) (by decide)).trans hgy22
          have hgy658 := (hfvy12 (883 + 1) (by omega)).trans hP.2.1
          have hgy659 := (hfvy17 (883 + 1) (by omega)).trans hgy658
          have hgy660 := (hfvy619 (883 + 1) (by omega)).trans hgy659
          have hgy661 := (hfvy12 (883 + 2) (by omega)).trans hP.2.2.1
          have hgy662 := (hfvy17 (883 + 2) (by omega)).trans hgy661
          have hgy663 := (hfvy619 (883 + 2) (by omega)).trans hgy662
          have hgy664 := (hfvy12 (883 + 3) (by omega)).trans hP.2.2.2.1
          have hgy665 := (hfvy17 (883 + 3) (by omega)).trans hgy664
          have hgy666 := (hfvy619 (883 + 3) (by omega)).trans hgy665
          have hgy667 := (hfvy12 (883 + 4) (by omega)).trans hP.2.2.2.2.1
          have hgy668 := (hfvy17 (883 + 4) (by omega)).trans hgy667
          have hgy669 := (hfvy619 (883 + 4) (by omega)).trans hgy668
          have hgy670 := (hfvy12 (883 + 5) (by omega)).trans hP.2.2.2.2.2.1
          have hgy671 := (hfvy17 (883 + 5) (by omega)).trans hgy670
          have hgy672 := (hfvy619 (883 + 5) (by omega)).trans hgy671
          have hgy673 := (hfvy12 (883 + 6) (by omega)).trans hP.2.2.2.2.2.2
          have hgy674 := (hfvy17 (883 + 6) (by omega)).trans hgy673
          have hgy675 := (hfvy619 (883 + 6) (by omega)).trans hgy674
          exact z_vret C hr hlk dX7_readLayer_162 (by decide) (by decide) ⟨rfl, rfl, rfl, Or.inr ⟨(2, (tk_nx T n f)), by simp only [cl_fin, cl_layer, cl_layer2, hnvy17, if_neg hscy24, if_pos hscy618], ⟨by show 1 ≤ 2 ∧ 2 ≤ 5; omega, _, _, _, _, _, _, by omega, by omega, hkvy619, hgy622⟩, ⟨hgy657, hgy660, hgy663, hgy666, hgy669, hgy672, hgy675⟩, hW9⟩, fun j j1 j2 => by rw [hfvy619 _ (by omega)]; rw [hfvy17 _ (by omega)]; rw [hfvy12 _ (by omega)]⟩
    · have hscy676 : (sl ≤ vy17) := by omega
      refine z_aload_n C 1 dX7_readLayer_19 rfl ?_
      refine z_iconst (z := 3) C dX7_readLayer_20 rfl ?_
      refine z_aload_n C 1 dX7_readLayer_21 rfl ?_
      refine z_get (v := .int (zI (((tk_nx T n f) : Int)))) C (lt_K hN (rfl : Nat.blt (2) 952 = true)) hay1 hkvy17 rfl inA_X7 7 (by decide) q_51 rfl rfl dX7_readLayer_22 ?_
      refine z_cV (As := [.int (zI (3)), .int (zI (((tk_nx T n f) : Int)))]) (rest := []) (ci := 9) C (c_xFail l D A cs tt N ad _ (by omega) _ _ _ _ _ _ _ hkvy17 (3) (((tk_nx T n f) : Int))) (lt_K hN (rfl : Nat.blt (2) 952 = true)) hay1 hkvy17 rfl rfl mv_yX7_fail q_809 hd_yX7_fail (by decide) (Nat.le_of_ble_eq_true rfl) (by decide) dX7_readLayer_25 rfl (kV0 fun gvy677 hvy677 => ?_)
      obtain ⟨hkvy677, hfvy677⟩ := hvy677
      refine z_goto (tgt := 54) C dX7_readLayer_28 (by decide) ?_
      refine z_aload_n C 1 dX7_readLayer_54 rfl ?_
      have hgy679 := (hfvy17 (1) (by decide)).trans hgy16
      have hgy680 := (hfvy677 (1) (by decide)).trans hgy679
      have hruny678 : okRun cs ad gvy677 (3) tp := ⟨_, _, _, _, _, _, _, by omega, by omega, hkvy677, hgy680⟩
      refine z_cV (As := []) (rest := []) (ci := 9) C (c_fKind l D A cs tt N ad _ (by omega) _ tp hruny678 (by omega) ) (lt_K hN (rfl : Nat.blt (2) 952 = true)) hay1 hkvy677 rfl rfl mv_yX7_kind q_830 hd_yX7_kind (by decide) (Nat.le_of_ble_eq_true rfl) (by decide) dX7_readLayer_55 rfl (kI0 fun vy681 gvy681 hvy681 => ?_)
      obtain ⟨hvy681, rfl⟩ := hvy681
      refine z_istore (lv' := [(4, .int (zI (vy681))), (3, .int (zI (vy17))), (0, .ref (ad 2)), (1, .ref (ad 883)), (2, .ref (ad 890))]) C dX7_readLayer_58 (by decide) rfl ?_
      refine z_aload_n C 2 dX7_readLayer_60 rfl ?_
      refine z_iconst (z := 1) C dX7_readLayer_61 rfl ?_
      refine z_bipush (z := 99) C dX7_readLayer_62 (by decide) ?_
      have hruny682 : okRun cs ad gvy677 (3) tp := ⟨_, _, _, _, _, _, _, by omega, by omega, hkvy677, hgy680⟩
      refine z_cV (As := [.int (zI (1)), .int (zI (99))]) (rest := []) (ci := 9) C (c_fNumber l D A cs tt N ad _ (by omega) _ tp hruny682 (by omega) (1) (by omega) (99) (by omega)) (lt_K hN (rfl : Nat.blt (2) 952 = true)) hay1 hkvy677 rfl rfl mv_yX7_number q_817 hd_yX7_number (by decide) (Nat.le_of_ble_eq_true rfl) (by decide) dX7_readLayer_64 rfl (kI0 fun vy683 gvy683 hvy683 => ?_)
      obtain ⟨hvy683, rfl⟩ := hvy683
      refine z_istore (lv' := [(5, .int (zI (vy683))), (4, .int (zI (vy681))), (3, .int (zI (vy17))), (0, .ref (ad 2)), (1, .ref (ad 883)), (2, .ref (ad 890))]) C dX7_readLayer_67 (by decide) rfl ?_
      refine z_aload_n C 3 dX7_readLayer_69 rfl ?_
      refine z_iconst (z := 0) C dX7_readLayer_70 rfl ?_
      refine z_bipush (z := 99) C dX7_readLayer_71 (by decide) ?_
      have hruny684 : okRun cs ad gvy677 (3) tp := ⟨_, _, _, _, _, _, _, by omega, by omega, hkvy677, hgy680⟩
      refine z_cV (As := [.int (zI (0)), .int (zI (99))]) (rest := []) (ci := 9) C (c_fNumber l D A cs tt N ad _ (by omega) _ tp hruny684 (by omega) (0) (by omega) (99) (by omega)) (lt_K hN (rfl : Nat.blt (2) 952 = true)) hay1 hkvy677 rfl rfl mv_yX7_number q_817 hd_yX7_number (by decide) (Nat.le_of_ble_eq_true rfl) (by decide) dX7_readLayer_73 rfl (kI0 fun vy685 gvy685 hvy685 => ?_)
      obtain ⟨hvy685, rfl⟩ := hvy685
      refine z_istore (lv' := [(6, .int (zI (vy685))), (5, .int (zI (vy683))), (4, .int (zI (vy681))), (3, .int (zI (vy17))), (0, .ref (ad 2)), (1, .ref (ad 883)), (2, .ref (ad 890))]) C dX7_readLayer_76 (by decide) rfl ?_
      refine z_aload_n C 4 dX7_readLayer_78 rfl ?_
      refine z_iconst (z := 1) C dX7_readLayer_79 rfl ?_
      refine z_sipush (z := 999) C dX7_readLayer_80 (by decide) ?_
      have hruny686 : okRun cs ad gvy677 (3) tp := ⟨_, _, _, _, _, _, _, by omega, by omega, hkvy677, hgy680⟩
      refine z_cV (As := [.int (zI (1)), .int (zI (999))]) (rest := []) (ci := 9) C (c_fNumber l D A cs tt N ad _ (by omega) _ tp hruny686 (by omega) (1) (by omega) (999) (by omega)) (lt_K hN (rfl : Nat.blt (2) 952 = true)) hay1 hkvy677 rfl rfl mv_yX7_number q_817 hd_yX7_number (by decide) (Nat.le_of_ble_eq_true rfl) (by decide) dX7_readLayer_83 rfl (kI0 fun vy687 gvy687 hvy687 => ?_)
      obtain ⟨hvy687, rfl⟩ := hvy687
      refine z_istore (lv' := [(7, .int (zI (vy687))), (6, .int (zI (vy685))), (5, .int (zI (vy683))), (4, .int (zI (vy681))), (3, .int (zI (vy17))), (0, .ref (ad 2)), (1, .ref (ad 883)), (2, .ref (ad 890))]) C dX7_readLayer_86 (by decide) rfl ?_
      refine z_iload C 0 dX7_readLayer_88 rfl ?_
      refine z_iload C 2 dX7_readLayer_90 rfl ?_
      refine z_iload C 1 dX7_readLayer_92 rfl ?_
      refine z_iadd C dX7_readLayer_94 ?_
      refine z_icmp_ge (tgt := 107) C dX7_readLayer_95 (by decide) (by omega) (by omega) (fun hby688 => ?_) (fun hby688 => ?_)
      · refine z_aload_n C 5 dX7_readLayer_107 rfl ?_
        refine z_iconst (z := 0) C dX7_readLayer_108 rfl ?_
        refine z_sipush (z := 300) C dX7_readLayer_109 (by decide) ?_
        have hruny689 : okRun cs ad gvy677 (3) tp := ⟨_, _, _, _, _, _, _, by omega, by omega, hkvy677, hgy680⟩
        refine z_cV (As := [.int (zI (0)), .int (zI (300))]) (rest := []) (ci := 9) C (c_fNumber l D A cs tt N ad _ (by omega) _ tp hruny689 (by omega) (0) (by omega) (300) (by omega)) (lt_K hN (rfl : Nat.blt (2) 952 = true)) hay1 hkvy677 rfl rfl mv_yX7_number q_817 hd_yX7_number (by decide) (Nat.le_of_ble_eq_true rfl) (by decide) dX7_readLayer_112 rfl (kI0 fun vy690 gvy690 hvy690 => ?_)
        obtain ⟨hvy690, rfl⟩ := hvy690
        refine z_istore (lv' := [(8, .int (zI (vy690))), (7, .int (zI (vy687))), (6, .int (zI (vy685))), (5, .int (zI (vy683))), (4, .int (zI (vy681))), (3, .int (zI (vy17))), (0, .ref (ad 2)), (1, .ref (ad 883)), (2, .ref (ad 890))]) C dX7_readLayer_115 (by decide) rfl ?_
        refine z_aload_n C 6 dX7_readLayer_117 rfl ?_
        refine z_cV (As := []) (rest := []) (ci := 9) C (c_fClose l D A cs tt N ad _ (by omega) _ _ _ _ _ _ _ _ (by omega) (by omega) hkvy677) (lt_K hN (rfl : Nat.blt (2) 952 = true)) hay1 hkvy677 rfl rfl mv_yX7_close q_821 hd_yX7_close (by decide) (Nat.le_of_ble_eq_true rfl) (by decide) dX7_readLayer_118 rfl (kV0 fun gvy691 hvy691 => ?_)
        obtain rfl := hvy691
        refine z_aload_n C 6 dX7_readLayer_121 rfl ?_
        refine z_get (v := .int (zI (3))) C (lt_K hN (rfl : Nat.blt (2) 952 = true)) hay1 hkvy677 rfl inA_X7 1 (by decide) q_45 rfl rfl dX7_readLayer_122 ?_
        refine z_if_ne (tgt := 162) C dX7_readLayer_125 (by decide) (by omega) (fun _ => ?_) (fun h => absurd h (by omega))
        have hW9 : isWorld cs ad gvy677 890 wt wz wo wr := hW.mv (fun _ _ _ => rfl) (fun j j1 j2 => by rw [hfvy677 _ (by omega)]; rw [hfvy17 _ (by omega)]; rw [hfvy12 _ (by omega)])
        have hgy692 := (hfvy677 (883) (by decide)).trans hgy22
        have hgy693 := (hfvy12 (883 + 1) (by omega)).trans hP.2.1
        have hgy694 := (hfvy17 (883 + 1) (by omega)).trans hgy693
        have hgy695 := (hfvy677 (883 + 1) (by omega)).trans hgy694
        have hgy696 := (hfvy12 (883 + 2) (by omega)).trans hP.2.2.1
        have hgy697 := (hfvy17 (883 + 2) (by omega)).trans hgy696
        have hgy698 := (hfvy677 (883 + 2) (by omega)).trans hgy697
        have hgy699 := (hfvy12 (883 + 3) (by omega)).trans hP.2.2.2.1
        have hgy700 := (hfvy17 (883 + 3) (by omega)).trans hgy699
        have hgy701 := (hfvy677 (883 + 3) (by omega)).trans hgy700
        have hgy702 := (hfvy12 (883 + 4) (by omega)).trans hP.2.2.2.2.1
        have hgy703 := (hfvy17 (883 + 4) (by omega)).trans hgy702
        have hgy704 := (hfvy677 (883 + 4) (by omega)).trans hgy703
        have hgy705 := (hfvy12 (883 + 5) (by omega)).trans hP.2.2.2.2.2.1
        have hgy706 := (hfvy17 (883 + 5) (by omega)).trans hgy705
        have hgy707 := (hfvy677 (883 + 5) (by omega)).trans hgy706
        have hgy708 := (hfvy12 (883 + 6) (by omega)).trans hP.2.2.2.2.2.2
        have hgy709 := (hfvy17 (883 + 6) (by omega)).trans hgy708
        have hgy710 := (hfvy677 (883 + 6) (by omega)).trans hgy709
        exact z_vret C hr hlk dX7_readLayer_162 (by decide) (by decide) ⟨rfl, rfl, rfl, Or.inr ⟨(3, (tk_nx T n f)), by simp only [cl_fin, cl_layer, cl_layer2, hnvy17, if_pos hscy676], ⟨by show 1 ≤ 3 ∧ 3 ≤ 5; omega, _, _, _, _, _, _, by omega, by omega, hkvy677, hgy680⟩, ⟨hgy692, hgy695, hgy698, hgy701, hgy704, hgy707, hgy710⟩, hW9⟩, fun j j1 j2 => by rw [hfvy677 _ (by omega)]; rw [hfvy17 _ (by omega)]; rw [hfvy12 _ (by omega)]⟩
      · refine z_aload_n C 5 dX7_readLayer_98 rfl ?_
        refine z_iconst (z := 5) C dX7_readLayer_99 rfl ?_
        refine z_aload_n C 5 dX7_readLayer_100 rfl ?_
        refine z_get (v := .int (zI (((tk_nx T n f) : Int)))) C (lt_K hN (rfl : Nat.blt (2) 952 = true)) hay1 hkvy677 rfl inA_X7 7 (by decide) q_51 rfl rfl dX7_readLayer_101 ?_
        refine z_cV (As := [.int (zI (5)), .int (zI (((tk_nx T n f) : Int)))]) (rest := []) (ci := 9) C (c_fFail l D A cs tt N ad _ (by omega) _ _ _ _ _ _ _ _ (by omega) hkvy677 (5) (((tk_nx T n f) : Int))) (lt_K hN (rfl : Nat.blt (2) 952 = true)) hay1 hkvy677 rfl rfl mv_yX7_fail q_809 hd_yX7_fail (by decide) (Nat.le_of_ble_eq_true rfl) (by decide) dX7_readLayer_104 rfl (kV0 fun gvy711 hvy711 => ?_)
        obtain rfl := hvy711
        refine z_aload_n C 5 dX7_readLayer_107 rfl ?_
        refine z_iconst (z := 0) C dX7_readLayer_108 rfl ?_
        refine z_sipush (z := 300) C dX7_readLayer_109 (by decide) ?_
        have hruny712 : okRun cs ad gvy677 (3) tp := ⟨_, _, _, _, _, _, _, by omega, by omega, hkvy677, hgy680⟩
        refine z_cV (As := [.int (zI (0)), .int (zI (300))]) (rest := []) (ci := 9) C (c_fNumber l D A cs tt N ad _ (by omega) _ tp hruny712 (by omega) (0) (by omega) (300) (by omega)) (lt_K hN (rfl : Nat.blt (2) 952 = true)) hay1 hkvy677 rfl rfl mv_yX7_number q_817 hd_yX7_number (by decide) (Nat.le_of_ble_eq_true rfl) (by decide) dX7_readLayer_112 rfl (kI0 fun vy713 gvy713 hvy713 => ?_)
        obtain ⟨hvy713, rfl⟩ := hvy713
        refine z_istore (lv' := [(8, .int (zI (vy713))), (7, .int (zI (vy687))), (6, .int (zI (vy685))), (5, .int (zI (vy683))), (4, .int (zI (vy681))), (3, .int (zI (vy17))), (0, .ref (ad 2)), (1, .ref (ad 883)), (2, .ref (ad 890))]) C dX7_readLayer_115 (by decide) rfl ?_
        refine z_aload_n C 6 dX7_readLayer_117 rfl ?_
        refine z_cV (As := []) (rest := []) (ci := 9) C (c_fClose l D A cs tt N ad _ (by omega) _ _ _ _ _ _ _ _ (by omega) (by omega) hkvy677) (lt_K hN (rfl : Nat.blt (2) 952 = true)) hay1 hkvy677 rfl rfl mv_yX7_close q_821 hd_yX7_close (by decide) (Nat.le_of_ble_eq_true rfl) (by decide) dX7_readLayer_118 rfl (kV0 fun gvy714 hvy714 => ?_)
        obtain rfl := hvy714
        refine z_aload_n C 6 dX7_readLayer_121 rfl ?_
        refine z_get (v := .int (zI (3))) C (lt_K hN (rfl : Nat.blt (2) 952 = true)) hay1 hkvy677 rfl inA_X7 1 (by decide) q_45 rfl rfl dX7_readLayer_122 ?_
        refine z_if_ne (tgt := 162) C dX7_readLayer_125 (by decide) (by omega) (fun _ => ?_) (fun h => absurd h (by omega))
        have hW9 : isWorld cs ad gvy677 890 wt wz wo wr := hW.mv (fun _ _ _ => rfl) (fun j j1 j2 => by rw [hfvy677 _ (by omega)]; rw [hfvy17 _ (by omega)]; rw [hfvy12 _ (by omega)])
        have hgy715 := (hfvy677 (883) (by decide)).trans hgy22
        have hgy716 := (hfvy12 (883 + 1) (by omega)).trans hP.2.1
        have hgy717 := (hfvy17 (883 + 1) (by omega)).trans hgy716
        have hgy718 := (hfvy677 (883 + 1) (by omega)).trans hgy717
        have hgy719 := (hfvy12 (883 + 2) (by omega)).trans hP.2.2.1
        have hgy720 := (hfvy17 (883 + 2) (by omega)).trans hgy719
        have hgy721 := (hfvy677 (883 + 2) (by omega)).trans hgy720
        have hgy722 := (hfvy12 (883 + 3) (by omega)).trans hP.2.2.2.1
        have hgy723 := (hfvy17 (883 + 3) (by omega)).trans hgy722
        have hgy724 := (hfvy677 (883 + 3) (by omega)).trans hgy723
        have hgy725 := (hfvy12 (883 + 4) (by omega)).trans hP.2.2.2.2.1
        have hgy726 := (hfvy17 (883 + 4) (by omega)).trans hgy725
        have hgy727 := (hfvy677 (883 + 4) (by omega)).trans hgy726
        have hgy728 := (hfvy12 (883 + 5) (by omega)).trans hP.2.2.2.2.2.1
        have hgy729 := (hfvy17 (883 + 5) (by omega)).trans hgy728
        have hgy730 := (hfvy677 (883 + 5) (by omega)).trans hgy729
        have hgy731 := (hfvy12 (883 + 6) (by omega)).trans hP.2.2.2.2.2.2
        have hgy732 := (hfvy17 (883 + 6) (by omega)).trans hgy731
        have hgy733 := (hfvy677 (883 + 6) (by omega)).trans hgy732
        exact z_vret C hr hlk dX7_readLayer_162 (by decide) (by decide) ⟨rfl, rfl, rfl, Or.inr ⟨(3, (tk_nx T n f)), by simp only [cl_fin, cl_layer, cl_layer2, hnvy17, if_pos hscy676], ⟨by show 1 ≤ 3 ∧ 3 ≤ 5; omega, _, _, _, _, _, _, by omega, by omega, hkvy677, hgy680⟩, ⟨hgy715, hgy718, hgy721, hgy724, hgy727, hgy730, hgy733⟩, hW9⟩, fun j j1 j2 => by rw [hfvy677 _ (by omega)]; rw [hfvy17 _ (by omega)]; rw [hfvy12 _ (by omega)]⟩
  · obtain ⟨cvy17, hcvy17, hnvy17, rfl, hkvy17⟩ := hvy17
    refine z_istore_n (lv' := [(3, .int (zI (0))), (0, .ref (ad 2)), (1, .ref (ad 883)), (2, .ref (ad 890))]) C dX7_readLayer_10 rfl (by decide) rfl ?_
    refine z_iload_n C 0 dX7_readLayer_11 rfl ?_
    refine z_aload_n C 2 dX7_readLayer_12 rfl ?_
    have hgy734 := (hfvy12 (883) (by decide)).trans hP.1
    have hgy735 := (hfvy17 (883) (by decide)).trans hgy734
    refine z_get (v := .int (zI (sl))) C (lt_K hN (rfl : Nat.blt (883) 952 = true)) hay3 hgy735 rfl inA_X5 0 (by decide) q_89 rfl rfl dX7_readLayer_13 ?_
    refine z_icmp_lt (tgt := 31) C dX7_readLayer_16 (by decide) (by omega) (by omega) (fun hby736 => ?_) (fun hby736 => ?_)
    · refine z_aload_n C 3 dX7_readLayer_31 rfl ?_
      have hgy737 := (hfvy12 (890) (by decide)).trans w1
      have hgy738 := (hfvy17 (890) (by decide)).trans hgy737
      refine z_get (v := .ref (ad (890 + 1))) C (lt_K hN (rfl : Nat.blt (890) 952 = true)) hay10 hgy738 rfl inA_X8 6 (by decide) q_189 rfl rfl dX7_readLayer_32 ?_
      refine z_iload_n C 0 dX7_readLayer_35 rfl ?_
      have hgy739 := (hfvy12 (890 + 1) (by omega)).trans w2
      have hgy740 := (hfvy17 (890 + 1) (by omega)).trans hgy739
      refine z_aald C (lt_K hN (rfl : Nat.blt (890 + 1) 952 = true)) hay11 hgy740 3 rfl (0) (by omega) (by omega) (by decide) (w3 0 (by omega)) dX7_readLayer_36 ?_
      have hay741 : zAt ad (890 + 2 + 2 * 0) (ad (890 + 2 + 2 * 0)) := rfl
      have hay742 : zAt ad (890 + 2 + 2 * 0 + 1) (ad (890 + 2 + 2 * 0 + 1)) := rfl
      have hpy743 := w4 0 (by omega)
      have hqy744 := wz4 0 (by omega)
      have hgy745 := (hfvy12 (890 + 2 + 2 * 0) (by omega)).trans hpy743.1
      have hgy746 := (hfvy17 (890 + 2 + 2 * 0) (by omega)).trans hgy745
      refine z_get (v := .int (zI (wz 0))) C (lt_K hN (rfl : Nat.blt (890 + 2 + 2 * 0) 952 = true)) hay741 hgy746 rfl inA_X3 0 (by decide) q_157 rfl rfl dX7_readLayer_37 ?_
      refine z_bipush (z := 12) C dX7_readLayer_40 (by decide) ?_
      refine z_icmp_lt (tgt := 54) C dX7_readLayer_42 (by decide) (by omega) (by omega) (fun hby747 => ?_) (fun hby747 => ?_)
      · refine z_aload_n C 1 dX7_readLayer_54 rfl ?_
        have hgy749 := (hfvy17 (1) (by decide)).trans hgy16
        have hruny748 : okRun cs ad gvy17 (cvy17) tp := ⟨_, _, _, _, _, _, _, by omega, by omega, hkvy17, hgy749⟩
        refine z_cV (As := []) (rest := []) (ci := 9) C (c_fKind l D A cs tt N ad _ (by omega) _ tp hruny748 (by omega) ) (lt_K hN (rfl : Nat.blt (2) 952 = true)) hay1 hkvy17 rfl rfl mv_yX7_kind q_830 hd_yX7_kind (by decide) (Nat.le_of_ble_eq_true rfl) (by decide) dX7_readLayer_55 rfl (kI0 fun vy750 gvy750 hvy750 => ?_)
        obtain ⟨hvy750, rfl⟩ := hvy750
        refine z_istore (lv' := [(4, .int (zI (vy750))), (3, .int (zI (0))), (0, .ref (ad 2)), (1, .ref (ad 883)), (2, .ref (ad 890))]) C dX7_readLayer_58 (by decide) rfl ?_
        refine z_aload_n C 2 dX7_readLayer_60 rfl ?_
        refine z_iconst (z := 1) C dX7_readLayer_61 rfl ?_
        refine z_bipush (z := 99) C dX7_readLayer_62 (by decide) ?_
        have hruny751 : okRun cs ad gvy17 (cvy17) tp := ⟨_, _, _, _, _, _, _, by omega, by omega, hkvy17, hgy749⟩
        refine z_cV (As := [.int (zI (1)), .int (zI (99))]) (rest := []) (ci := 9) C (c_fNumber l D A cs tt N ad _ (by omega) _ tp hruny751 (by omega) (1) (by omega) (99) (by omega)) (lt_K hN (rfl : Nat.blt (2) 952 = true)) hay1 hkvy17 rfl rfl mv_yX7_number q_817 hd_yX7_number (by decide) (Nat.le_of_ble_eq_true rfl) (by decide) dX7_readLayer_64 rfl (kI0 fun vy752 gvy752 hvy752 => ?_)
        obtain ⟨hvy752, rfl⟩ := hvy752
        refine z_istore (lv' := [(5, .int (zI (vy752))), (4, .int (zI (vy750))), (3, .int (zI (0))), (0, .ref (ad 2)), (1, .ref (ad 883)), (2, .ref (ad 890))]) C dX7_readLayer_67 (by decide) rfl ?_
        refine z_aload_n C 3 dX7_readLayer_69 rfl ?_
        refine z_iconst (z := 0) C dX7_readLayer_70 rfl ?_
        refine z_bipush (z := 99) C dX7_readLayer_71 (by decide) ?_
        have hruny753 : okRun cs ad gvy17 (cvy17) tp := ⟨_, _, _, _, _, _, _, by omega, by omega, hkvy17, hgy749⟩
        refine z_cV (As := [.int (zI (0)), .int (zI (99))]) (rest := []) (ci := 9) C (c_fNumber l D A cs tt N ad _ (by omega) _ tp hruny753 (by omega) (0) (by omega) (99) (by omega)) (lt_K hN (rfl : Nat.blt (2) 952 = true)) hay1 hkvy17 rfl rfl mv_yX7_number q_817 hd_yX7_number (by decide) (Nat.le_of_ble_eq_true rfl) (by decide) dX7_readLayer_73 rfl (kI0 fun vy754 gvy754 hvy754 => ?_)
        obtain ⟨hvy754, rfl⟩ := hvy754
        refine z_istore (lv' := [(6, .int (zI (vy754))), (5, .int (zI (vy752))), (4, .int (zI (vy750))), (3, .int (zI (0))), (0, .ref (ad 2)), (1, .ref (ad 883)), (2, .ref (ad 890))]) C dX7_readLayer_76 (by decide) rfl ?_
        refine z_aload_n C 4 dX7_readLayer_78 rfl ?_
        refine z_iconst (z := 1) C dX7_readLayer_79 rfl ?_
        refine z_sipush (z := 999) C dX7_readLayer_80 (by decide) ?_
        have hruny755 : okRun cs ad gvy17 (cvy17) tp := ⟨_, _, _, _, _, _, _, by omega, by omega, hkvy17, hgy749⟩
        refine z_cV (As := [.int (zI (1)), .int (zI (999))]) (rest := []) (ci := 9) C (c_fNumber l D A cs tt N ad _ (by omega) _ tp hruny755 (by omega) (1) (by omega) (999) (by omega)) (lt_K hN (rfl : Nat.blt (2) 952 = true)) hay1 hkvy17 rfl rfl mv_yX7_number q_817 hd_yX7_number (by decide) (Nat.le_of_ble_eq_true rfl) (by decide) dX7_readLayer_83 rfl (kI0 fun vy756 gvy756 hvy756 => ?_)
        obtain ⟨hvy756, rfl⟩ := hvy756
        refine z_istore (lv' := [(7, .int (zI (vy756))), (6, .int (zI (vy754))), (5, .int (zI (vy752))), (4, .int (zI (vy750))), (3, .int (zI (0))), (0, .ref (ad 2)), (1, .ref (ad 883)), (2, .ref (ad 890))]) C dX7_readLayer_86 (by decide) rfl ?_
        refine z_iload C 0 dX7_readLayer_88 rfl ?_
        refine z_iload C 2 dX7_readLayer_90 rfl ?_
        refine z_iload C 1 dX7_readLayer_92 rfl ?_
        refine z_iadd C dX7_readLayer_94 ?_
        refine z_icmp_ge (tgt := 107) C dX7_readLayer_95 (by decide) (by omega) (by omega) (fun hby757 => ?_) (fun hby757 => ?_)
        · refine z_aload_n C 5 dX7_readLayer_107 rfl ?_
          refine z_iconst (z := 0) C dX7_readLayer_108 rfl ?_
          refine z_sipush (z := 300) C dX7_readLayer_109 (by decide) ?_
          have hruny758 : okRun cs ad gvy17 (cvy17) tp := ⟨_, _, _, _, _, _, _, by omega, by omega, hkvy17, hgy749⟩
          refine z_cV (As := [.int (zI (0)), .int (zI (300))]) (rest := []) (ci := 9) C (c_fNumber l D A cs tt N ad _ (by omega) _ tp hruny758 (by omega) (0) (by omega) (300) (by omega)) (lt_K hN (rfl : Nat.blt (2) 952 = true)) hay1 hkvy17 rfl rfl mv_yX7_number q_817 hd_yX7_number (by decide) (Nat.le_of_ble_eq_true rfl) (by decide) dX7_readLayer_112 rfl (kI0 fun vy759 gvy759 hvy759 => ?_)
          obtain ⟨hvy759, rfl⟩ := hvy759
          refine z_istore (lv' := [(8, .int (zI (vy759))), (7, .int (zI (vy756))), (6, .int (zI (vy754))), (5, .int (zI (vy752))), (4, .int (zI (vy750))), (3, .int (zI (0))), (0, .ref (ad 2)), (1, .ref (ad 883)), (2, .ref (ad 890))]) C dX7_readLayer_115 (by decide) rfl ?_
          refine z_aload_n C 6 dX7_readLayer_117 rfl ?_
          refine z_cV (As := []) (rest := []) (ci := 9) C (c_fClose l D A cs tt N ad _ (by omega) _ _ _ _ _ _ _ _ (by omega) (by omega) hkvy17) (lt_K hN (rfl : Nat.blt (2) 952 = true)) hay1 hkvy17 rfl rfl mv_yX7_close q_821 hd_yX7_close (by decide) (Nat.le_of_ble_eq_true rfl) (by decide) dX7_readLayer_118 rfl (kV0 fun gvy760 hvy760 => ?_)
          obtain rfl := hvy760
          refine z_aload_n C 6 dX7_readLayer_121 rfl ?_
          refine z_get (v := .int (zI (cvy17))) C (lt_K hN (rfl : Nat.blt (2) 952 = true)) hay1 hkvy17 rfl inA_X7 1 (by decide) q_45 rfl rfl dX7_readLayer_122 ?_
          refine z_if_ne (tgt := 162) C dX7_readLayer_125 (by decide) (by omega) (fun _ => ?_) (fun h => absurd h (by omega))
          have hW9 : isWorld cs ad gvy17 890 wt wz wo wr := hW.mv (fun _ _ _ => rfl) (fun j j1 j2 => by rw [hfvy17 _ (by omega)]; rw [hfvy12 _ (by omega)])
          have hgy761 := (hfvy12 (883 + 1) (by omega)).trans hP.2.1
          have hgy762 := (hfvy17 (883 + 1) (by omega)).trans hgy761
          have hgy763 := (hfvy12 (883 + 2) (by omega)).trans hP.2.2.1
          have hgy764 := (hfvy17 (883 + 2) (by omega)).trans hgy763
          have hgy765 := (hfvy12 (883 + 3) (by omega)).trans hP.2.2.2.1
          have hgy766 := (hfvy17 (883 + 3) (by omega)).trans hgy765
          have hgy767 := (hfvy12 (883 + 4) (by omega)).trans hP.2.2.2.2.1
          have hgy768 := (hfvy17 (883 + 4) (by omega)).trans hgy767
          have hgy769 := (hfvy12 (883 + 5) (by omega)).trans hP.2.2.2.2.2.1
          have hgy770 := (hfvy17 (883 + 5) (by omega)).trans hgy769
          have hgy771 := (hfvy12 (883 + 6) (by omega)).trans hP.2.2.2.2.2.2
          have hgy772 := (hfvy17 (883 + 6) (by omega)).trans hgy771
          exact z_vret C hr hlk dX7_readLayer_162 (by decide) (by decide) ⟨rfl, rfl, rfl, Or.inr ⟨(cvy17, (tk_nx T n f)), by simp only [cl_fin, cl_layer, cl_layer2, hnvy17], ⟨by show 1 ≤ cvy17 ∧ cvy17 ≤ 5; omega, _, _, _, _, _, _, by omega, by omega, hkvy17, hgy749⟩, ⟨hgy735, hgy762, hgy764, hgy766, hgy768, hgy770, hgy772⟩, hW9⟩, fun j j1 j2 => by rw [hfvy17 _ (by omega)]; rw [hfvy12 _ (by omega)]⟩
        · refine z_aload_n C 5 dX7_readLayer_98 rfl ?_
          refine z_iconst (z := 5) C dX7_readLayer_99 rfl ?_
          refine z_aload_n C 5 dX7_readLayer_100 rfl ?_
          refine z_get (v := .int (zI ((f : Int)))) C (lt_K hN (rfl : Nat.blt (2) 952 = true)) hay1 hkvy17 rfl inA_X7 7 (by decide) q_51 rfl rfl dX7_readLayer_101 ?_
          refine z_cV (As := [.int (zI (5)), .int (zI ((f : Int)))]) (rest := []) (ci := 9) C (c_fFail l D A cs tt N ad _ (by omega) _ _ _ _ _ _ _ _ (by omega) hkvy17 (5) ((f : Int))) (lt_K hN (rfl : Nat.blt (2) 952 = true)) hay1 hkvy17 rfl rfl mv_yX7_fail q_809 hd_yX7_fail (by decide) (Nat.le_of_ble_eq_true rfl) (by decide) dX7_readLayer_104 rfl (kV0 fun gvy773 hvy773 => ?_)
          obtain rfl := hvy773
          refine z_aload_n C 5 dX7_readLayer_107 rfl ?_
          refine z_iconst (z := 0) C dX7_readLayer_108 rfl ?_
          refine z_sipush (z := 300) C dX7_readLayer_109 (by decide) ?_
          have hruny774 : okRun cs ad gvy17 (cvy17) tp := ⟨_, _, _, _, _, _, _, by omega, by omega, hkvy17, hgy749⟩
          refine z_cV (As := [.int (zI (0)), .int (zI (300))]) (rest := []) (ci := 9) C (c_fNumber l D A cs tt N ad _ (by omega) _ tp hruny774 (by omega) (0) (by omega) (300) (by omega)) (lt_K hN (rfl : Nat.blt (2) 952 = true)) hay1 hkvy17 rfl rfl mv_yX7_number q_817 hd_yX7_number (by decide) (Nat.le_of_ble_eq_true rfl) (by decide) dX7_readLayer_112 rfl (kI0 fun vy775 gvy775 hvy775 => ?_)
          obtain ⟨hvy775, rfl⟩ := hvy775
          refine z_istore (lv' := [(8, .int (zI (vy775))), (7, .int (zI (vy756))), (6, .int (zI (vy754))), (5, .int (zI (vy752))), (4, .int (zI (vy750))), (3, .int (zI (0))), (0, .ref (ad 2)), (1, .ref (ad 883)), (2, .ref (ad 890))]) C dX7_readLayer_115 (by decide) rfl ?_
          refine z_aload_n C 6 dX7_readLayer_117 rfl ?_
          refine z_cV (As := []) (rest := []) (ci := 9) C (c_fClose l D A cs tt N ad _ (by omega) _ _ _ _ _ _ _ _ (by omega) (by omega) hkvy17) (lt_K hN (rfl : Nat.blt (2) 952 = true)) hay1 hkvy17 rfl rfl mv_yX7_close q_821 hd_yX7_close (by decide) (Nat.le_of_ble_eq_true rfl) (by decide) dX7_readLayer_118 rfl (kV0 fun gvy776 hvy776 => ?_)
          obtain rfl := hvy776
          refine z_aload_n C 6 dX7_readLayer_121 rfl ?_
          refine z_get (v := .int (zI (cvy17))) C (lt_K hN (rfl : Nat.blt (2) 952 = true)) hay1 hkvy17 rfl inA_X7 1 (by decide) q_45 rfl rfl dX7_readLayer_122 ?_
          refine z_if_ne (tgt := 162) C dX7_readLayer_125 (by decide) (by omega) (fun _ => ?_) (fun h => absurd h (by omega))
          have hW9 : isWorld cs ad gvy17 890 wt wz wo wr := hW.mv (fun _ _ _ => rfl) (fun j j1 j2 => by rw [hfvy17 _ (by omega)]; rw [hfvy12 _ (by omega)])
          have hgy777 := (hfvy12 (883 + 1) (by omega)).trans hP.2.1
          have hgy778 := (hfvy17 (883 + 1) (by omega)).trans hgy777
          have hgy779 := (hfvy12 (883 + 2) (by omega)).trans hP.2.2.1
          have hgy780 := (hfvy17 (883 + 2) (by omega)).trans hgy779
          have hgy781 := (hfvy12 (883 + 3) (by omega)).trans hP.2.2.2.1
          have hgy782 := (hfvy17 (883 + 3) (by omega)).trans hgy781
          have hgy783 := (hfvy12 (883 + 4) (by omega)).trans hP.2.2.2.2.1
          have hgy784 := (hfvy17 (883 + 4) (by omega)).trans hgy783
          have hgy785 := (hfvy12 (883 + 5) (by omega)).trans hP.2.2.2.2.2.1
          have hgy786 := (hfvy17 (883 + 5) (by omega)).trans hgy785
          have hgy787 := (hfvy12 (883 + 6) (by omega)).trans hP.2.2.2.2.2.2
          have hgy788 := (hfvy17 (883 + 6) (by omega)).trans hgy787
          exact z_vret C hr hlk dX7_readLayer_162 (by decide) (by decide) ⟨rfl, rfl, rfl, Or.inr ⟨(cvy17, (tk_nx T n f)), by simp only [cl_fin, cl_layer, cl_layer2, hnvy17], ⟨by show 1 ≤ cvy17 ∧ cvy17 ≤ 5; omega, _, _, _, _, _, _, by omega, by omega, hkvy17, hgy749⟩, ⟨hgy735, hgy778, hgy780, hgy782, hgy784, hgy786, hgy788⟩, hW9⟩, fun j j1 j2 => by rw [hfvy17 _ (by omega)]; rw [hfvy12 _ (by omega)]⟩
      · refine z_aload_n C 1 dX7_readLayer_45 rfl ?_
        refine z_iconst (z := 2) C dX7_readLayer_46 rfl ?_
        refine z_aload_n C 1 dX7_readLayer_47 rfl ?_
        refine z_get (v := .int (zI ((f : Int)))) C (lt_K hN (rfl : Nat.blt (2) 952 = true)) hay1 hkvy17 rfl inA_X7 7 (by decide) q_51 rfl rfl dX7_readLayer_48 ?_
        refine z_cV (As := [.int (zI (2)), .int (zI ((f : Int)))]) (rest := []) (ci := 9) C (c_fFail l D A cs tt N ad _ (by omega) _ _ _ _ _ _ _ _ (by omega) hkvy17 (2) ((f : Int))) (lt_K hN (rfl : Nat.blt (2) 952 = true)) hay1 hkvy17 rfl rfl mv_yX7_fail q_809 hd_yX7_fail (by decide) (Nat.le_of_ble_eq_true rfl) (by decide) dX7_readLayer_51 rfl (kV0 fun gvy789 hvy789 => ?_)
        obtain rfl := hvy789
        refine z_aload_n C 1 dX7_readLayer_54 rfl ?_
        have hgy791 := (hfvy17 (1) (by decide)).trans hgy16
        have hruny790 : okRun cs ad gvy17 (cvy17) tp := ⟨_, _, _, _, _, _, _, by omega, by omega, hkvy17, hgy791⟩
        refine z_cV (As := []) (rest := []) (ci := 9) C (c_fKind l D A cs tt N ad _ (by omega) _ tp hruny790 (by omega) ) (lt_K hN (rfl : Nat.blt (2) 952 = true)) hay1 hkvy17 rfl rfl mv_yX7_kind q_830 hd_yX7_kind (by decide) (Nat.le_of_ble_eq_true rfl) (by decide) dX7_readLayer_55 rfl (kI0 fun vy792 gvy792 hvy792 => ?_)
        obtain ⟨hvy792, rfl⟩ := hvy792
        refine z_istore (lv' := [(4, .int (zI (vy792))), (3, .int (zI (0))), (0, .ref (ad 2)), (1, .ref (ad 883)), (2, .ref (ad 890))]) C dX7_readLayer_58 (by decide) rfl ?_
        refine z_aload_n C 2 dX7_readLayer_60 rfl ?_
        refine z_iconst (z := 1) C dX7_readLayer_61 rfl ?_
        refine z_bipush (z := 99) C dX7_readLayer_62 (by decide) ?_
        have hruny793 : okRun cs ad gvy17 (cvy17) tp := ⟨_, _, _, _, _, _, _, by omega, by omega, hkvy17, hgy791⟩
        refine z_cV (As := [.int (zI (1)), .int (zI (99))]) (rest := []) (ci := 9) C (c_fNumber l D A cs tt N ad _ (by omega) _ tp hruny793 (by omega) (1) (by omega) (99) (by omega)) (lt_K hN (rfl : Nat.blt (2) 952 = true)) hay1 hkvy17 rfl rfl mv_yX7_number q_817 hd_yX7_number (by decide) (Nat.le_of_ble_eq_true rfl) (by decide) dX7_readLayer_64 rfl (kI0 fun vy794 gvy794 hvy794 => ?_)
        obtain ⟨hvy794, rfl⟩ := hvy794
        refine z_istore (lv' := [(5, .int (zI (vy794))), (4, .int (zI (vy792))), (3, .int (zI (0))), (0, .ref (ad 2)), (1, .ref (ad 883)), (2, .ref (ad 890))]) C dX7_readLayer_67 (by decide) rfl ?_
        refine z_aload_n C 3 dX7_readLayer_69 rfl ?_
        refine z_iconst (z := 0) C dX7_readLayer_70 rfl ?_
        refine z_bipush (z := 99) C dX7_readLayer_71 (by decide) ?_
        have hruny795 : okRun cs ad gvy17 (cvy17) tp := ⟨_, _, _, _, _, _, _, by omega, by omega, hkvy17, hgy791⟩
        refine z_cV (As := [.int (zI (0)), .int (zI (99))]) (rest := []) (ci := 9) C (c_fNumber l D A cs tt N ad _ (by omega) _ tp hruny795 (by omega) (0) (by omega) (99) (by omega)) (lt_K hN (rfl : Nat.blt (2) 952 = true)) hay1 hkvy17 rfl rfl mv_yX7_number q_817 hd_yX7_number (by decide) (Nat.le_of_ble_eq_true rfl) (by decide) dX7_readLayer_73 rfl (kI0 fun vy796 gvy796 hvy796 => ?_)
        obtain ⟨hvy796, rfl⟩ := hvy796
        refine z_istore (lv' := [(6, .int (zI (vy796))), (5, .int (zI (vy794))), (4, .int (zI (vy792))), (3, .int (zI (0))), (0, .ref (ad 2)), (1, .ref (ad 883)), (2, .ref (ad 890))]) C dX7_readLayer_76 (by decide) rfl ?_
        refine z_aload_n C 4 dX7_readLayer_78 rfl ?_
        refine z_iconst (z := 1) C dX7_readLayer_79 rfl ?_
        refine z_sipush (z := 999) C dX7_readLayer_80 (by decide) ?_
        have hruny797 : okRun cs ad gvy17 (cvy17) tp := ⟨_, _, _, _, _, _, _, by omega, by omega, hkvy17, hgy791⟩
        refine z_cV (As := [.int (zI (1)), .int (zI (999))]) (rest := []) (ci := 9) C (c_fNumber l D A cs tt N ad _ (by omega) _ tp hruny797 (by omega) (1) (by omega) (999) (by omega)) (lt_K hN (rfl : Nat.blt (2) 952 = true)) hay1 hkvy17 rfl rfl mv_yX7_number q_817 hd_yX7_number (by decide) (Nat.le_of_ble_eq_true rfl) (by decide) dX7_readLayer_83 rfl (kI0 fun vy798 gvy798 hvy798 => ?_)
        obtain ⟨hvy798, rfl⟩ := hvy798
        refine z_istore (lv' := [(7, .int (zI (vy798))), (6, .int (zI (vy796))), (5, .int (zI (vy794))), (4, .int (zI (vy792))), (3, .int (zI (0))), (0, .ref (ad 2)), (1, .ref (ad 883)), (2, .ref (ad 890))]) C dX7_readLayer_86 (by decide) rfl ?_
        refine z_iload C 0 dX7_readLayer_88 rfl ?_
        refine z_iload C 2 dX7_readLayer_90 rfl ?_
        refine z_iload C 1 dX7_readLayer_92 rfl ?_
        refine z_iadd C dX7_readLayer_94 ?_
        refine z_icmp_ge (tgt := 107) C dX7_readLayer_95 (by decide) (by omega) (by omega) (fun hby799 => ?_) (fun hby799 => ?_)
        · refine z_aload_n C 5 dX7_readLayer_107 rfl ?_
          refine z_iconst (z := 0) C dX7_readLayer_108 rfl ?_
          refine z_sipush (z := 300) C dX7_readLayer_109 (by decide) ?_
          have hruny800 : okRun cs ad gvy17 (cvy17) tp := ⟨_, _, _, _, _, _, _, by omega, by omega, hkvy17, hgy791⟩
          refine z_cV (As := [.int (zI (0)), .int (zI (300))]) (rest := []) (ci := 9) C (c_fNumber l D A cs tt N ad _ (by omega) _ tp hruny800 (by omega) (0) (by omega) (300) (by omega)) (lt_K hN (rfl : Nat.blt (2) 952 = true)) hay1 hkvy17 rfl rfl mv_yX7_number q_817 hd_yX7_number (by decide) (Nat.le_of_ble_eq_true rfl) (by decide) dX7_readLayer_112 rfl (kI0 fun vy801 gvy801 hvy801 => ?_)
          obtain ⟨hvy801, rfl⟩ := hvy801
          refine z_istore (lv' := [(8, .int (zI (vy801))), (7, .int (zI (vy798))), (6, .int (zI (vy796))), (5, .int (zI (vy794))), (4, .int (zI (vy792))), (3, .int (zI (0))), (0, .ref (ad 2)), (1, .ref (ad 883)), (2, .ref (ad 890))]) C dX7_readLayer_115 (by decide) rfl ?_
          refine z_aload_n C 6 dX7_readLayer_117 rfl ?_
          refine z_cV (As := []) (rest := []) (ci := 9) C (c_fClose l D A cs tt N ad _ (by omega) _ _ _ _ _ _ _ _ (by omega) (by omega) hkvy17) (lt_K hN (rfl : Nat.blt (2) 952 = true)) hay1 hkvy17 rfl rfl mv_yX7_close q_821 hd_yX7_close (by decide) (Nat.le_of_ble_eq_true rfl) (by decide) dX7_readLayer_118 rfl (kV0 fun gvy802 hvy802 => ?_)
          obtain rfl := hvy802
          refine z_aload_n C 6 dX7_readLayer_121 rfl ?_
          refine z_get (v := .int (zI (cvy17))) C (lt_K hN (rfl : Nat.blt (2) 952 = true)) hay1 hkvy17 rfl inA_X7 1 (by decide) q_45 rfl rfl dX7_readLayer_122 ?_
          refine z_if_ne (tgt := 162) C dX7_readLayer_125 (by decide) (by omega) (fun _ => ?_) (fun h => absurd h (by omega))
          have hW9 : isWorld cs ad gvy17 890 wt wz wo wr := hW.mv (fun _ _ _ => rfl) (fun j j1 j2 => by rw [hfvy17 _ (by omega)]; rw [hfvy12 _ (by omega)])
          have hgy803 := (hfvy12 (883 + 1) (by omega)).trans hP.2.1
          have hgy804 := (hfvy17 (883 + 1) (by omega)).trans hgy803
          have hgy805 := (hfvy12 (883 + 2) (by omega)).trans hP.2.2.1
          have hgy806 := (hfvy17 (883 + 2) (by omega)).trans hgy805
          have hgy807 := (hfvy12 (883 + 3) (by omega)).trans hP.2.2.2.1
          have hgy808 := (hfvy17 (883 + 3) (by omega)).trans hgy807
          have hgy809 := (hfvy12 (883 + 4) (by omega)).trans hP.2.2.2.2.1
          have hgy810 := (hfvy17 (883 + 4) (by omega)).trans hgy809
          have hgy811 := (hfvy12 (883 + 5) (by omega)).trans hP.2.2.2.2.2.1
          have hgy812 := (hfvy17 (883 + 5) (by omega)).trans hgy811
          have hgy813 := (hfvy12 (883 + 6) (by omega)).trans hP.2.2.2.2.2.2
          have hgy814 := (hfvy17 (883 + 6) (by omega)).trans hgy813
          exact z_vret C hr hlk dX7_readLayer_162 (by decide) (by decide) ⟨rfl, rfl, rfl, Or.inr ⟨(cvy17, (tk_nx T n f)), by simp only [cl_fin, cl_layer, cl_layer2, hnvy17], ⟨by show 1 ≤ cvy17 ∧ cvy17 ≤ 5; omega, _, _, _, _, _, _, by omega, by omega, hkvy17, hgy791⟩, ⟨hgy735, hgy804, hgy806, hgy808, hgy810, hgy812, hgy814⟩, hW9⟩, fun j j1 j2 => by rw [hfvy17 _ (by omega)]; rw [hfvy12 _ (by omega)]⟩
        · refine z_aload_n C 5 dX7_readLayer_98 rfl ?_
          refine z_iconst (z := 5) C dX7_readLayer_99 rfl ?_
          refine z_aload_n C 5 dX7_readLayer_100 rfl ?_
          refine z_get (v := .int (zI ((f : Int)))) C (lt_K hN (rfl : Nat.blt (2) 952 = true)) hay1 hkvy17 rfl inA_X7 7 (by decide) q_51 rfl rfl dX7_readLayer_101 ?_
          refine z_cV (As := [.int (zI (5)), .int (zI ((f : Int)))]) (rest := []) (ci := 9) C (c_fFail l D A cs tt N ad _ (by omega) _ _ _ _ _ _ _ _ (by omega) hkvy17 (5) ((f : Int))) (lt_K hN (rfl : Nat.blt (2) 952 = true)) hay1 hkvy17 rfl rfl mv_yX7_fail q_809 hd_yX7_fail (by decide) (Nat.le_of_ble_eq_true rfl) (by decide) dX7_readLayer_104 rfl (kV0 fun gvy815 hvy815 => ?_)
          obtain rfl := hvy815
          refine z_aload_n C 5 dX7_readLayer_107 rfl ?_
          refine z_iconst (z := 0) C dX7_readLayer_108 rfl ?_
          refine z_sipush (z := 300) C dX7_readLayer_109 (by decide) ?_
          have hruny816 : okRun cs ad gvy17 (cvy17) tp := ⟨_, _, _, _, _, _, _, by omega, by omega, hkvy17, hgy791⟩
          refine z_cV (As := [.int (zI (0)), .int (zI (300))]) (rest := []) (ci := 9) C (c_fNumber l D A cs tt N ad _ (by omega) _ tp hruny816 (by omega) (0) (by omega) (300) (by omega)) (lt_K hN (rfl : Nat.blt (2) 952 = true)) hay1 hkvy17 rfl rfl mv_yX7_number q_817 hd_yX7_number (by decide) (Nat.le_of_ble_eq_true rfl) (by decide) dX7_readLayer_112 rfl (kI0 fun vy817 gvy817 hvy817 => ?_)
          obtain ⟨hvy817, rfl⟩ := hvy817
          refine z_istore (lv' := [(8, .int (zI (vy817))), (7, .int (zI (vy798))), (6, .int (zI (vy796))), (5, .int (zI (vy794))), (4, .int (zI (vy792))), (3, .int (zI (0))), (0, .ref (ad 2)), (1, .ref (ad 883)), (2, .ref (ad 890))]) C dX7_readLayer_115 (by decide) rfl ?_
          refine z_aload_n C 6 dX7_readLayer_117 rfl ?_
          refine z_cV (As := []) (rest := []) (ci := 9) C (c_fClose l D A cs tt N ad _ (by omega) _ _ _ _ _ _ _ _ (by omega) (by omega) hkvy17) (lt_K hN (rfl : Nat.blt (2) 952 = true)) hay1 hkvy17 rfl rfl mv_yX7_close q_821 hd_yX7_close (by decide) (Nat.le_of_ble_eq_true rfl) (by decide) dX7_readLayer_118 rfl (kV0 fun gvy818 hvy818 => ?_)
          obtain rfl := hvy818
          refine z_aload_n C 6 dX7_readLayer_121 rfl ?_
          refine z_get (v := .int (zI (cvy17))) C (lt_K hN (rfl : Nat.blt (2) 952 = true)) hay1 hkvy17 rfl inA_X7 1 (by decide) q_45 rfl rfl dX7_readLayer_122 ?_
          refine z_if_ne (tgt := 162) C dX7_readLayer_125 (by decide) (by omega) (fun _ => ?_) (fun h => absurd h (by omega))
          have hW9 : isWorld cs ad gvy17 890 wt wz wo wr := hW.mv (fun _ _ _ => rfl) (fun j j1 j2 => by rw [hfvy17 _ (by omega)]; rw [hfvy12 _ (by omega)])
          have hgy819 := (hfvy12 (883 + 1) (by omega)).trans hP.2.1
          have hgy820 := (hfvy17 (883 + 1) (by omega)).trans hgy819
          have hgy821 := (hfvy12 (883 + 2) (by omega)).trans hP.2.2.1
          have hgy822 := (hfvy17 (883 + 2) (by omega)).trans hgy821
          have hgy823 := (hfvy12 (883 + 3) (by omega)).trans hP.2.2.2.1
          have hgy824 := (hfvy17 (883 + 3) (by omega)).trans hgy823
          have hgy825 := (hfvy12 (883 + 4) (by omega)).trans hP.2.2.2.2.1
          have hgy826 := (hfvy17 (883 + 4) (by omega)).trans hgy825
          have hgy827 := (hfvy12 (883 + 5) (by omega)).trans hP.2.2.2.2.2.1
          have hgy828 := (hfvy17 (883 + 5) (by omega)).trans hgy827
          have hgy829 := (hfvy12 (883 + 6) (by omega)).trans hP.2.2.2.2.2.2
          have hgy830 := (hfvy17 (883 + 6) (by omega)).trans hgy829
          exact z_vret C hr hlk dX7_readLayer_162 (by decide) (by decide) ⟨rfl, rfl, rfl, Or.inr ⟨(cvy17, (tk_nx T n f)), by simp only [cl_fin, cl_layer, cl_layer2, hnvy17], ⟨by show 1 ≤ cvy17 ∧ cvy17 ≤ 5; omega, _, _, _, _, _, _, by omega, by omega, hkvy17, hgy791⟩, ⟨hgy735, hgy820, hgy822, hgy824, hgy826, hgy828, hgy830⟩, hW9⟩, fun j j1 j2 => by rw [hfvy17 _ (by omega)]; rw [hfvy12 _ (by omega)]⟩
    · refine z_aload_n C 1 dX7_readLayer_19 rfl ?_
      refine z_iconst (z := 3) C dX7_readLayer_20 rfl ?_
      refine z_aload_n C 1 dX7_readLayer_21 rfl ?_
      refine z_get (v := .int (zI ((f : Int)))) C (lt_K hN (rfl : Nat.blt (2) 952 = true)) hay1 hkvy17 rfl inA_X7 7 (by decide) q_51 rfl rfl dX7_readLayer_22 ?_
      refine z_cV (As := [.int (zI (3)), .int (zI ((f : Int)))]) (rest := []) (ci := 9) C (c_fFail l D A cs tt N ad _ (by omega) _ _ _ _ _ _ _ _ (by omega) hkvy17 (3) ((f : Int))) (lt_K hN (rfl : Nat.blt (2) 952 = true)) hay1 hkvy17 rfl rfl mv_yX7_fail q_809 hd_yX7_fail (by decide) (Nat.le_of_ble_eq_true rfl) (by decide) dX7_readLayer_25 rfl (kV0 fun gvy831 hvy831 => ?_)
      obtain rfl := hvy831
      refine z_goto (tgt := 54) C dX7_readLayer_28 (by decide) ?_
      refine z_aload_n C 1 dX7_readLayer_54 rfl ?_
      have hgy833 := (hfvy17 (1) (by decide)).trans hgy16
      have hruny832 : okRun cs ad gvy17 (cvy17) tp := ⟨_, _, _, _, _, _, _, by omega, by omega, hkvy17, hgy833⟩
      refine z_cV (As := []) (rest := []) (ci := 9) C (c_fKind l D A cs tt N ad _ (by omega) _ tp hruny832 (by omega) ) (lt_K hN (rfl : Nat.blt (2) 952 = true)) hay1 hkvy17 rfl rfl mv_yX7_kind q_830 hd_yX7_kind (by decide) (Nat.le_of_ble_eq_true rfl) (by decide) dX7_readLayer_55 rfl (kI0 fun vy834 gvy834 hvy834 => ?_)
      obtain ⟨hvy834, rfl⟩ := hvy834
      refine z_istore (lv' := [(4, .int (zI (vy834))), (3, .int (zI (0))), (0, .ref (ad 2)), (1, .ref (ad 883)), (2, .ref (ad 890))]) C dX7_readLayer_58 (by decide) rfl ?_
      refine z_aload_n C 2 dX7_readLayer_60 rfl ?_
      refine z_iconst (z := 1) C dX7_readLayer_61 rfl ?_
      refine z_bipush (z := 99) C dX7_readLayer_62 (by decide) ?_
      have hruny835 : okRun cs ad gvy17 (cvy17) tp := ⟨_, _, _, _, _, _, _, by omega, by omega, hkvy17, hgy833⟩
      refine z_cV (As := [.int (zI (1)), .int (zI (99))]) (rest := []) (ci := 9) C (c_fNumber l D A cs tt N ad _ (by omega) _ tp hruny835 (by omega) (1) (by omega) (99) (by omega)) (lt_K hN (rfl : Nat.blt (2) 952 = true)) hay1 hkvy17 rfl rfl mv_yX7_number q_817 hd_yX7_number (by decide) (Nat.le_of_ble_eq_true rfl) (by decide) dX7_readLayer_64 rfl (kI0 fun vy836 gvy836 hvy836 => ?_)
      obtain ⟨hvy836, rfl⟩ := hvy836
      refine z_istore (lv' := [(5, .int (zI (vy836))), (4, .int (zI (vy834))), (3, .int (zI (0))), (0, .ref (ad 2)), (1, .ref (ad 883)), (2, .ref (ad 890))]) C dX7_readLayer_67 (by decide) rfl ?_
      refine z_aload_n C 3 dX7_readLayer_69 rfl ?_
      refine z_iconst (z := 0) C dX7_readLayer_70 rfl ?_
      refine z_bipush (z := 99) C dX7_readLayer_71 (by decide) ?_
      have hruny837 : okRun cs ad gvy17 (cvy17) tp := ⟨_, _, _, _, _, _, _, by omega, by omega, hkvy17, hgy833⟩
      refine z_cV (As := [.int (zI (0)), .int (zI (99))]) (rest := []) (ci := 9) C (c_fNumber l D A cs tt N ad _ (by omega) _ tp hruny837 (by omega) (0) (by omega) (99) (by omega)) (lt_K hN (rfl : Nat.blt (2) 952 = true)) hay1 hkvy17 rfl rfl mv_yX7_number q_817 hd_yX7_number (by decide) (Nat.le_of_ble_eq_true rfl) (by decide) dX7_readLayer_73 rfl (kI0 fun vy838 gvy838 hvy838 => ?_)
      obtain ⟨hvy838, rfl⟩ := hvy838
      refine z_istore (lv' := [(6, .int (zI (vy838))), (5, .int (zI (vy836))), (4, .int (zI (vy834))), (3, .int (zI (0))), (0, .ref (ad 2)), (1, .ref (ad 883)), (2, .ref (ad 890))]) C dX7_readLayer_76 (by decide) rfl ?_
      refine z_aload_n C 4 dX7_readLayer_78 rfl ?_
      refine z_iconst (z := 1) C dX7_readLayer_79 rfl ?_
      refine z_sipush (z := 999) C dX7_readLayer_80 (by decide) ?_
      have hruny839 : okRun cs ad gvy17 (cvy17) tp := ⟨_, _, _, _, _, _, _, by omega, by omega, hkvy17, hgy833⟩
      refine z_cV (As := [.int (zI (1)), .int (zI (999))]) (rest := []) (ci := 9) C (c_fNumber l D A cs tt N ad _ (by omega) _ tp hruny839 (by omega) (1) (by omega) (999) (by omega)) (lt_K hN (rfl : Nat.blt (2) 952 = true)) hay1 hkvy17 rfl rfl mv_yX7_number q_817 hd_yX7_number (by decide) (Nat.le_of_ble_eq_true rfl) (by decide) dX7_readLayer_83 rfl (kI0 fun vy840 gvy840 hvy840 => ?_)
      obtain ⟨hvy840, rfl⟩ := hvy840
      refine z_istore (lv' := [(7, .int (zI (vy840))), (6, .int (zI (vy838))), (5, .int (zI (vy836))), (4, .int (zI (vy834))), (3, .int (zI (0))), (0, .ref (ad 2)), (1, .ref (ad 883)), (2, .ref (ad 890))]) C dX7_readLayer_86 (by decide) rfl ?_
      refine z_iload C 0 dX7_readLayer_88 rfl ?_
      refine z_iload C 2 dX7_readLayer_90 rfl ?_
      refine z_iload C 1 dX7_readLayer_92 rfl ?_
      refine z_iadd C dX7_readLayer_94 ?_
      refine z_icmp_ge (tgt := 107) C dX7_readLayer_95 (by decide) (by omega) (by omega) (fun hby841 => ?_) (fun hby841 => ?_)
      · refine z_aload_n C 5 dX7_readLayer_107 rfl ?_
        refine z_iconst (z := 0) C dX7_readLayer_108 rfl ?_
        refine z_sipush (z := 300) C dX7_readLayer_109 (by decide) ?_
        have hruny842 : okRun cs ad gvy17 (cvy17) tp := ⟨_, _, _, _, _, _, _, by omega, by omega, hkvy17, hgy833⟩
        refine z_cV (As := [.int (zI (0)), .int (zI (300))]) (rest := []) (ci := 9) C (c_fNumber l D A cs tt N ad _ (by omega) _ tp hruny842 (by omega) (0) (by omega) (300) (by omega)) (lt_K hN (rfl : Nat.blt (2) 952 = true)) hay1 hkvy17 rfl rfl mv_yX7_number q_817 hd_yX7_number (by decide) (Nat.le_of_ble_eq_true rfl) (by decide) dX7_readLayer_112 rfl (kI0 fun vy843 gvy843 hvy843 => ?_)
        obtain ⟨hvy843, rfl⟩ := hvy843
        refine z_istore (lv' := [(8, .int (zI (vy843))), (7, .int (zI (vy840))), (6, .int (zI (vy838))), (5, .int (zI (vy836))), (4, .int (zI (vy834))), (3, .int (zI (0))), (0, .ref (ad 2)), (1, .ref (ad 883)), (2, .ref (ad 890))]) C dX7_readLayer_115 (by decide) rfl ?_
        refine z_aload_n C 6 dX7_readLayer_117 rfl ?_
        refine z_cV (As := []) (rest := []) (ci := 9) C (c_fClose l D A cs tt N ad _ (by omega) _ _ _ _ _ _ _ _ (by omega) (by omega) hkvy17) (lt_K hN (rfl : Nat.blt (2) 952 = true)) hay1 hkvy17 rfl rfl mv_yX7_close q_821 hd_yX7_close (by decide) (Nat.le_of_ble_eq_true rfl) (by decide) dX7_readLayer_118 rfl (kV0 fun gvy844 hvy844 => ?_)
        obtain rfl := hvy844
        refine z_aload_n C 6 dX7_readLayer_121 rfl ?_
        refine z_get (v := .int (zI (cvy17))) C (lt_K hN (rfl : Nat.blt (2) 952 = true)) hay1 hkvy17 rfl inA_X7 1 (by decide) q_45 rfl rfl dX7_readLayer_122 ?_
        refine z_if_ne (tgt := 162) C dX7_readLayer_125 (by decide) (by omega) (fun _ => ?_) (fun h => absurd h (by omega))
        have hW9 : isWorld cs ad gvy17 890 wt wz wo wr := hW.mv (fun _ _ _ => rfl) (fun j j1 j2 => by rw [hfvy17 _ (by omega)]; rw [hfvy12 _ (by omega)])
        have hgy845 := (hfvy12 (883 + 1) (by omega)).trans hP.2.1
        have hgy846 := (hfvy17 (883 + 1) (by omega)).trans hgy845
        have hgy847 := (hfvy12 (883 + 2) (by omega)).trans hP.2.2.1
        have hgy848 := (hfvy17 (883 + 2) (by omega)).trans hgy847
        have hgy849 := (hfvy12 (883 + 3) (by omega)).trans hP.2.2.2.1
        have hgy850 := (hfvy17 (883 + 3) (by omega)).trans hgy849
        have hgy851 := (hfvy12 (883 + 4) (by omega)).trans hP.2.2.2.2.1
        have hgy852 := (hfvy17 (883 + 4) (by omega)).trans hgy851
        have hgy853 := (hfvy12 (883 + 5) (by omega)).trans hP.2.2.2.2.2.1
        have hgy854 := (hfvy17 (883 + 5) (by omega)).trans hgy853
        have hgy855 := (hfvy12 (883 + 6) (by omega)).trans hP.2.2.2.2.2.2
        have hgy856 := (hfvy17 (883 + 6) (by omega)).trans hgy855
        exact z_vret C hr hlk dX7_readLayer_162 (by decide) (by decide) ⟨rfl, rfl, rfl, Or.inr ⟨(cvy17, (tk_nx T n f)), by simp only [cl_fin, cl_layer, cl_layer2, hnvy17], ⟨by show 1 ≤ cvy17 ∧ cvy17 ≤ 5; omega, _, _, _, _, _, _, by omega, by omega, hkvy17, hgy833⟩, ⟨hgy735, hgy846, hgy848, hgy850, hgy852, hgy854, hgy856⟩, hW9⟩, fun j j1 j2 => by rw [hfvy17 _ (by omega)]; rw [hfvy12 _ (by omega)]⟩
      · refine z_aload_n C 5 dX7_readLayer_98 rfl ?_
        refine z_iconst (z := 5) C dX7_readLayer_99 rfl ?_
        refine z_aload_n C 5 dX7_readLayer_100 rfl ?_
        refine z_get (v := .int (zI ((f : Int)))) C (lt_K hN (rfl : Nat.blt (2) 952 = true)) hay1 hkvy17 rfl inA_X7 7 (by decide) q_51 rfl rfl dX7_readLayer_101 ?_
        refine z_cV (As := [.int (zI (5)), .int (zI ((f : Int)))]) (rest := []) (ci := 9) C (c_fFail l D A cs tt N ad _ (by omega) _ _ _ _ _ _ _ _ (by omega) hkvy17 (5) ((f : Int))) (lt_K hN (rfl : Nat.blt (2) 952 = true)) hay1 hkvy17 rfl rfl mv_yX7_fail q_809 hd_yX7_fail (by decide) (Nat.le_of_ble_eq_true rfl) (by decide) dX7_readLayer_104 rfl (kV0 fun gvy857 hvy857 => ?_)
        obtain rfl := hvy857
        refine z_aload_n C 5 dX7_readLayer_107 rfl ?_
        refine z_iconst (z := 0) C dX7_readLayer_108 rfl ?_
        refine z_sipush (z := 300) C dX7_readLayer_109 (by decide) ?_
        have hruny858 : okRun cs ad gvy17 (cvy17) tp := ⟨_, _, _, _, _, _, _, by omega, by omega, hkvy17, hgy833⟩
        refine z_cV (As := [.int (zI (0)), .int (zI (300))]) (rest := []) (ci := 9) C (c_fNumber l D A cs tt N ad _ (by omega) _ tp hruny858 (by omega) (0) (by omega) (300) (by omega)) (lt_K hN (rfl : Nat.blt (2) 952 = true)) hay1 hkvy17 rfl rfl mv_yX7_number q_817 hd_yX7_number (by decide) (Nat.le_of_ble_eq_true rfl) (by decide) dX7_readLayer_112 rfl (kI0 fun vy859 gvy859 hvy859 => ?_)
        obtain ⟨hvy859, rfl⟩ := hvy859
        refine z_istore (lv' := [(8, .int (zI (vy859))), (7, .int (zI (vy840))), (6, .int (zI (vy838))), (5, .int (zI (vy836))), (4, .int (zI (vy834))), (3, .int (zI (0))), (0, .ref (ad 2)), (1, .ref (ad 883)), (2, .ref (ad 890))]) C dX7_readLayer_115 (by decide) rfl ?_
        refine z_aload_n C 6 dX7_readLayer_117 rfl ?_
        refine z_cV (As := []) (rest := []) (ci := 9) C (c_fClose l D A cs tt N ad _ (by omega) _ _ _ _ _ _ _ _ (by omega) (by omega) hkvy17) (lt_K hN (rfl : Nat.blt (2) 952 = true)) hay1 hkvy17 rfl rfl mv_yX7_close q_821 hd_yX7_close (by decide) (Nat.le_of_ble_eq_true rfl) (by decide) dX7_readLayer_118 rfl (kV0 fun gvy860 hvy860 => ?_)
        obtain rfl := hvy860
        refine z_aload_n C 6 dX7_readLayer_121 rfl ?_
        refine z_get (v := .int (zI (cvy17))) C (lt_K hN (rfl : Nat.blt (2) 952 = true)) hay1 hkvy17 rfl inA_X7 1 (by decide) q_45 rfl rfl dX7_readLayer_122 ?_
        refine z_if_ne (tgt := 162) C dX7_readLayer_125 (by decide) (by omega) (fun _ => ?_) (fun h => absurd h (by omega))
        have hW9 : isWorld cs ad gvy17 890 wt wz wo wr := hW.mv (fun _ _ _ => rfl) (fun j j1 j2 => by rw [hfvy17 _ (by omega)]; rw [hfvy12 _ (by omega)])
        have hgy861 := (hfvy12 (883 + 1) (by omega)).trans hP.2.1
        have hgy862 := (hfvy17 (883 + 1) (by omega)).trans hgy861
        have hgy863 := (hfvy12 (883 + 2) (by omega)).trans hP.2.2.1
        have hgy864 := (hfvy17 (883 + 2) (by omega)).trans hgy863
        have hgy865 := (hfvy12 (883 + 3) (by omega)).trans hP.2.2.2.1
        have hgy866 := (hfvy17 (883 + 3) (by omega)).trans hgy865
        have hgy867 := (hfvy12 (883 + 4) (by omega)).trans hP.2.2.2.2.1
        have hgy868 := (hfvy17 (883 + 4) (by omega)).trans hgy867
        have hgy869 := (hfvy12 (883 + 5) (by omega)).trans hP.2.2.2.2.2.1
        have hgy870 := (hfvy17 (883 + 5) (by omega)).trans hgy869
        have hgy871 := (hfvy12 (883 + 6) (by omega)).trans hP.2.2.2.2.2.2
        have hgy872 := (hfvy17 (883 + 6) (by omega)).trans hgy871
        exact z_vret C hr hlk dX7_readLayer_162 (by decide) (by decide) ⟨rfl, rfl, rfl, Or.inr ⟨(cvy17, (tk_nx T n f)), by simp only [cl_fin, cl_layer, cl_layer2, hnvy17], ⟨by show 1 ≤ cvy17 ∧ cvy17 ≤ 5; omega, _, _, _, _, _, _, by omega, by omega, hkvy17, hgy833⟩, ⟨hgy735, hgy862, hgy864, hgy866, hgy868, hgy870, hgy872⟩, hW9⟩, fun j j1 j2 => by rw [hfvy17 _ (by omega)]; rw [hfvy12 _ (by omega)]⟩
end
section
-- 70nj.xcla.lean.txt
/-- a clause and its semicolon: what is told behind it, and the next token; s: slopes, hours, names, layers of each slope, STEEP, OPEN, AIR, FALL, MUCH, the TABLE, its told places, the cells of each slope -/
def ps_step (T : Nat → Int) (n : Nat) (s : Int × Int × Int × (Nat → Int) × (Nat → Int) × (Nat → Int) × (Nat → Int) × (Nat → Int) × (Nat → Int) × (Nat → Int) × (Nat → Int) × (Nat → Nat → Int)) (f : Nat) : Except (Int × Nat) ((Int × Int × Int × (Nat → Int) × (Nat → Int) × (Nat → Int) × (Nat → Int) × (Nat → Int) × (Nat → Int) × (Nat → Int) × (Nat → Int) × (Nat → Nat → Int)) × Nat) :=
  if tk_w T n f = 0 then (match cl_fin T n (cl_slope T n s.1 f) with | .error e => .error e | .ok v => .ok ((s.1 + 1, s.2.1, s.2.2.1, s.2.2.2.1, uZ s.2.2.2.2.1 (s.1).toNat v.1.1, uZ s.2.2.2.2.2.1 (s.1).toNat v.1.2, s.2.2.2.2.2.2.1, s.2.2.2.2.2.2.2.1, s.2.2.2.2.2.2.2.2.1, s.2.2.2.2.2.2.2.2.2.1, s.2.2.2.2.2.2.2.2.2.2.1, s.2.2.2.2.2.2.2.2.2.2.2), v.2))
  else if tk_w T n f = 1 then (match cl_fin T n (cl_layer T n s.1 s.2.2.2.1 f) with | .error e => .error e | .ok v => .ok ((s.1, s.2.1, s.2.2.1 + 1, uZ s.2.2.2.1 v.1.1.toNat (s.2.2.2.1 v.1.1.toNat + 1), s.2.2.2.2.1, s.2.2.2.2.2.1, s.2.2.2.2.2.2.1, s.2.2.2.2.2.2.2.1, s.2.2.2.2.2.2.2.2.1, s.2.2.2.2.2.2.2.2.2.1, s.2.2.2.2.2.2.2.2.2.2.1, (fun j => if j = v.1.1.toNat then la_ (s.2.2.2.2.2.2.2.2.2.2.2 v.1.1.toNat) (s.2.2.2.1 v.1.1.toNat) v.1.2.1 v.1.2.2.1 v.1.2.2.2.1 v.1.2.2.2.2.1 v.1.2.2.2.2.2 s.2.2.1 else s.2.2.2.2.2.2.2.2.2.2.2 j)), v.2))
  else if tk_w T n f = 2 then (match cl_fin T n (cl_hour T n s.2.1 f) with | .error e => .error e | .ok v => .ok ((s.1, s.2.1 + 1, s.2.2.1, s.2.2.2.1, s.2.2.2.2.1, s.2.2.2.2.2.1, uZ s.2.2.2.2.2.2.1 (s.2.1).toNat v.1.1, uZ s.2.2.2.2.2.2.2.1 (s.2.1).toNat v.1.2.1, uZ s.2.2.2.2.2.2.2.2.1 (s.2.1).toNat v.1.2.2, s.2.2.2.2.2.2.2.2.2.1, s.2.2.2.2.2.2.2.2.2.2.1, s.2.2.2.2.2.2.2.2.2.2.2), v.2))
  else if tk_w T n f = 6 then (match cl_fin T n (cl_table T n s.2.2.2.2.2.2.2.2.2.2.1 0 0 99 f) with | .error e => .error e | .ok v => .ok ((s.1, s.2.1, s.2.2.1, s.2.2.2.1, s.2.2.2.2.1, s.2.2.2.2.2.1, s.2.2.2.2.2.2.1, s.2.2.2.2.2.2.2.1, s.2.2.2.2.2.2.2.2.1, uZ s.2.2.2.2.2.2.2.2.2.1 v.1.1.toNat v.1.2, uZ s.2.2.2.2.2.2.2.2.2.2.1 v.1.1.toNat 1, s.2.2.2.2.2.2.2.2.2.2.2), v.2))
  else if tk_w T n f = 7 then (match cl_fin T n (cl_table T n s.2.2.2.2.2.2.2.2.2.2.1 5 0 99 f) with | .error e => .error e | .ok v => .ok ((s.1, s.2.1, s.2.2.1, s.2.2.2.1, s.2.2.2.2.1, s.2.2.2.2.2.1, s.2.2.2.2.2.2.1, s.2.2.2.2.2.2.2.1, s.2.2.2.2.2.2.2.2.1, uZ s.2.2.2.2.2.2.2.2.2.1 v.1.1.toNat v.1.2, uZ s.2.2.2.2.2.2.2.2.2.2.1 v.1.1.toNat 1, s.2.2.2.2.2.2.2.2.2.2.2), v.2))
  else if tk_w T n f = 8 then (match cl_fin T n (cl_table T n s.2.2.2.2.2.2.2.2.2.2.1 10 1 9999 f) with | .error e => .error e | .ok v => .ok ((s.1, s.2.1, s.2.2.1, s.2.2.2.1, s.2.2.2.2.1, s.2.2.2.2.2.1, s.2.2.2.2.2.2.1, s.2.2.2.2.2.2.2.1, s.2.2.2.2.2.2.2.2.1, uZ s.2.2.2.2.2.2.2.2.2.1 v.1.1.toNat v.1.2, uZ s.2.2.2.2.2.2.2.2.2.2.1 v.1.1.toNat 1, s.2.2.2.2.2.2.2.2.2.2.2), v.2))
  else .error (1, f)
/-- a TEXT: its FAULT and place (0, -1: none), and what is told -/
def ps_run (T : Nat → Int) (n : Nat) : Nat → Int × Int × Int × (Nat → Int) × (Nat → Int) × (Nat → Int) × (Nat → Int) × (Nat → Int) × (Nat → Int) × (Nat → Int) × (Nat → Int) × (Nat → Nat → Int) → Nat → Option ((Int × Int) × (Int × Int × Int × (Nat → Int) × (Nat → Int) × (Nat → Int) × (Nat → Int) × (Nat → Int) × (Nat → Int) × (Nat → Int) × (Nat → Int) × (Nat → Nat → Int)))
  | 0, _, _ => none
  | k + 1, s, f => if tk_so T n f = 0 then some ((0, -1), s) else match ps_step T n s f with
    | .error e => some ((e.1, (e.2 : Int)), s)
    | .ok v => ps_run T n k v.1 v.2
theorem ps_run_m {T : Nat → Int} {n : Nat} : ∀ (k : Nat) (s : Int × Int × Int × (Nat → Int) × (Nat → Int) × (Nat → Int) × (Nat → Int) × (Nat → Int) × (Nat → Int) × (Nat → Int) × (Nat → Int) × (Nat → Nat → Int)) (f : Nat) (r : (Int × Int) × (Int × Int × Int × (Nat → Int) × (Nat → Int) × (Nat → Int) × (Nat → Int) × (Nat → Int) × (Nat → Int) × (Nat → Int) × (Nat → Int) × (Nat → Nat → Int))), ps_run T n k s f = some r → ∀ j, ps_run T n (k + j) s f = some r := by
  intro k
  induction k with
  | zero => intro s f r h; exact absurd h (by simp [ps_run])
  | succ k ih =>
    intro s f r h j
    rw [show k + 1 + j = (k + j) + 1 by omega]
    simp only [ps_run] at h ⊢
    by_cases e : tk_so T n f = 0
    · rw [if_pos e] at h ⊢; exact h
    · rw [if_neg e] at h ⊢
      cases hs : ps_step T n s f with
      | error e2 => rw [hs] at h; exact h
      | ok v => rw [hs] at h; exact ih v.1 v.2 r h j
/-- what a TEXT answers is one thing -/
theorem ps_run_u {T : Nat → Int} {n : Nat} {k j : Nat} {s : Int × Int × Int × (Nat → Int) × (Nat → Int) × (Nat → Int) × (Nat → Int) × (Nat → Int) × (Nat → Int) × (Nat → Int) × (Nat → Int) × (Nat → Nat → Int)} {f : Nat} {r q : (Int × Int) × (Int × Int × Int × (Nat → Int) × (Nat → Int) × (Nat → Int) × (Nat → Int) × (Nat → Int) × (Nat → Int) × (Nat → Int) × (Nat → Int) × (Nat → Nat → Int))} (h1 : ps_run T n k s f = some r) (h2 : ps_run T n j s f = some q) : r = q := by
  have a := ps_run_m k s f r h1 j
  have b := ps_run_m j s f q h2 k
  rw [Nat.add_comm j k, a] at b
  exact Option.some.inj b
/-- the class between two clauses: plan and packs as the pure picture says -/
abbrev xSt (cs : Nat → ClassId) (ad : Nat → Nat) (g : Nat → va_E) (s : Int × Int × Int × (Nat → Int) × (Nat → Int) × (Nat → Int) × (Nat → Int) × (Nat → Int) × (Nat → Int) × (Nat → Int) × (Nat → Int) × (Nat → Nat → Int)) : Prop := isPlan cs ad g 883 s.1 s.2.1 0 s.2.2.2.2.1 s.2.2.2.2.2.1 s.2.2.2.2.2.2.1 s.2.2.2.2.2.2.2.1 s.2.2.2.2.2.2.2.2.1 s.2.2.2.2.2.2.2.2.2.1 ∧ (0 ≤ s.1 ∧ s.1 ≤ 4) ∧ (0 ≤ s.2.1 ∧ s.2.1 ≤ 24) ∧ (∀ k, k < 4 → 0 ≤ s.2.2.2.1 k ∧ s.2.2.2.1 k ≤ 12) ∧ ∃ wt : Nat → Int, (∀ k, k < 6 → k ≠ 1 → wt k = 0) ∧ wt 1 = s.2.2.1 ∧ isWorld cs ad g 890 wt s.2.2.2.1 (fun _ => 0) s.2.2.2.2.2.2.2.2.2.2.2
theorem isWorld.o0 {cs : Nat → ClassId} {ad : Nat → Nat} {g : Nat → va_E} {a k : Nat} {t z : Nat → Int} {r : Nat → Nat → Int} (h : isWorld cs ad g a t z (uZ (fun _ => 0) k 0) r) : isWorld cs ad g a t z (fun _ => 0) r := by
  have e : uZ (fun _ => 0) k 0 = fun _ => 0 := by
    funext j
    by_cases e : j = k
    · rw [e, uZ_s]
    · rw [uZ_n _ _ e]
  rw [e] at h
  exact h
theorem uZ_r {r : Nat → Int} {k : Nat} {v lo hi : Int} {m : Nat} (h : ∀ j, j < m → lo ≤ r j ∧ r j ≤ hi) (hv : lo ≤ v ∧ v ≤ hi) : ∀ j, j < m → lo ≤ uZ r k v j ∧ uZ r k v j ≤ hi := fun j hj => by
  by_cases e : j = k
  · rw [e, uZ_s]; exact hv
  · rw [uZ_n _ _ e]; exact h j hj

set_option maxRecDepth 100000 in
set_option maxHeartbeats 4000000 in
theorem c_xClause (l : Launch) (D : va_G) (A : Nat → Prop) (cs : Nat → ClassId) (tt : Nat) (N : Nat) (ad : Nat → Nat) (g : Nat → va_E) (hN : 952 ≤ N) (pl tk td : Int) (tp T : Nat → Int) (hT : xT tp T) (n : Nat) (hn : n ≤ 900) (f : Nat) (hf : f ≤ n) (hg2 : g 2 = rdC ad (pl) (0) ((n : Int)) (tk_so T n f) ((f : Int)) (((tk_to T n f : Nat) : Int)) (tk) (td)) (hg1 : g 1 = bA cs 900 tp) (sl ho nm : Int) (mn st op ai fa mu tb B : Nat → Int) (Lz : Nat → Nat → Int) (hB : xTd td B) (hX : xSt cs ad g (sl, ho, nm, mn, st, op, ai, fa, mu, tb, B, Lz)) : zM l yX7_readClause cX7_readClause 3 none ({ frames := 8, cells := 0, slots := 0, locals := 480 } : Room) D A cs tt N ad g [.ref (ad 2), .ref (ad 883), .ref (ad 890)] (rV0 N ad fun g' => ((∃ v, ps_step T n (sl, ho, nm, mn, st, op, ai, fa, mu, tb, B, Lz) f = .ok v ∧ ((f < n → f < v.2) ∧ v.2 ≤ n) ∧ (∃ tk' td' : Int, g' 2 = rdC ad (pl) (0) ((n : Int)) (tk_so T n v.2) ((v.2 : Int)) (((tk_to T n v.2 : Nat) : Int)) (tk') (td') ∧ xTd td' v.1.2.2.2.2.2.2.2.2.2.2.1) ∧ xSt cs ad g' v.1) ∨ (∃ e : Int × Nat, ps_step T n (sl, ho, nm, mn, st, op, ai, fa, mu, tb, B, Lz) f = .error e ∧ xFl cs ad g' e.1 (e.2 : Int) tp ∧ xSt cs ad g' (sl, ho, nm, mn, st, op, ai, fa, mu, tb, B, Lz))) ∧ ∀ j, j ≠ 2 → (j < 883 ∨ 900 ≤ j) → g' j = g j) := by
  have hay1 : zAt ad (2) (ad 2) := rfl
  have hay2 : zAt ad (1) (ad 1) := rfl
  have hTr : ∀ k, k < 900 → -128 ≤ tp k ∧ tp k ≤ 127 := fun k hk => (hT k hk).2.1
  have hsb := tk_so_b T n f
  have htb := tk_to_b (T := T) hf
  have hwb := tk_w_b T n f
  obtain ⟨hP9, hsl9, hho9, hmn9, wt, hwt0, hnm9, hW9⟩ := hX
  have hP : isPlan cs ad g 883 sl ho 0 st op ai fa mu tb := hP9
  have hsl : 0 ≤ sl ∧ sl ≤ 4 := hsl9
  have hho : 0 ≤ ho ∧ ho ≤ 24 := hho9
  have hmn : ∀ k, k < 4 → 0 ≤ mn k ∧ mn k ≤ 12 := hmn9
  have hnm : wt 1 = nm := hnm9
  have hW : isWorld cs ad g 890 wt mn (fun _ => 0) Lz := hW9
  clear hP9 hsl9 hho9 hmn9 hnm9 hW9
  subst hnm
  have hay3 : zAt ad (883) (ad 883) := rfl
  have hay4 : zAt ad (890) (ad 890) := rfl
  refine z_of (by decide) (Nat.le_of_ble_eq_true rfl) ?_
  intro p e s m below meth c C hr hlk hnm
  refine z_lv (lv' := [(0, .ref (ad 2)), (1, .ref (ad 883)), (2, .ref (ad 890))]) [0, 1, 2] rfl ?_
  refine z_aload_n C 0 dX7_readClause_0 rfl ?_
  refine z_ldcS C skm0 rfl rfl dX7_readClause_1 ?_
  refine z_cV (As := [.ref (cs (100 + 0))]) (rest := []) (ci := 9) C (c_xIs l D A cs tt N ad _ (by omega) _ _ _ tp T hT n hn f (by omega) hg2 hg1 _ skm0) (lt_K hN (rfl : Nat.blt (2) 952 = true)) hay1 hg2 rfl rfl mv_yX7_is q_754 hd_yX7_is (by decide) (Nat.le_of_ble_eq_true rfl) (by decide) dX7_readClause_3 rfl (kI0 fun vy5 gvy5 hvy5 => ?_)
  obtain ⟨hvy5, rfl⟩ := hvy5
  have hwvy5 := is_w kbw_0 (by decide) hvy5
  clear hvy5
  have hrvy5 : 0 ≤ vy5 ∧ vy5 ≤ 1 := by omega
  refine z_if_eq (tgt := 17) C dX7_readClause_6 (by decide) (by omega) (fun hby6 => ?_) (fun hby6 => ?_)
  · refine z_aload_n C 0 dX7_readClause_17 rfl ?_
    refine z_ldcS C skm1 rfl rfl dX7_readClause_18 ?_
    refine z_cV (As := [.ref (cs (100 + 1))]) (rest := []) (ci := 9) C (c_xIs l D A cs tt N ad _ (by omega) _ _ _ tp T hT n hn f (by omega) hg2 hg1 _ skm1) (lt_K hN (rfl : Nat.blt (2) 952 = true)) hay1 hg2 rfl rfl mv_yX7_is q_754 hd_yX7_is (by decide) (Nat.le_of_ble_eq_true rfl) (by decide) dX7_readClause_20 rfl (kI0 fun vy7 gvy7 hvy7 => ?_)
    obtain ⟨hvy7, rfl⟩ := hvy7
    have hwvy7 := is_w kbw_1 (by decide) hvy7
    clear hvy7
    have hrvy7 : 0 ≤ vy7 ∧ vy7 ≤ 1 := by omega
    refine z_if_eq (tgt := 35) C dX7_readClause_23 (by decide) (by omega) (fun hby8 => ?_) (fun hby8 => ?_)
    · refine z_aload_n C 0 dX7_readClause_35 rfl ?_
      refine z_ldcS C skm7 rfl rfl dX7_readClause_36 ?_
      refine z_cV (As := [.ref (cs (100 + 7))]) (rest := []) (ci := 9) C (c_xIs l D A cs tt N ad _ (by omega) _ _ _ tp T hT n hn f (by omega) hg2 hg1 _ skm7) (lt_K hN (rfl : Nat.blt (2) 952 = true)) hay1 hg2 rfl rfl mv_yX7_is q_754 hd_yX7_is (by decide) (Nat.le_of_ble_eq_true rfl) (by decide) dX7_readClause_38 rfl (kI0 fun vy9 gvy9 hvy9 => ?_)
      obtain ⟨hvy9, rfl⟩ := hvy9
      have hwvy9 := is_w kbw_7 (by decide) hvy9
      clear hvy9
      have hrvy9 : 0 ≤ vy9 ∧ vy9 ≤ 1 := by omega
      refine z_if_eq (tgt := 52) C dX7_readClause_41 (by decide) (by omega) (fun hby10 => ?_) (fun hby10 => ?_)
      · refine z_aload_n C 0 dX7_readClause_52 rfl ?_
        refine z_ldcS C skm11 rfl rfl dX7_readClause_53 ?_
        refine z_cV (As := [.ref (cs (100 + 11))]) (rest := []) (ci := 9) C (c_xIs l D A cs tt N ad _ (by omega) _ _ _ tp T hT n hn f (by omega) hg2 hg1 _ skm11) (lt_K hN (rfl : Nat.blt (2) 952 = true)) hay1 hg2 rfl rfl mv_yX7_is q_754 hd_yX7_is (by decide) (Nat.le_of_ble_eq_true rfl) (by decide) dX7_readClause_55 rfl (kI0 fun vy11 gvy11 hvy11 => ?_)
        obtain ⟨hvy11, rfl⟩ := hvy11
        have hwvy11 := is_w kbw_11 (by decide) hvy11
        clear hvy11
        have hrvy11 : 0 ≤ vy11 ∧ vy11 ≤ 1 := by omega
        refine z_if_eq (tgt := 73) C dX7_readClause_58 (by decide) (by omega) (fun hby12 => ?_) (fun hby12 => ?_)
        · refine z_aload_n C 0 dX7_readClause_73 rfl ?_
          refine z_ldcS C skm12 rfl rfl dX7_readClause_74 ?_
          refine z_cV (As := [.ref (cs (100 + 12))]) (rest := []) (ci := 9) C (c_xIs l D A cs tt N ad _ (by omega) _ _ _ tp T hT n hn f (by omega) hg2 hg1 _ skm12) (lt_K hN (rfl : Nat.blt (2) 952 = true)) hay1 hg2 rfl rfl mv_yX7_is q_754 hd_yX7_is (by decide) (Nat.le_of_ble_eq_true rfl) (by decide) dX7_readClause_76 rfl (kI0 fun vy13 gvy13 hvy13 => ?_)
          obtain ⟨hvy13, rfl⟩ := hvy13
          have hwvy13 := is_w kbw_12 (by decide) hvy13
          clear hvy13
          have hrvy13 : 0 ≤ vy13 ∧ vy13 ≤ 1 := by omega
          refine z_if_eq (tgt := 94) C dX7_readClause_79 (by decide) (by omega) (fun hby14 => ?_) (fun hby14 => ?_)
          · refine z_aload_n C 0 dX7_readClause_94 rfl ?_
            refine z_ldcS C skm13 rfl rfl dX7_readClause_95 ?_
            refine z_cV (As := [.ref (cs (100 + 13))]) (rest := []) (ci := 9) C (c_xIs l D A cs tt N ad _ (by omega) _ _ _ tp T hT n hn f (by omega) hg2 hg1 _ skm13) (lt_K hN (rfl : Nat.blt (2) 952 = true)) hay1 hg2 rfl rfl mv_yX7_is q_754 hd_yX7_is (by decide) (Nat.le_of_ble_eq_true rfl) (by decide) dX7_readClause_97 rfl (kI0 fun vy15 gvy15 hvy15 => ?_)
            obtain ⟨hvy15, rfl⟩ := hvy15
            have hwvy15 := is_w kbw_13 (by decide) hvy15
            clear hvy15
            have hrvy15 : 0 ≤ vy15 ∧ vy15 ≤ 1 := by omega
            refine z_if_eq (tgt := 117) C dX7_readClause_100 (by decide) (by omega) (fun hby16 => ?_) (fun hby16 => ?_)
            · refine z_aload_n C 0 dX7_readClause_117 rfl ?_
              refine z_iconst (z := 1) C dX7_readClause_118 rfl ?_
              refine z_aload_n C 0 dX7_readClause_119 rfl ?_
              refine z_get (v := .int (zI ((f : Int)))) C (lt_K hN (rfl : Nat.blt (2) 952 = true)) hay1 hg2 rfl inA_X7 5 (by decide) q_49 rfl rfl dX7_readClause_120 ?_
              refine z_cV (As := [.int (zI (1)), .int (zI ((f : Int)))]) (rest := []) (ci := 9) C (c_xFail l D A cs tt N ad _ (by omega) _ _ _ _ _ _ _ hg2 (1) ((f : Int))) (lt_K hN (rfl : Nat.blt (2) 952 = true)) hay1 hg2 rfl rfl mv_yX7_fail q_809 hd_yX7_fail (by decide) (Nat.le_of_ble_eq_true rfl) (by decide) dX7_readClause_123 rfl (kV0 fun gvy17 hvy17 => ?_)
              obtain ⟨hkvy17, hfvy17⟩ := hvy17
              have hwcy18 : ¬ tk_w T n f = 0 := by omega
              have hwcy19 : ¬ tk_w T n f = 1 := by omega
              have hwcy20 : ¬ tk_w T n f = 2 := by omega
              have hwcy21 : ¬ tk_w T n f = 6 := by omega
              have hwcy22 : ¬ tk_w T n f = 7 := by omega
              have hwcy23 : ¬ tk_w T n f = 8 := by omega
              have hgy24 := (hfvy17 (1) (by decide)).trans hg1
              have hX9 : xSt cs ad gvy17 (sl, ho, wt 1, mn, st, op, ai, fa, mu, tb, B, Lz) := ⟨hP.mv (fun _ _ _ => rfl) (fun j a b => by rw [hfvy17 _ (by omega)]), hsl, hho, hmn, wt, hwt0, rfl, hW.mv (fun _ _ _ => rfl) (fun j a b => by rw [hfvy17 _ (by omega)])⟩
              exact z_vret C hr hlk dX7_readClause_126 (by decide) (by decide) ⟨rfl, rfl, rfl, Or.inr ⟨(1, f), by simp only [ps_step, if_neg hwcy18, if_neg hwcy19, if_neg hwcy20, if_neg hwcy21, if_neg hwcy22, if_neg hwcy23]; first | done | rfl, ⟨by show (1 : Int) ≤ 1 ∧ (1 : Int) ≤ 5; decide, _, _, _, _, _, _, by omega, by omega, hkvy17, hgy24⟩, hX9⟩, fun j j1 j2 => by rw [hfvy17 _ (by omega)]⟩
            · refine z_aload_n C 0 dX7_readClause_103 rfl ?_
              refine z_aload_n C 1 dX7_readClause_104 rfl ?_
              refine z_bipush (z := 10) C dX7_readClause_105 (by decide) ?_
              refine z_iconst (z := 1) C dX7_readClause_107 rfl ?_
              refine z_sipush (z := 9999) C dX7_readClause_108 (by decide) ?_
              have hwcy26 : ¬ tk_w T n f = 0 := by omega
              have hwcy27 : ¬ tk_w T n f = 1 := by omega
              have hwcy28 : ¬ tk_w T n f = 2 := by omega
              have hwcy29 : ¬ tk_w T n f = 6 := by omega
              have hwcy30 : ¬ tk_w T n f = 7 := by omega
              have hwcy31 : tk_w T n f = 8 := by omega
              refine z_cV (As := [.ref (ad 883), .int (zI (10)), .int (zI (1)), .int (zI (9999))]) (rest := []) (ci := 9) C (c_xTable l D A cs tt N ad _ (by omega) _ _ _ tp T hT n hn f (by omega) hg2 hg1 _ _ _ _ _ _ _ _ _ hP hsl hho B hB (10) (by decide) (1) (9999) (by decide)) (lt_K hN (rfl : Nat.blt (2) 952 = true)) hay1 hg2 rfl rfl mv_yX7_readTable q_856 hd_yX7_readTable (by decide) (Nat.le_of_ble_eq_true rfl) (by decide) dX7_readClause_111 rfl (kV0 fun gvy25 hvy25 => ?_)
              obtain ⟨hvy25, hfvy25⟩ := hvy25
              rcases hvy25 with hvy25 | hvy25
              · obtain ⟨vvy25, hvvy25, hbvy25, ⟨tkvy25, tdvy25, hkvy25, htvy25⟩, hpvy25⟩ := hvy25
                refine z_goto (tgt := 126) C dX7_readClause_114 (by decide) ?_
                exact z_vret C hr hlk dX7_readClause_126 (by decide) (by decide) ⟨rfl, rfl, rfl, Or.inl ⟨((sl, ho, wt 1, mn, st, op, ai, fa, mu, uZ tb vvy25.1.1.toNat vvy25.1.2, uZ B vvy25.1.1.toNat 1, Lz), vvy25.2), by simp only [ps_step, if_neg hwcy26, if_neg hwcy27, if_neg hwcy28, if_neg hwcy29, if_neg hwcy30, if_pos hwcy31, hvvy25]; first | done | rfl, hbvy25, ⟨tkvy25, tdvy25, hkvy25, htvy25⟩, ⟨hpvy25, hsl, hho, hmn, wt, hwt0, rfl, hW.mv (fun _ _ _ => rfl) (fun j a b => hfvy25 j (by omega) (by omega))⟩⟩, fun j j1 j2 => hfvy25 j (by omega) (by omega)⟩
              · obtain ⟨evy25, hvvy25, hxvy25, hpvy25⟩ := hvy25
                refine z_goto (tgt := 126) C dX7_readClause_114 (by decide) ?_
                exact z_vret C hr hlk dX7_readClause_126 (by decide) (by decide) ⟨rfl, rfl, rfl, Or.inr ⟨evy25, by simp only [ps_step, if_neg hwcy26, if_neg hwcy27, if_neg hwcy28, if_neg hwcy29, if_neg hwcy30, if_pos hwcy31, hvvy25]; first | done | rfl, hxvy25, ⟨hpvy25, hsl, hho, hmn, wt, hwt0, rfl, hW.mv (fun _ _ _ => rfl) (fun j a b => hfvy25 j (by omega) (by omega))⟩⟩, fun j j1 j2 => hfvy25 j (by omega) (by omega)⟩
          · refine z_aload_n C 0 dX7_readClause_82 rfl ?_
            refine z_aload_n C 1 dX7_readClause_83 rfl ?_
            refine z_iconst (z := 5) C dX7_readClause_84 rfl ?_
            refine z_iconst (z := 0) C dX7_readClause_85 rfl ?_
            refine z_bipush (z := 99) C dX7_readClause_86 (by decide) ?_
            have hwcy33 : ¬ tk_w T n f = 0 := by omega
            have hwcy34 : ¬ tk_w T n f = 1 := by omega
            have hwcy35 : ¬ tk_w T n f = 2 := by omega
            have hwcy36 : ¬ tk_w T n f = 6 := by omega
            have hwcy37 : tk_w T n f = 7 := by omega
            refine z_cV (As := [.ref (ad 883), .int (zI (5)), .int (zI (0)), .int (zI (99))]) (rest := []) (ci := 9) C (c_xTable l D A cs tt N ad _ (by omega) _ _ _ tp T hT n hn f (by omega) hg2 hg1 _ _ _ _ _ _ _ _ _ hP hsl hho B hB (5) (by decide) (0) (99) (by decide)) (lt_K hN (rfl : Nat.blt (2) 952 = true)) hay1 hg2 rfl rfl mv_yX7_readTable q_856 hd_yX7_readTable (by decide) (Nat.le_of_ble_eq_true rfl) (by decide) dX7_readClause_88 rfl (kV0 fun gvy32 hvy32 => ?_)
            obtain ⟨hvy32, hfvy32⟩ := hvy32
            rcases hvy32 with hvy32 | hvy32
            · obtain ⟨vvy32, hvvy32, hbvy32, ⟨tkvy32, tdvy32, hkvy32, htvy32⟩, hpvy32⟩ := hvy32
              refine z_goto (tgt := 126) C dX7_readClause_91 (by decide) ?_
              exact z_vret C hr hlk dX7_readClause_126 (by decide) (by decide) ⟨rfl, rfl, rfl, Or.inl ⟨((sl, ho, wt 1, mn, st, op, ai, fa, mu, uZ tb vvy32.1.1.toNat vvy32.1.2, uZ B vvy32.1.1.toNat 1, Lz), vvy32.2), by simp only [ps_step, if_neg hwcy33, if_neg hwcy34, if_neg hwcy35, if_neg hwcy36, if_pos hwcy37, hvvy32]; first | done | rfl, hbvy32, ⟨tkvy32, tdvy32, hkvy32, htvy32⟩, ⟨hpvy32, hsl, hho, hmn, wt, hwt0, rfl, hW.mv (fun _ _ _ => rfl) (fun j a b => hfvy32 j (by omega) (by omega))⟩⟩, fun j j1 j2 => hfvy32 j (by omega) (by omega)⟩
            · obtain ⟨evy32, hvvy32, hxvy32, hpvy32⟩ := hvy32
              refine z_goto (tgt := 126) C dX7_readClause_91 (by decide) ?_
              exact z_vret C hr hlk dX7_readClause_126 (by decide) (by decide) ⟨rfl, rfl, rfl, Or.inr ⟨evy32, by simp only [ps_step, if_neg hwcy33, if_neg hwcy34, if_neg hwcy35, if_neg hwcy36, if_pos hwcy37, hvvy32]; first | done | rfl, hxvy32, ⟨hpvy32, hsl, hho, hmn, wt, hwt0, rfl, hW.mv (fun _ _ _ => rfl) (fun j a b => hfvy32 j (by omega) (by omega))⟩⟩, fun j j1 j2 => hfvy32 j (by omega) (by omega)⟩
        · refine z_aload_n C 0 dX7_readClause_61 rfl ?_
          refine z_aload_n C 1 dX7_readClause_62 rfl ?_
          refine z_iconst (z := 0) C dX7_readClause_63 rfl ?_
          refine z_iconst (z := 0) C dX7_readClause_64 rfl ?_
          refine z_bipush (z := 99) C dX7_readClause_65 (by decide) ?_
          have hwcy39 : ¬ tk_w T n f = 0 := by omega
          have hwcy40 : ¬ tk_w T n f = 1 := by omega
          have hwcy41 : ¬ tk_w T n f = 2 := by omega
          have hwcy42 : tk_w T n f = 6 := by omega
          refine z_cV (As := [.ref (ad 883), .int (zI (0)), .int (zI (0)), .int (zI (99))]) (rest := []) (ci := 9) C (c_xTable l D A cs tt N ad _ (by omega) _ _ _ tp T hT n hn f (by omega) hg2 hg1 _ _ _ _ _ _ _ _ _ hP hsl hho B hB (0) (by decide) (0) (99) (by decide)) (lt_K hN (rfl : Nat.blt (2) 952 = true)) hay1 hg2 rfl rfl mv_yX7_readTable q_856 hd_yX7_readTable (by decide) (Nat.le_of_ble_eq_true rfl) (by decide) dX7_readClause_67 rfl (kV0 fun gvy38 hvy38 => ?_)
          obtain ⟨hvy38, hfvy38⟩ := hvy38
          rcases hvy38 with hvy38 | hvy38
          · obtain ⟨vvy38, hvvy38, hbvy38, ⟨tkvy38, tdvy38, hkvy38, htvy38⟩, hpvy38⟩ := hvy38
            refine z_goto (tgt := 126) C dX7_readClause_70 (by decide) ?_
            exact z_vret C hr hlk dX7_readClause_126 (by decide) (by decide) ⟨rfl, rfl, rfl, Or.inl ⟨((sl, ho, wt 1, mn, st, op, ai, fa, mu, uZ tb vvy38.1.1.toNat vvy38.1.2, uZ B vvy38.1.1.toNat 1, Lz), vvy38.2), by simp only [ps_step, if_neg hwcy39, if_neg hwcy40, if_neg hwcy41, if_pos hwcy42, hvvy38]; first | done | rfl, hbvy38, ⟨tkvy38, tdvy38, hkvy38, htvy38⟩, ⟨hpvy38, hsl, hho, hmn, wt, hwt0, rfl, hW.mv (fun _ _ _ => rfl) (fun j a b => hfvy38 j (by omega) (by omega))⟩⟩, fun j j1 j2 => hfvy38 j (by omega) (by omega)⟩
          · obtain ⟨evy38, hvvy38, hxvy38, hpvy38⟩ := hvy38
            refine z_goto (tgt := 126) C dX7_readClause_70 (by decide) ?_
            exact z_vret C hr hlk dX7_readClause_126 (by decide) (by decide) ⟨rfl, rfl, rfl, Or.inr ⟨evy38, by simp only [ps_step, if_neg hwcy39, if_neg hwcy40, if_neg hwcy41, if_pos hwcy42, hvvy38]; first | done | rfl, hxvy38, ⟨hpvy38, hsl, hho, hmn, wt, hwt0, rfl, hW.mv (fun _ _ _ => rfl) (fun j a b => hfvy38 j (by omega) (by omega))⟩⟩, fun j j1 j2 => hfvy38 j (by omega) (by omega)⟩
      · refine z_aload_n C 0 dX7_readClause_44 rfl ?_
        refine z_aload_n C 1 dX7_readClause_45 rfl ?_
        have hwcy44 : ¬ tk_w T n f = 0 := by omega
        have hwcy45 : ¬ tk_w T n f = 1 := by omega
        have hwcy46 : tk_w T n f = 2 := by omega
        refine z_cV (As := [.ref (ad 883)]) (rest := []) (ci := 9) C (c_xHour l D A cs tt N ad _ (by omega) _ _ _ tp T hT n hn f (by omega) hg2 hg1 _ _ _ _ _ _ _ _ _ hP hsl hho) (lt_K hN (rfl : Nat.blt (2) 952 = true)) hay1 hg2 rfl rfl mv_yX7_readHour q_844 hd_yX7_readHour (by decide) (Nat.le_of_ble_eq_true rfl) (by decide) dX7_readClause_46 rfl (kV0 fun gvy43 hvy43 => ?_)
        obtain ⟨hvy43, hfvy43⟩ := hvy43
        rcases hvy43 with hvy43 | hvy43
        · obtain ⟨vvy43, hvvy43, hbvy43, ⟨tkvy43, hkvy43⟩, hpvy43⟩ := hvy43
          have hqvy43 : ho < 24 := by
            by_cases e9 : 24 ≤ ho
            · exfalso; simp only [cl_fin, cl_hour, if_pos e9] at hvvy43; cases hvvy43
            · omega
          refine z_goto (tgt := 126) C dX7_readClause_49 (by decide) ?_
          exact z_vret C hr hlk dX7_readClause_126 (by decide) (by decide) ⟨rfl, rfl, rfl, Or.inl ⟨((sl, ho + 1, wt 1, mn, st, op, uZ ai (ho).toNat vvy43.1.1, uZ fa (ho).toNat vvy43.1.2.1, uZ mu (ho).toNat vvy43.1.2.2, tb, B, Lz), vvy43.2), by simp only [ps_step, if_neg hwcy44, if_neg hwcy45, if_pos hwcy46, hvvy43]; first | done | rfl, hbvy43, ⟨tkvy43, td, hkvy43, hB⟩, ⟨hpvy43, hsl, by show 0 ≤ ho + 1 ∧ ho + 1 ≤ 24; omega, hmn, wt, hwt0, rfl, hW.mv (fun _ _ _ => rfl) (fun j a b => hfvy43 j (by omega) (by omega))⟩⟩, fun j j1 j2 => hfvy43 j (by omega) (by omega)⟩
        · obtain ⟨evy43, hvvy43, hxvy43, hpvy43⟩ := hvy43
          refine z_goto (tgt := 126) C dX7_readClause_49 (by decide) ?_
          exact z_vret C hr hlk dX7_readClause_126 (by decide) (by decide) ⟨rfl, rfl, rfl, Or.inr ⟨evy43, by simp only [ps_step, if_neg hwcy44, if_neg hwcy45, if_pos hwcy46, hvvy43]; first | done | rfl, hxvy43, ⟨hpvy43, hsl, hho, hmn, wt, hwt0, rfl, hW.mv (fun _ _ _ => rfl) (fun j a b => hfvy43 j (by omega) (by omega))⟩⟩, fun j j1 j2 => hfvy43 j (by omega) (by omega)⟩
    · refine z_aload_n C 0 dX7_readClause_26 rfl ?_
      refine z_aload_n C 1 dX7_readClause_27 rfl ?_
      refine z_aload_n C 2 dX7_readClause_28 rfl ?_
      have hwcy48 : ¬ tk_w T n f = 0 := by omega
      have hwcy49 : tk_w T n f = 1 := by omega
      refine z_cV (As := [.ref (ad 883), .ref (ad 890)]) (rest := []) (ci := 9) C (c_xLayer l D A cs tt N ad _ (by omega) _ _ _ tp T hT n hn f (by omega) hg2 hg1 _ _ _ _ _ _ _ _ _ hP hsl hho _ _ _ _ hW hmn) (lt_K hN (rfl : Nat.blt (2) 952 = true)) hay1 hg2 rfl rfl mv_yX7_readLayer q_826 hd_yX7_readLayer (by decide) (Nat.le_of_ble_eq_true rfl) (by decide) dX7_readClause_29 rfl (kV0 fun gvy47 hvy47 => ?_)
      obtain ⟨hvy47, hfvy47⟩ := hvy47
      rcases hvy47 with hvy47 | hvy47
      · obtain ⟨vvy47, hvvy47, hbvy47, ⟨tkvy47, hkvy47⟩, hpvy47, hrvy47, hwvy47⟩ := hvy47
        have hqvy47 := hmn vvy47.1.1.toNat (by omega)
        have hmn9 : ∀ k, k < 4 → 0 ≤ uZ mn vvy47.1.1.toNat (mn vvy47.1.1.toNat + 1) k ∧ uZ mn vvy47.1.1.toNat (mn vvy47.1.1.toNat + 1) k ≤ 12 := uZ_r hmn (by omega)
        refine z_goto (tgt := 126) C dX7_readClause_32 (by decide) ?_
        exact z_vret C hr hlk dX7_readClause_126 (by decide) (by decide) ⟨rfl, rfl, rfl, Or.inl ⟨((sl, ho, wt 1 + 1, uZ mn vvy47.1.1.toNat (mn vvy47.1.1.toNat + 1), st, op, ai, fa, mu, tb, B, (fun j => if j = vvy47.1.1.toNat then la_ (Lz vvy47.1.1.toNat) (mn vvy47.1.1.toNat) vvy47.1.2.1 vvy47.1.2.2.1 vvy47.1.2.2.2.1 vvy47.1.2.2.2.2.1 vvy47.1.2.2.2.2.2 (wt 1) else Lz j)), vvy47.2), by simp only [ps_step, if_neg hwcy48, if_pos hwcy49, hvvy47]; first | done | rfl, hbvy47, ⟨tkvy47, td, hkvy47, hB⟩, ⟨hpvy47, hsl, hho, hmn9, uZ wt 1 (wt 1 + 1), fun k a b => (uZ_n _ _ b).trans (hwt0 k a b), uZ_s _ _ _, isWorld.o0 hwvy47⟩⟩, fun j j1 j2 => hfvy47 j (by omega) (by omega)⟩
      · obtain ⟨evy47, hvvy47, hxvy47, hpvy47, hwvy47⟩ := hvy47
        refine z_goto (tgt := 126) C dX7_readClause_32 (by decide) ?_
        exact z_vret C hr hlk dX7_readClause_126 (by decide) (by decide) ⟨rfl, rfl, rfl, Or.inr ⟨evy47, by simp only [ps_step, if_neg hwcy48, if_pos hwcy49, hvvy47]; first | done | rfl, hxvy47, ⟨hpvy47, hsl, hho, hmn, wt, hwt0, rfl, hwvy47⟩⟩, fun j j1 j2 => hfvy47 j (by omega) (by omega)⟩
  · refine z_aload_n C 0 dX7_readClause_9 rfl ?_
    refine z_aload_n C 1 dX7_readClause_10 rfl ?_
    have hwcy51 : tk_w T n f = 0 := by omega
    refine z_cV (As := [.ref (ad 883)]) (rest := []) (ci := 9) C (c_xSlope l D A cs tt N ad _ (by omega) _ _ _ tp T hT n hn f (by omega) hg2 hg1 _ _ _ _ _ _ _ _ _ hP hsl hho) (lt_K hN (rfl : Nat.blt (2) 952 = true)) hay1 hg2 rfl rfl mv_yX7_readSlope q_805 hd_yX7_readSlope (by decide) (Nat.le_of_ble_eq_true rfl) (by decide) dX7_readClause_11 rfl (kV0 fun gvy50 hvy50 => ?_)
    obtain ⟨hvy50, hfvy50⟩ := hvy50
    rcases hvy50 with hvy50 | hvy50
    · obtain ⟨vvy50, hvvy50, hbvy50, ⟨tkvy50, hkvy50⟩, hpvy50⟩ := hvy50
      have hqvy50 : sl < 4 := by
        by_cases e9 : 4 ≤ sl
        · exfalso; simp only [cl_fin, cl_slope, if_pos e9] at hvvy50; cases hvvy50
        · omega
      refine z_goto (tgt := 126) C dX7_readClause_14 (by decide) ?_
      exact z_vret C hr hlk dX7_readClause_126 (by decide) (by decide) ⟨rfl, rfl, rfl, Or.inl ⟨((sl + 1, ho, wt 1, mn, uZ st (sl).toNat vvy50.1.1, uZ op (sl).toNat vvy50.1.2, ai, fa, mu, tb, B, Lz), vvy50.2), by simp only [ps_step, if_pos hwcy51, hvvy50]; first | done | rfl, hbvy50, ⟨tkvy50, td, hkvy50, hB⟩, ⟨hpvy50, by show 0 ≤ sl + 1 ∧ sl + 1 ≤ 4; omega, hho, hmn, wt, hwt0, rfl, hW.mv (fun _ _ _ => rfl) (fun j a b => hfvy50 j (by omega) (by omega))⟩⟩, fun j j1 j2 => hfvy50 j (by omega) (by omega)⟩
    · obtain ⟨evy50, hvvy50, hxvy50, hpvy50⟩ := hvy50
      refine z_goto (tgt := 126) C dX7_readClause_14 (by decide) ?_
      exact z_vret C hr hlk dX7_readClause_126 (by decide) (by decide) ⟨rfl, rfl, rfl, Or.inr ⟨evy50, by simp only [ps_step, if_pos hwcy51, hvvy50]; first | done | rfl, hxvy50, ⟨hpvy50, hsl, hho, hmn, wt, hwt0, rfl, hW.mv (fun _ _ _ => rfl) (fun j a b => hfvy50 j (by omega) (by omega))⟩⟩, fun j j1 j2 => hfvy50 j (by omega) (by omega)⟩
end
