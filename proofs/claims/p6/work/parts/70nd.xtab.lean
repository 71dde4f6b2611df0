theorem sh31 : ∀ k : Fin 32, (zI (k.val : Int) &&& 31).toBitVec.smod 32 = BitVec.ofNat 32 k.val := by decide
theorem one_sh : ∀ s k : Fin 15, (zI 1 <<< (zI (s.val : Int) &&& 31)).toBitVec.getLsbD k.val = decide (k = s) := by decide
theorem bit_of (a : Int32) {k : Nat} (hk : k < 15) : a >>> (zI (k : Int) &&& 31) &&& zI 1 = zI (if a.toBitVec.getLsbD k = true then 1 else 0) := by
  have e := sh31 ⟨k, by omega⟩
  have h1 : (a >>> (zI (k : Int) &&& 31) &&& zI 1).toBitVec = BitVec.setWidth 32 (BitVec.ofBool (a.toBitVec.getLsbD k)) := by
    rw [Int32.toBitVec_and, Int32.toBitVec_shiftRight, e]
    apply BitVec.eq_of_getLsbD_eq
    intro i hi
    rw [show (zI 1).toBitVec = 1#32 from rfl]
    simp [BitVec.sshiftRight', BitVec.getLsbD_sshiftRight]
    by_cases h0 : i = 0
    · subst h0
      simp [Nat.mod_eq_of_lt (show k < 4294967296 by omega)]
      omega
    · simp [h0]
  rw [← Int32.toBitVec_inj, h1]
  cases a.toBitVec.getLsbD k <;> rfl
/-- the places of the table that are told, as bits -/
def xTd (td : Int) (B : Nat → Int) : Prop := ∀ k : Nat, k < 15 → (B k = 0 ∨ B k = 1) ∧ zI td >>> (zI (k : Int) &&& 31) &&& zI 1 = zI (B k)
theorem xTd.bit {td : Int} {B : Nat → Int} (h : xTd td B) {s : Nat} (hs : s < 15) {z x1 x2 : Int} (hz : z = (s : Int)) (e1 : zI td >>> (zI z &&& 31) = zI x1) (e2 : zI x1 &&& zI 1 = zI x2) (hx : 0 ≤ x2 ∧ x2 ≤ 1) : x2 = B s := by
  subst hz
  have h2 := h s hs
  have h3 := h2.2
  rw [e1, e2] at h3
  exact (zI_eq (by omega) (by omega)).mp h3
theorem xTd.set {td : Int} {B : Nat → Int} (h : xTd td B) {s : Nat} (hs : s < 15) {z y1 y2 : Int} (hz : z = (s : Int)) (e1 : zI 1 <<< (zI z &&& 31) = zI y1) (e2 : zI td ||| zI y1 = zI y2) : xTd y2 (uZ B s 1) := by
  subst hz
  intro k hk
  have h2 := h k hk
  have h4 := one_sh ⟨s, hs⟩ ⟨k, hk⟩
  rw [bit_of (zI td) hk] at h2
  rw [bit_of (zI y2) hk, ← e2, Int32.toBitVec_or, BitVec.getLsbD_or, ← e1]
  by_cases e : k = s
  · subst e
    rw [uZ_s, h4]
    refine ⟨Or.inr rfl, ?_⟩
    simp
  · rw [uZ_n _ _ e, h4, show decide ((⟨k, hk⟩ : Fin 15) = ⟨s, hs⟩) = false from decide_eq_false (fun e9 => e (Fin.mk.inj e9)), Bool.or_false]
    exact h2

set_option maxRecDepth 100000 in
set_option maxHeartbeats 4000000 in
theorem c_xTable (l : Launch) (D : va_G) (A : Nat → Prop) (cs : Nat → ClassId) (tt : Nat) (N : Nat) (ad : Nat → Nat) (g : Nat → va_E) (hN : 952 ≤ N) (pl tk td : Int) (tp T : Nat → Int) (hT : xT tp T) (n : Nat) (hn : n ≤ 900) (f : Nat) (hf : f ≤ n) (hg2 : g 2 = rdC ad (pl) (0) ((n : Int)) (tk_so T n f) ((f : Int)) (((tk_to T n f : Nat) : Int)) (tk) (td)) (hg1 : g 1 = bA cs 900 tp) (sl ho ua : Int) (st op ai fa mu tb : Nat → Int) (hP : isPlan cs ad g 883 sl ho ua st op ai fa mu tb) (hsl : 0 ≤ sl ∧ sl ≤ 4) (hho : 0 ≤ ho ∧ ho ≤ 24) (B : Nat → Int) (hB : xTd td B) (z : Int) (hz : 0 ≤ z ∧ z ≤ 10) (z1 z2 : Int) (hz1 : 0 ≤ z1 ∧ z1 ≤ z2 ∧ z2 ≤ 9999) : zM l yX7_readTable cX7_readTable 7 none ({ frames := 7, cells := 0, slots := 0, locals := 420 } : Room) D A cs tt N ad g [.ref (ad 2), .ref (ad 883), .int (zI (z)), .int (zI (z1)), .int (zI (z2))] (rV0 N ad fun g' => ((∃ v, cl_fin T n (cl_table T n B z z1 z2 f) = .ok v ∧ ((f < n → f < v.2) ∧ v.2 ≤ n) ∧ (∃ tk' td' : Int, g' 2 = rdC ad (pl) (0) ((n : Int)) (tk_so T n v.2) ((v.2 : Int)) (((tk_to T n v.2 : Nat) : Int)) (tk') (td') ∧ xTd td' (uZ B (v.1.1).toNat 1)) ∧ isPlan cs ad g' 883 sl ho ua st op ai fa mu (uZ tb (v.1.1).toNat v.1.2)) ∨ (∃ e : Int × Nat, cl_fin T n (cl_table T n B z z1 z2 f) = .error e ∧ xFl cs ad g' e.1 (e.2 : Int) tp ∧ isPlan cs ad g' 883 sl ho ua st op ai fa mu tb)) ∧ ∀ j, j ≠ 2 → (j < 883 ∨ 890 ≤ j) → g' j = g j) := by
  have hay1 : zAt ad (2) (ad 2) := rfl
  have hay2 : zAt ad (1) (ad 1) := rfl
  have hTr : ∀ k, k < 900 → -128 ≤ tp k ∧ tp k ≤ 127 := fun k hk => (hT k hk).2.1
  have hsb := tk_so_b T n f
  have htb := tk_to_b (T := T) hf
  have hay3 : zAt ad (883) (ad 883) := rfl
  have hay4 : zAt ad (883 + 1) (ad (883 + 1)) := rfl
  have hay5 : zAt ad (883 + 2) (ad (883 + 2)) := rfl
  have hay6 : zAt ad (883 + 3) (ad (883 + 3)) := rfl
  have hay7 : zAt ad (883 + 4) (ad (883 + 4)) := rfl
  have hay8 : zAt ad (883 + 5) (ad (883 + 5)) := rfl
  have hay9 : zAt ad (883 + 6) (ad (883 + 6)) := rfl
  refine z_of (by decide) (Nat.le_of_ble_eq_true rfl) ?_
  intro p e s m below meth c C hr hlk hnm
  refine z_lv (lv' := [(0, .ref (ad 2)), (1, .ref (ad 883)), (2, .int (zI (z))), (3, .int (zI (z1))), (4, .int (zI (z2)))]) [0, 1, 2, 3, 4] rfl ?_
  refine z_aload_n C 0 dX7_readTable_0 rfl ?_
  refine z_cV (As := []) (rest := []) (ci := 9) C (c_xTake l D A cs tt N ad _ (by omega) _ _ _ tp T hT n hn f (by omega) hg2 hg1) (lt_K hN (rfl : Nat.blt (2) 952 = true)) hay1 hg2 rfl rfl mv_yX7_take q_813 hd_yX7_take (by decide) (Nat.le_of_ble_eq_true rfl) (by decide) dX7_readTable_1 rfl (kV0 fun gvy10 hvy10 => ?_)
  obtain ⟨hkvy10, hfvy10⟩ := hvy10
  have hnby11 := tk_nx_b (T := T) (n := n) (f := f) (by omega)
  have hsby12 := tk_so_b T n (tk_nx T n f)
  have htby13 := tk_to_b (T := T) (n := n) (f := (tk_nx T n f)) (by omega)
  refine z_iload_n C 2 dX7_readTable_4 rfl ?_
  refine z_aload_n C 0 dX7_readTable_5 rfl ?_
  have hgy14 := (hfvy10 (1) (by decide)).trans hg1
  refine z_cV (As := []) (rest := [.int (zI (z))]) (ci := 9) C (c_xKind l D A cs tt N ad _ (by omega) _ _ _ tp T hT n hn (tk_nx T n f) (by omega) hkvy10 hgy14) (lt_K hN (rfl : Nat.blt (2) 952 = true)) hay1 hkvy10 rfl rfl mv_yX7_kind q_830 hd_yX7_kind (by decide) (Nat.le_of_ble_eq_true rfl) (by decide) dX7_readTable_6 rfl (kI0 fun vy15 gvy15 hvy15 => ?_)
  obtain ⟨hvy15, hfvy15⟩ := hvy15
  rcases hvy15 with hvy15 | hvy15
  · obtain ⟨hnvy15, hrvy15, hkvy15⟩ := hvy15
    have hnby16 := tk_nx_b (T := T) (n := n) (f := (tk_nx T n f)) (by omega)
    have hsby17 := tk_so_b T n (tk_nx T n (tk_nx T n f))
    have htby18 := tk_to_b (T := T) (n := n) (f := (tk_nx T n (tk_nx T n f))) (by omega)
    subst hnvy15
    have hnevy15 : ¬ tk_kd T n (tk_nx T n f) = -1 := by omega
    refine z_iadd C dX7_readTable_9 ?_
    refine z_istore (lv' := [(5, .int (zI (z + (tk_kd T n (tk_nx T n f))))), (0, .ref (ad 2)), (1, .ref (ad 883)), (2, .int (zI (z))), (3, .int (zI (z1))), (4, .int (zI (z2)))]) C dX7_readTable_10 (by decide) rfl ?_
    refine z_aload_n C 1 dX7_readTable_12 rfl ?_
    refine z_get (v := .int (zI (td))) C (lt_K hN (rfl : Nat.blt (2) 952 = true)) hay1 hkvy15 rfl inA_X7 8 (by decide) q_52 rfl rfl dX7_readTable_13 ?_
    refine z_iload C 0 dX7_readTable_16 rfl ?_
    obtain ⟨xs9, exs9, hxs9⟩ := zI_of (zI (td) >>> (zI (z + (tk_kd T n (tk_nx T n f))) &&& 31))
    refine z_ishr (z := xs9) C dX7_readTable_18 exs9 ?_
    refine z_iconst (z := 1) C dX7_readTable_19 rfl ?_
    obtain ⟨xa9, exa9, hxa9⟩ := zI_and (zI xs9) (m := zI 1) 1 (by decide)
    refine z_iand (z := xa9) C dX7_readTable_20 exa9 ?_
    have hbit : xa9 = B (z + (tk_kd T n (tk_nx T n f))).toNat := xTd.bit hB (by omega) (by omega) exs9 exa9 (by omega)
    refine z_iconst (z := 1) C dX7_readTable_21 rfl ?_
    refine z_icmp_ne (tgt := 34) C dX7_readTable_22 (by decide) (by omega) (by omega) (fun hby19 => ?_) (fun hby19 => ?_)
    · have hscy20 : ¬ (B (z + (tk_kd T n (tk_nx T n f))).toNat = 1) := by omega
      refine z_aload_n C 1 dX7_readTable_34 rfl ?_
      refine z_iload_n C 4 dX7_readTable_35 rfl ?_
      refine z_iload C 5 dX7_readTable_36 rfl ?_
      have hgy21 := (hfvy15 (1) (by decide)).trans hgy14
      refine z_cV (As := [.int (zI (z1)), .int (zI (z2))]) (rest := []) (ci := 9) C (c_xNumber l D A cs tt N ad _ (by omega) _ _ _ tp T hT n hn (tk_nx T n (tk_nx T n f)) (by omega) hkvy15 hgy21 (z1) (z2) (by omega)) (lt_K hN (rfl : Nat.blt (2) 952 = true)) hay1 hkvy15 rfl rfl mv_yX7_number q_817 hd_yX7_number (by decide) (Nat.le_of_ble_eq_true rfl) (by decide) dX7_readTable_38 rfl (kI0 fun vy22 gvy22 hvy22 => ?_)
      obtain ⟨hvy22, hfvy22⟩ := hvy22
      rcases hvy22 with hvy22 | hvy22
      · obtain ⟨hnvy22, hrvy22, hkvy22⟩ := hvy22
        have hnby23 := tk_nx_b (T := T) (n := n) (f := (tk_nx T n (tk_nx T n f))) (by omega)
        have hsby24 := tk_so_b T n (tk_nx T n (tk_nx T n (tk_nx T n f)))
        have htby25 := tk_to_b (T := T) (n := n) (f := (tk_nx T n (tk_nx T n (tk_nx T n f)))) (by omega)
        refine z_istore (lv' := [(6, .int (zI (vy22))), (5, .int (zI (z + (tk_kd T n (tk_nx T n f))))), (0, .ref (ad 2)), (1, .ref (ad 883)), (2, .int (zI (z))), (3, .int (zI (z1))), (4, .int (zI (z2)))]) C dX7_readTable_41 (by decide) rfl ?_
        refine z_aload_n C 2 dX7_readTable_43 rfl ?_
        have hgy27 := (hfvy22 (1) (by decide)).trans hgy21
        refine z_cV (As := []) (rest := []) (ci := 9) C (c_xClose l D A cs tt N ad _ (by omega) _ _ _ tp T hT n hn (tk_nx T n (tk_nx T n (tk_nx T n f))) (by omega) hkvy22 hgy27) (lt_K hN (rfl : Nat.blt (2) 952 = true)) hay1 hkvy22 rfl rfl mv_yX7_close q_821 hd_yX7_close (by decide) (Nat.le_of_ble_eq_true rfl) (by decide) dX7_readTable_44 rfl (kV0 fun gvy26 hvy26 => ?_)
        obtain ⟨hvy26, hfvy26⟩ := hvy26
        rcases hvy26 with hvy26 | hvy26
        · obtain ⟨hnvy26, hkvy26⟩ := hvy26
          have hnby28 := tk_nx_b (T := T) (n := n) (f := (tk_nx T n (tk_nx T n (tk_nx T n f)))) (by omega)
          have hsby29 := tk_so_b T n (tk_nx T n (tk_nx T n (tk_nx T n (tk_nx T n f))))
          have htby30 := tk_to_b (T := T) (n := n) (f := (tk_nx T n (tk_nx T n (tk_nx T n (tk_nx T n f))))) (by omega)
          refine z_aload_n C 2 dX7_readTable_47 rfl ?_
          refine z_get (v := .int (zI (0))) C (lt_K hN (rfl : Nat.blt (2) 952 = true)) hay1 hkvy26 rfl inA_X7 1 (by decide) q_45 rfl rfl dX7_readTable_48 ?_
          refine z_if_ne (tgt := 76) C dX7_readTable_51 (by decide) (by omega) (fun h => absurd h (by omega)) (fun _ => ?_)
          refine z_aload_n C 2 dX7_readTable_54 rfl ?_
          refine z_dup C dX7_readTable_55 rfl ?_
          refine z_get (v := .int (zI (td))) C (lt_K hN (rfl : Nat.blt (2) 952 = true)) hay1 hkvy26 rfl inA_X7 8 (by decide) q_52 rfl rfl dX7_readTable_56 ?_
          refine z_iconst (z := 1) C dX7_readTable_59 rfl ?_
          refine z_iload C 1 dX7_readTable_60 rfl ?_
          obtain ⟨ys9, eys9, hys9⟩ := zI_of (zI (1) <<< (zI (z + (tk_kd T n (tk_nx T n f))) &&& 31))
          refine z_ishl (z := ys9) C dX7_readTable_62 eys9 ?_
          obtain ⟨yo9, eyo9, hyo9⟩ := zI_of (zI (td) ||| zI (ys9))
          refine z_ior (z := yo9) C dX7_readTable_63 eyo9 ?_
          refine z_put (fs' := [.int (zI (pl)), .int (zI (0)), .ref (ad 1), .int (zI ((n : Int))), .int (zI (tk_so T n (tk_nx T n (tk_nx T n (tk_nx T n (tk_nx T n f)))))), .int (zI (((tk_nx T n (tk_nx T n (tk_nx T n (tk_nx T n f)))) : Int))), .int (zI (((tk_to T n (tk_nx T n (tk_nx T n (tk_nx T n (tk_nx T n f)))) : Nat) : Int))), .int (zI (((tk_nx T n (tk_nx T n (tk_nx T n f))) : Int))), .int (zI (yo9))]) C (lt_K hN (rfl : Nat.blt (2) 952 = true)) hay1 hkvy26 tyX7 tyX7_ok nmX7 rfl inA_X7 8 (by decide) q_52 rfl rfl rfl rfl (Nat.le_of_ble_eq_true rfl) rfl dX7_readTable_64 (fun gy31 egy32 => ?_)
          have hgy33 := up_s egy32
          refine z_aload_n C 3 dX7_readTable_67 rfl ?_
          have hgy34 := (hfvy10 (883) (by decide)).trans hP.1
          have hgy35 := (hfvy15 (883) (by decide)).trans hgy34
          have hgy36 := (hfvy22 (883) (by decide)).trans hgy35
          have hgy37 := (hfvy26 (883) (by decide)).trans hgy36
          have hgy38 := up_n egy32 hgy37 (by decide)
          refine z_get (v := .ref (ad (883 + 6))) C (lt_K hN (rfl : Nat.blt (883) 952 = true)) hay3 hgy38 rfl inA_X5 8 (by decide) q_114 rfl rfl dX7_readTable_68 ?_
          refine z_iload C 1 dX7_readTable_71 rfl ?_
          refine z_iload C 0 dX7_readTable_73 rfl ?_
          have hgy39 := (hfvy10 (883 + 6) (by omega)).trans hP.2.2.2.2.2.2
          have hgy40 := (hfvy15 (883 + 6) (by omega)).trans hgy39
          have hgy41 := (hfvy22 (883 + 6) (by omega)).trans hgy40
          have hgy42 := (hfvy26 (883 + 6) (by omega)).trans hgy41
          have hgy43 := up_n egy32 hgy42 (by omega)
          refine z_iast C (lt_K hN (rfl : Nat.blt (883 + 6) 952 = true)) hay9 hgy43 ((z + (tk_kd T n (tk_nx T n f))).toNat) (by omega) (by omega) (by decide) dX7_readTable_75 (fun gy44 egy45 => ?_)
          have hgy46 := up_s egy45
          have hgy47 := up_n egy45 hgy33 (by omega)
          have hTd9 : xTd yo9 (uZ B (z + (tk_kd T n (tk_nx T n f))).toNat 1) := xTd.set hB (by omega) (by omega) eys9 eyo9
          have hgy48 := up_n egy45 hgy38 (ne_o (i := 883) (c := 0) (d := 6) rfl)
          have hgy49 := (hfvy10 (883 + 1) (by omega)).trans hP.2.1
          have hgy50 := (hfvy15 (883 + 1) (by omega)).trans hgy49
          have hgy51 := (hfvy22 (883 + 1) (by omega)).trans hgy50
          have hgy52 := (hfvy26 (883 + 1) (by omega)).trans hgy51
          have hgy53 := up_n egy32 hgy52 (by omega)
          have hgy54 := up_n egy45 hgy53 (ne_o (i := 883) (c := 1) (d := 6) rfl)
          have hgy55 := (hfvy10 (883 + 2) (by omega)).trans hP.2.2.1
          have hgy56 := (hfvy15 (883 + 2) (by omega)).trans hgy55
          have hgy57 := (hfvy22 (883 + 2) (by omega)).trans hgy56
          have hgy58 := (hfvy26 (883 + 2) (by omega)).trans hgy57
          have hgy59 := up_n egy32 hgy58 (by omega)
          have hgy60 := up_n egy45 hgy59 (ne_o (i := 883) (c := 2) (d := 6) rfl)
          have hgy61 := (hfvy10 (883 + 3) (by omega)).trans hP.2.2.2.1
          have hgy62 := (hfvy15 (883 + 3) (by omega)).trans hgy61
          have hgy63 := (hfvy22 (883 + 3) (by omega)).trans hgy62
          have hgy64 := (hfvy26 (883 + 3) (by omega)).trans hgy63
          have hgy65 := up_n egy32 hgy64 (by omega)
          have hgy66 := up_n egy45 hgy65 (ne_o (i := 883) (c := 3) (d := 6) rfl)
          have hgy67 := (hfvy10 (883 + 4) (by omega)).trans hP.2.2.2.2.1
          have hgy68 := (hfvy15 (883 + 4) (by omega)).trans hgy67
          have hgy69 := (hfvy22 (883 + 4) (by omega)).trans hgy68
          have hgy70 := (hfvy26 (883 + 4) (by omega)).trans hgy69
          have hgy71 := up_n egy32 hgy70 (by omega)
          have hgy72 := up_n egy45 hgy71 (ne_o (i := 883) (c := 4) (d := 6) rfl)
          have hgy73 := (hfvy10 (883 + 5) (by omega)).trans hP.2.2.2.2.2.1
          have hgy74 := (hfvy15 (883 + 5) (by omega)).trans hgy73
          have hgy75 := (hfvy22 (883 + 5) (by omega)).trans hgy74
          have hgy76 := (hfvy26 (883 + 5) (by omega)).trans hgy75
          have hgy77 := up_n egy32 hgy76 (by omega)
          have hgy78 := up_n egy45 hgy77 (ne_o (i := 883) (c := 5) (d := 6) rfl)
          exact z_vret C hr hlk dX7_readTable_76 (by decide) (by decide) ⟨rfl, rfl, rfl, Or.inl ⟨_, by simp only [cl_fin, cl_table, if_neg hnevy15, if_neg hscy20, hnvy22, if_pos hnvy26]; rfl, by show (f < n → f < (tk_nx T n (tk_nx T n (tk_nx T n (tk_nx T n f))))) ∧ (tk_nx T n (tk_nx T n (tk_nx T n (tk_nx T n f)))) ≤ n; omega, ⟨_, _, hgy47, hTd9⟩, ⟨hgy48, hgy54, hgy60, hgy66, hgy72, hgy78, hgy46⟩⟩, fun j j1 j2 => by rw [egy45, va_up_ne _ _ (by omega)]; rw [egy32, va_up_ne _ _ (by omega)]; rw [hfvy26 _ (by omega)]; rw [hfvy22 _ (by omega)]; rw [hfvy15 _ (by omega)]; rw [hfvy10 _ (by omega)]⟩
        · obtain ⟨hnvy26, hkvy26⟩ := hvy26
          refine z_aload_n C 2 dX7_readTable_47 rfl ?_
          refine z_get (v := .int (zI (1))) C (lt_K hN (rfl : Nat.blt (2) 952 = true)) hay1 hkvy26 rfl inA_X7 1 (by decide) q_45 rfl rfl dX7_readTable_48 ?_
          refine z_if_ne (tgt := 76) C dX7_readTable_51 (by decide) (by omega) (fun _ => ?_) (fun h => absurd h (by omega))
          have hgy79 := (hfvy26 (1) (by decide)).trans hgy27
          have hgy80 := (hfvy10 (883) (by decide)).trans hP.1
          have hgy81 := (hfvy15 (883) (by decide)).trans hgy80
          have hgy82 := (hfvy22 (883) (by decide)).trans hgy81
          have hgy83 := (hfvy26 (883) (by decide)).trans hgy82
          have hgy84 := (hfvy10 (883 + 1) (by omega)).trans hP.2.1
          have hgy85 := (hfvy15 (883 + 1) (by omega)).trans hgy84
          have hgy86 := (hfvy22 (883 + 1) (by omega)).trans hgy85
          have hgy87 := (hfvy26 (883 + 1) (by omega)).trans hgy86
          have hgy88 := (hfvy10 (883 + 2) (by omega)).trans hP.2.2.1
          have hgy89 := (hfvy15 (883 + 2) (by omega)).trans hgy88
          have hgy90 := (hfvy22 (883 + 2) (by omega)).trans hgy89
          have hgy91 := (hfvy26 (883 + 2) (by omega)).trans hgy90
          have hgy92 := (hfvy10 (883 + 3) (by omega)).trans hP.2.2.2.1
          have hgy93 := (hfvy15 (883 + 3) (by omega)).trans hgy92
          have hgy94 := (hfvy22 (883 + 3) (by omega)).trans hgy93
          have hgy95 := (hfvy26 (883 + 3) (by omega)).trans hgy94
          have hgy96 := (hfvy10 (883 + 4) (by omega)).trans hP.2.2.2.2.1
          have hgy97 := (hfvy15 (883 + 4) (by omega)).trans hgy96
          have hgy98 := (hfvy22 (883 + 4) (by omega)).trans hgy97
          have hgy99 := (hfvy26 (883 + 4) (by omega)).trans hgy98
          have hgy100 := (hfvy10 (883 + 5) (by omega)).trans hP.2.2.2.2.2.1
          have hgy101 := (hfvy15 (883 + 5) (by omega)).trans hgy100
          have hgy102 := (hfvy22 (883 + 5) (by omega)).trans hgy101
          have hgy103 := (hfvy26 (883 + 5) (by omega)).trans hgy102
          have hgy104 := (hfvy10 (883 + 6) (by omega)).trans hP.2.2.2.2.2.2
          have hgy105 := (hfvy15 (883 + 6) (by omega)).trans hgy104
          have hgy106 := (hfvy22 (883 + 6) (by omega)).trans hgy105
          have hgy107 := (hfvy26 (883 + 6) (by omega)).trans hgy106
          exact z_vret C hr hlk dX7_readTable_76 (by decide) (by decide) ⟨rfl, rfl, rfl, Or.inr ⟨(1, (tk_nx T n (tk_nx T n (tk_nx T n f)))), by simp only [cl_fin, cl_table, if_neg hnevy15, if_neg hscy20, hnvy22, if_neg hnvy26], ⟨by show 1 ≤ 1 ∧ 1 ≤ 5; omega, _, _, _, _, _, _, by omega, by omega, hkvy26, hgy79⟩, ⟨hgy83, hgy87, hgy91, hgy95, hgy99, hgy103, hgy107⟩⟩, fun j j1 j2 => by rw [hfvy26 _ (by omega)]; rw [hfvy22 _ (by omega)]; rw [hfvy15 _ (by omega)]; rw [hfvy10 _ (by omega)]⟩
      · obtain ⟨cvy22, hcvy22, hnvy22, rfl, hkvy22⟩ := hvy22
        refine z_istore (lv' := [(6, .int (zI (0))), (5, .int (zI (z + (tk_kd T n (tk_nx T n f))))), (0, .ref (ad 2)), (1, .ref (ad 883)), (2, .int (zI (z))), (3, .int (zI (z1))), (4, .int (zI (z2)))]) C dX7_readTable_41 (by decide) rfl ?_
        refine z_aload_n C 2 dX7_readTable_43 rfl ?_
        refine z_cV (As := []) (rest := []) (ci := 9) C (c_fClose l D A cs tt N ad _ (by omega) _ _ _ _ _ _ _ _ (by omega) (by omega) hkvy22) (lt_K hN (rfl : Nat.blt (2) 952 = true)) hay1 hkvy22 rfl rfl mv_yX7_close q_821 hd_yX7_close (by decide) (Nat.le_of_ble_eq_true rfl) (by decide) dX7_readTable_44 rfl (kV0 fun gvy108 hvy108 => ?_)
        obtain rfl := hvy108
        refine z_aload_n C 2 dX7_readTable_47 rfl ?_
        refine z_get (v := .int (zI (cvy22))) C (lt_K hN (rfl : Nat.blt (2) 952 = true)) hay1 hkvy22 rfl inA_X7 1 (by decide) q_45 rfl rfl dX7_readTable_48 ?_
        refine z_if_ne (tgt := 76) C dX7_readTable_51 (by decide) (by omega) (fun _ => ?_) (fun h => absurd h (by omega))
        have hgy109 := (hfvy22 (1) (by decide)).trans hgy21
        have hgy110 := (hfvy10 (883) (by decide)).trans hP.1
        have hgy111 := (hfvy15 (883) (by decide)).trans hgy110
        have hgy112 := (hfvy22 (883) (by decide)).trans hgy111
        have hgy113 := (hfvy10 (883 + 1) (by omega)).trans hP.2.1
        have hgy114 := (hfvy15 (883 + 1) (by omega)).trans hgy113
        have hgy115 := (hfvy22 (883 + 1) (by omega)).trans hgy114
        have hgy116 := (hfvy10 (883 + 2) (by omega)).trans hP.2.2.1
        have hgy117 := (hfvy15 (883 + 2) (by omega)).trans hgy116
        have hgy118 := (hfvy22 (883 + 2) (by omega)).trans hgy117
        have hgy119 := (hfvy10 (883 + 3) (by omega)).trans hP.2.2.2.1
        have hgy120 := (hfvy15 (883 + 3) (by omega)).trans hgy119
        have hgy121 := (hfvy22 (883 + 3) (by omega)).trans hgy120
        have hgy122 := (hfvy10 (883 + 4) (by omega)).trans hP.2.2.2.2.1
        have hgy123 := (hfvy15 (883 + 4) (by omega)).trans hgy122
        have hgy124 := (hfvy22 (883 + 4) (by omega)).trans hgy123
        have hgy125 := (hfvy10 (883 + 5) (by omega)).trans hP.2.2.2.2.2.1
        have hgy126 := (hfvy15 (883 + 5) (by omega)).trans hgy125
        have hgy127 := (hfvy22 (883 + 5) (by omega)).trans hgy126
        have hgy128 := (hfvy10 (883 + 6) (by omega)).trans hP.2.2.2.2.2.2
        have hgy129 := (hfvy15 (883 + 6) (by omega)).trans hgy128
        have hgy130 := (hfvy22 (883 + 6) (by omega)).trans hgy129
        exact z_vret C hr hlk dX7_readTable_76 (by decide) (by decide) ⟨rfl, rfl, rfl, Or.inr ⟨(cvy22, (tk_nx T n (tk_nx T n f))), by simp only [cl_fin, cl_table, if_neg hnevy15, if_neg hscy20, hnvy22], ⟨by show 1 ≤ cvy22 ∧ cvy22 ≤ 5; omega, _, _, _, _, _, _, by omega, by omega, hkvy22, hgy109⟩, ⟨hgy112, hgy115, hgy118, hgy121, hgy124, hgy127, hgy130⟩⟩, fun j j1 j2 => by rw [hfvy22 _ (by omega)]; rw [hfvy15 _ (by omega)]; rw [hfvy10 _ (by omega)]⟩
    · have hscy131 : (B (z + (tk_kd T n (tk_nx T n f))).toNat = 1) := by omega
      refine z_aload_n C 1 dX7_readTable_25 rfl ?_
      refine z_iconst (z := 4) C dX7_readTable_26 rfl ?_
      refine z_aload_n C 1 dX7_readTable_27 rfl ?_
      refine z_get (v := .int (zI (((tk_nx T n f) : Int)))) C (lt_K hN (rfl : Nat.blt (2) 952 = true)) hay1 hkvy15 rfl inA_X7 7 (by decide) q_51 rfl rfl dX7_readTable_28 ?_
      refine z_cV (As := [.int (zI (4)), .int (zI (((tk_nx T n f) : Int)))]) (rest := []) (ci := 9) C (c_xFail l D A cs tt N ad _ (by omega) _ _ _ _ _ _ _ hkvy15 (4) (((tk_nx T n f) : Int))) (lt_K hN (rfl : Nat.blt (2) 952 = true)) hay1 hkvy15 rfl rfl mv_yX7_fail q_809 hd_yX7_fail (by decide) (Nat.le_of_ble_eq_true rfl) (by decide) dX7_readTable_31 rfl (kV0 fun gvy132 hvy132 => ?_)
      obtain ⟨hkvy132, hfvy132⟩ := hvy132
      refine z_aload_n C 1 dX7_readTable_34 rfl ?_
      refine z_iload_n C 4 dX7_readTable_35 rfl ?_
      refine z_iload C 5 dX7_readTable_36 rfl ?_
      have hgy134 := (hfvy15 (1) (by decide)).trans hgy14
      have hgy135 := (hfvy132 (1) (by decide)).trans hgy134
      have hruny133 : okRun cs ad gvy132 (4) tp := ⟨_, _, _, _, _, _, _, by omega, by omega, hkvy132, hgy135⟩
      refine z_cV (As := [.int (zI (z1)), .int (zI (z2))]) (rest := []) (ci := 9) C (c_fNumber l D A cs tt N ad _ (by omega) _ tp hruny133 (by omega) (z1) (by omega) (z2) (by omega)) (lt_K hN (rfl : Nat.blt (2) 952 = true)) hay1 hkvy132 rfl rfl mv_yX7_number q_817 hd_yX7_number (by decide) (Nat.le_of_ble_eq_true rfl) (by decide) dX7_readTable_38 rfl (kI0 fun vy136 gvy136 hvy136 => ?_)
      obtain ⟨hvy136, rfl⟩ := hvy136
      refine z_istore (lv' := [(6, .int (zI (vy136))), (5, .int (zI (z + (tk_kd T n (tk_nx T n f))))), (0, .ref (ad 2)), (1, .ref (ad 883)), (2, .int (zI (z))), (3, .int (zI (z1))), (4, .int (zI (z2)))]) C dX7_readTable_41 (by decide) rfl ?_
      refine z_aload_n C 2 dX7_readTable_43 rfl ?_
      refine z_cV (As := []) (rest := []) (ci := 9) C (c_fClose l D A cs tt N ad _ (by omega) _ _ _ _ _ _ _ _ (by omega) (by omega) hkvy132) (lt_K hN (rfl : Nat.blt (2) 952 = true)) hay1 hkvy132 rfl rfl mv_yX7_close q_821 hd_yX7_close (by decide) (Nat.le_of_ble_eq_true rfl) (by decide) dX7_readTable_44 rfl (kV0 fun gvy137 hvy137 => ?_)
      obtain rfl := hvy137
      refine z_aload_n C 2 dX7_readTable_47 rfl ?_
      refine z_get (v := .int (zI (4))) C (lt_K hN (rfl : Nat.blt (2) 952 = true)) hay1 hkvy132 rfl inA_X7 1 (by decide) q_45 rfl rfl dX7_readTable_48 ?_
      refine z_if_ne (tgt := 76) C dX7_readTable_51 (by decide) (by omega) (fun _ => ?_) (fun h => absurd h (by omega))
      have hgy138 := (hfvy10 (883) (by decide)).trans hP.1
      have hgy139 := (hfvy15 (883) (by decide)).trans hgy138
      have hgy140 := (hfvy132 (883) (by decide)).trans hgy139
      have hgy141 := (hfvy10 (883 + 1) (by omega)).trans hP.2.1
      have hgy142 := (hfvy15 (883 + 1) (by omega)).trans hgy141
      have hgy143 := (hfvy132 (883 + 1) (by omega)).trans hgy142
      have hgy144 := (hfvy10 (883 + 2) (by omega)).trans hP.2.2.1
      have hgy145 := (hfvy15 (883 + 2) (by omega)).trans hgy144
      have hgy146 := (hfvy132 (883 + 2) (by omega)).trans hgy145
      have hgy147 := (hfvy10 (883 + 3) (by omega)).trans hP.2.2.2.1
      have hgy148 := (hfvy15 (883 + 3) (by omega)).trans hgy147
      have hgy149 := (hfvy132 (883 + 3) (by omega)).trans hgy148
      have hgy150 := (hfvy10 (883 + 4) (by omega)).trans hP.2.2.2.2.1
      have hgy151 := (hfvy15 (883 + 4) (by omega)).trans hgy150
      have hgy152 := (hfvy132 (883 + 4) (by omega)).trans hgy151
      have hgy153 := (hfvy10 (883 + 5) (by omega)).trans hP.2.2.2.2.2.1
      have hgy154 := (hfvy15 (883 + 5) (by omega)).trans hgy153
      have hgy155 := (hfvy132 (883 + 5) (by omega)).trans hgy154
      have hgy156 := (hfvy10 (883 + 6) (by omega)).trans hP.2.2.2.2.2.2
      have hgy157 := (hfvy15 (883 + 6) (by omega)).trans hgy156
      have hgy158 := (hfvy132 (883 + 6) (by omega)).trans hgy157
      exact z_vret C hr hlk dX7_readTable_76 (by decide) (by decide) ⟨rfl, rfl, rfl, Or.inr ⟨(4, (tk_nx T n f)), by simp only [cl_fin, cl_table, if_neg hnevy15, if_pos hscy131], ⟨by show 1 ≤ 4 ∧ 4 ≤ 5; omega, _, _, _, _, _, _, by omega, by omega, hkvy132, hgy135⟩, ⟨hgy140, hgy143, hgy146, hgy149, hgy152, hgy155, hgy158⟩⟩, fun j j1 j2 => by rw [hfvy132 _ (by omega)]; rw [hfvy15 _ (by omega)]; rw [hfvy10 _ (by omega)]⟩
  · obtain ⟨hnvy15, rfl, hkvy15⟩ := hvy15
    refine z_iadd C dX7_readTable_9 ?_
    refine z_istore (lv' := [(5, .int (zI (z + 0))), (0, .ref (ad 2)), (1, .ref (ad 883)), (2, .int (zI (z))), (3, .int (zI (z1))), (4, .int (zI (z2)))]) C dX7_readTable_10 (by decide) rfl ?_
    refine z_aload_n C 1 dX7_readTable_12 rfl ?_
    refine z_get (v := .int (zI (td))) C (lt_K hN (rfl : Nat.blt (2) 952 = true)) hay1 hkvy15 rfl inA_X7 8 (by decide) q_52 rfl rfl dX7_readTable_13 ?_
    refine z_iload C 0 dX7_readTable_16 rfl ?_
    obtain ⟨xy159, exy160, hxy161⟩ := zI_of (zI (td) >>> (zI (z + 0) &&& 31))
    refine z_ishr (z := xy159) C dX7_readTable_18 exy160 ?_
    refine z_iconst (z := 1) C dX7_readTable_19 rfl ?_
    obtain ⟨xy162, exy163, hxy164⟩ := zI_and (zI (xy159)) (m := zI 1) 1 (by decide)
    refine z_iand (z := xy162) C dX7_readTable_20 exy163 ?_
    refine z_iconst (z := 1) C dX7_readTable_21 rfl ?_
    refine z_icmp_ne (tgt := 34) C dX7_readTable_22 (by decide) (by omega) (by omega) (fun hby165 => ?_) (fun hby165 => ?_)
    · refine z_aload_n C 1 dX7_readTable_34 rfl ?_
      refine z_iload_n C 4 dX7_readTable_35 rfl ?_
      refine z_iload C 5 dX7_readTable_36 rfl ?_
      have hgy167 := (hfvy15 (1) (by decide)).trans hgy14
      have hruny166 : okRun cs ad gvy15 (1) tp := ⟨_, _, _, _, _, _, _, by omega, by omega, hkvy15, hgy167⟩
      refine z_cV (As := [.int (zI (z1)), .int (zI (z2))]) (rest := []) (ci := 9) C (c_fNumber l D A cs tt N ad _ (by omega) _ tp hruny166 (by omega) (z1) (by omega) (z2) (by omega)) (lt_K hN (rfl : Nat.blt (2) 952 = true)) hay1 hkvy15 rfl rfl mv_yX7_number q_817 hd_yX7_number (by decide) (Nat.le_of_ble_eq_true rfl) (by decide) dX7_readTable_38 rfl (kI0 fun vy168 gvy168 hvy168 => ?_)
      obtain ⟨hvy168, rfl⟩ := hvy168
      refine z_istore (lv' := [(6, .int (zI (vy168))), (5, .int (zI (z + 0))), (0, .ref (ad 2)), (1, .ref (ad 883)), (2, .int (zI (z))), (3, .int (zI (z1))), (4, .int (zI (z2)))]) C dX7_readTable_41 (by decide) rfl ?_
      refine z_aload_n C 2 dX7_readTable_43 rfl ?_
      refine z_cV (As := []) (rest := []) (ci := 9) C (c_fClose l D A cs tt N ad _ (by omega) _ _ _ _ _ _ _ _ (by omega) (by omega) hkvy15) (lt_K hN (rfl : Nat.blt (2) 952 = true)) hay1 hkvy15 rfl rfl mv_yX7_close q_821 hd_yX7_close (by decide) (Nat.le_of_ble_eq_true rfl) (by decide) dX7_readTable_44 rfl (kV0 fun gvy169 hvy169 => ?_)
      obtain rfl := hvy169
      refine z_aload_n C 2 dX7_readTable_47 rfl ?_
      refine z_get (v := .int (zI (1))) C (lt_K hN (rfl : Nat.blt (2) 952 = true)) hay1 hkvy15 rfl inA_X7 1 (by decide) q_45 rfl rfl dX7_readTable_48 ?_
      refine z_if_ne (tgt := 76) C dX7_readTable_51 (by decide) (by omega) (fun _ => ?_) (fun h => absurd h (by omega))
      have hgy170 := (hfvy10 (883) (by decide)).trans hP.1
      have hgy171 := (hfvy15 (883) (by decide)).trans hgy170
      have hgy172 := (hfvy10 (883 + 1) (by omega)).trans hP.2.1
      have hgy173 := (hfvy15 (883 + 1) (by omega)).trans hgy172
      have hgy174 := (hfvy10 (883 + 2) (by omega)).trans hP.2.2.1
      have hgy175 := (hfvy15 (883 + 2) (by omega)).trans hgy174
      have hgy176 := (hfvy10 (883 + 3) (by omega)).trans hP.2.2.2.1
      have hgy177 := (hfvy15 (883 + 3) (by omega)).trans hgy176
      have hgy178 := (hfvy10 (883 + 4) (by omega)).trans hP.2.2.2.2.1
      have hgy179 := (hfvy15 (883 + 4) (by omega)).trans hgy178
      have hgy180 := (hfvy10 (883 + 5) (by omega)).trans hP.2.2.2.2.2.1
      have hgy181 := (hfvy15 (883 + 5) (by omega)).trans hgy180
      have hgy182 := (hfvy10 (883 + 6) (by omega)).trans hP.2.2.2.2.2.2
      have hgy183 := (hfvy15 (883 + 6) (by omega)).trans hgy182
      exact z_vret C hr hlk dX7_readTable_76 (by decide) (by decide) ⟨rfl, rfl, rfl, Or.inr ⟨(1, (tk_nx T n f)), by simp only [cl_fin, cl_table, if_pos hnvy15], ⟨by show 1 ≤ 1 ∧ 1 ≤ 5; omega, _, _, _, _, _, _, by omega, by omega, hkvy15, hgy167⟩, ⟨hgy171, hgy173, hgy175, hgy177, hgy179, hgy181, hgy183⟩⟩, fun j j1 j2 => by rw [hfvy15 _ (by omega)]; rw [hfvy10 _ (by omega)]⟩
    · refine z_aload_n C 1 dX7_readTable_25 rfl ?_
      refine z_iconst (z := 4) C dX7_readTable_26 rfl ?_
      refine z_aload_n C 1 dX7_readTable_27 rfl ?_
      refine z_get (v := .int (zI ((f : Int)))) C (lt_K hN (rfl : Nat.blt (2) 952 = true)) hay1 hkvy15 rfl inA_X7 7 (by decide) q_51 rfl rfl dX7_readTable_28 ?_
      refine z_cV (As := [.int (zI (4)), .int (zI ((f : Int)))]) (rest := []) (ci := 9) C (c_fFail l D A cs tt N ad _ (by omega) _ _ _ _ _ _ _ _ (by omega) hkvy15 (4) ((f : Int))) (lt_K hN (rfl : Nat.blt (2) 952 = true)) hay1 hkvy15 rfl rfl mv_yX7_fail q_809 hd_yX7_fail (by decide) (Nat.le_of_ble_eq_true rfl) (by decide) dX7_readTable_31 rfl (kV0 fun gvy184 hvy184 => ?_)
      obtain rfl := hvy184
      refine z_aload_n C 1 dX7_readTable_34 rfl ?_
      refine z_iload_n C 4 dX7_readTable_35 rfl ?_
      refine z_iload C 5 dX7_readTable_36 rfl ?_
      have hgy186 := (hfvy15 (1) (by decide)).trans hgy14
      have hruny185 : okRun cs ad gvy15 (1) tp := ⟨_, _, _, _, _, _, _, by omega, by omega, hkvy15, hgy186⟩
      refine z_cV (As := [.int (zI (z1)), .int (zI (z2))]) (rest := []) (ci := 9) C (c_fNumber l D A cs tt N ad _ (by omega) _ tp hruny185 (by omega) (z1) (by omega) (z2) (by omega)) (lt_K hN (rfl : Nat.blt (2) 952 = true)) hay1 hkvy15 rfl rfl mv_yX7_number q_817 hd_yX7_number (by decide) (Nat.le_of_ble_eq_true rfl) (by decide) dX7_readTable_38 rfl (kI0 fun vy187 gvy187 hvy187 => ?_)
      obtain ⟨hvy187, rfl⟩ := hvy187
      refine z_istore (lv' := [(6, .int (zI (vy187))), (5, .int (zI (z + 0))), (0, .ref (ad 2)), (1, .ref (ad 883)), (2, .int (zI (z))), (3, .int (zI (z1))), (4, .int (zI (z2)))]) C dX7_readTable_41 (by decide) rfl ?_
      refine z_aload_n C 2 dX7_readTable_43 rfl ?_
      refine z_cV (As := []) (rest := []) (ci := 9) C (c_fClose l D A cs tt N ad _ (by omega) _ _ _ _ _ _ _ _ (by omega) (by omega) hkvy15) (lt_K hN (rfl : Nat.blt (2) 952 = true)) hay1 hkvy15 rfl rfl mv_yX7_close q_821 hd_yX7_close (by decide) (Nat.le_of_ble_eq_true rfl) (by decide) dX7_readTable_44 rfl (kV0 fun gvy188 hvy188 => ?_)
      obtain rfl := hvy188
      refine z_aload_n C 2 dX7_readTable_47 rfl ?_
      refine z_get (v := .int (zI (1))) C (lt_K hN (rfl : Nat.blt (2) 952 = true)) hay1 hkvy15 rfl inA_X7 1 (by decide) q_45 rfl rfl dX7_readTable_48 ?_
      refine z_if_ne (tgt := 76) C dX7_readTable_51 (by decide) (by omega) (fun _ => ?_) (fun h => absurd h (by omega))
      have hgy189 := (hfvy10 (883) (by decide)).trans hP.1
      have hgy190 := (hfvy15 (883) (by decide)).trans hgy189
      have hgy191 := (hfvy10 (883 + 1) (by omega)).trans hP.2.1
      have hgy192 := (hfvy15 (883 + 1) (by omega)).trans hgy191
      have hgy193 := (hfvy10 (883 + 2) (by omega)).trans hP.2.2.1
      have hgy194 := (hfvy15 (883 + 2) (by omega)).trans hgy193
      have hgy195 := (hfvy10 (883 + 3) (by omega)).trans hP.2.2.2.1
      have hgy196 := (hfvy15 (883 + 3) (by omega)).trans hgy195
      have hgy197 := (hfvy10 (883 + 4) (by omega)).trans hP.2.2.2.2.1
      have hgy198 := (hfvy15 (883 + 4) (by omega)).trans hgy197
      have hgy199 := (hfvy10 (883 + 5) (by omega)).trans hP.2.2.2.2.2.1
      have hgy200 := (hfvy15 (883 + 5) (by omega)).trans hgy199
      have hgy201 := (hfvy10 (883 + 6) (by omega)).trans hP.2.2.2.2.2.2
      have hgy202 := (hfvy15 (883 + 6) (by omega)).trans hgy201
      exact z_vret C hr hlk dX7_readTable_76 (by decide) (by decide) ⟨rfl, rfl, rfl, Or.inr ⟨(1, (tk_nx T n f)), by simp only [cl_fin, cl_table, if_pos hnvy15], ⟨by show 1 ≤ 1 ∧ 1 ≤ 5; omega, _, _, _, _, _, _, by omega, by omega, hkvy15, hgy186⟩, ⟨hgy190, hgy192, hgy194, hgy196, hgy198, hgy200, hgy202⟩⟩, fun j j1 j2 => by rw [hfvy15 _ (by omega)]; rw [hfvy10 _ (by omega)]⟩

