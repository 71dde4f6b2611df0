theorem kbw_0 : kb_ (("SnowRecorder$TextReader", 61, "slope", 0, [115, 108, 111, 112, 101]) : (String × Nat × String × Nat × List Int32)) = tk_kw 0 := by decide +kernel
theorem kbw_1 : kb_ (("SnowRecorder$TextReader", 71, "layer", 1, [108, 97, 121, 101, 114]) : (String × Nat × String × Nat × List Int32)) = tk_kw 1 := by decide +kernel
theorem kbw_2 : kb_ (("SnowRecorder", 495, "powder", 2, [112, 111, 119, 100, 101, 114]) : (String × Nat × String × Nat × List Int32)) = tk_kw 9 := by decide +kernel
theorem kbw_3 : kb_ (("SnowRecorder", 497, "grains", 3, [103, 114, 97, 105, 110, 115]) : (String × Nat × String × Nat × List Int32)) = tk_kw 10 := by decide +kernel
theorem kbw_4 : kb_ (("SnowRecorder", 499, "facets", 4, [102, 97, 99, 101, 116, 115]) : (String × Nat × String × Nat × List Int32)) = tk_kw 11 := by decide +kernel
theorem kbw_5 : kb_ (("SnowRecorder", 501, "crust", 5, [99, 114, 117, 115, 116]) : (String × Nat × String × Nat × List Int32)) = tk_kw 12 := by decide +kernel
theorem kbw_6 : kb_ (("SnowRecorder", 503, "hoar", 6, [104, 111, 97, 114]) : (String × Nat × String × Nat × List Int32)) = tk_kw 5 := by decide +kernel
theorem kbw_7 : kb_ (("SnowRecorder$TextReader", 76, "hour", 7, [104, 111, 117, 114]) : (String × Nat × String × Nat × List Int32)) = tk_kw 2 := by decide +kernel
theorem kbw_8 : kb_ (("SnowRecorder$TextReader", 149, "snow", 8, [115, 110, 111, 119]) : (String × Nat × String × Nat × List Int32)) = tk_kw 3 := by decide +kernel
theorem kbw_9 : kb_ (("SnowRecorder$TextReader", 151, "rain", 9, [114, 97, 105, 110]) : (String × Nat × String × Nat × List Int32)) = tk_kw 4 := by decide +kernel
theorem kbw_10 : kb_ (("SnowRecorder$TextReader", 153, "hoar", 10, [104, 111, 97, 114]) : (String × Nat × String × Nat × List Int32)) = tk_kw 5 := by decide +kernel
theorem kbw_11 : kb_ (("SnowRecorder$TextReader", 81, "strong", 11, [115, 116, 114, 111, 110, 103]) : (String × Nat × String × Nat × List Int32)) = tk_kw 6 := by decide +kernel
theorem kbw_12 : kb_ (("SnowRecorder$TextReader", 87, "holds", 12, [104, 111, 108, 100, 115]) : (String × Nat × String × Nat × List Int32)) = tk_kw 7 := by decide +kernel
theorem kbw_13 : kb_ (("SnowRecorder$TextReader", 89, "stiff", 13, [115, 116, 105, 102, 102]) : (String × Nat × String × Nat × List Int32)) = tk_kw 8 := by decide +kernel
theorem is_w {T : Nat → Int} {n f i : Nat} {v : List Int} {r : Int} (hk : v = tk_kw i) (hi : i < 13) (h : (r = 1 ∧ tk_is T n f v = true) ∨ (r = 0 ∧ tk_is T n f v = false)) : (r = 1 ∧ tk_w T n f = (i : Int)) ∨ (r = 0 ∧ tk_w T n f ≠ (i : Int)) := by
  subst hk
  rcases h with ⟨e, h⟩ | ⟨e, h⟩
  · exact Or.inl ⟨e, (tk_w_is i hi).mp h⟩
  · exact Or.inr ⟨e, fun e9 => by rw [(tk_w_is i hi).mpr e9] at h; cases h⟩
theorem is_k {T : Nat → Int} {n f : Nat} {v : List Int} {r i : Int} (hi : 0 ≤ i ∧ i ≤ 4) (hk : v = tk_kw (if i = 4 then 5 else 9 + i.toNat)) (h : (r = 1 ∧ tk_is T n f v = true) ∨ (r = 0 ∧ tk_is T n f v = false)) : (r = 1 ∧ ((i = 4 ∧ tk_w T n f = 5) ∨ (i ≠ 4 ∧ tk_w T n f = 9 + i))) ∨ (r = 0 ∧ ((i = 4 ∧ tk_w T n f ≠ 5) ∨ (i ≠ 4 ∧ tk_w T n f ≠ 9 + i))) := by
  by_cases e : i = 4
  · rw [if_pos e] at hk
    have h2 := is_w hk (by decide) h
    omega
  · rw [if_neg e] at hk
    have h2 := is_w hk (by omega) h
    omega
theorem tk_w_b (T : Nat → Int) (n f : Nat) : -1 ≤ tk_w T n f ∧ tk_w T n f ≤ 12 := by
  unfold tk_w
  by_cases e0 : tk_is T n f (tk_kw 0) = true
  · rw [if_pos e0]; decide
  by_cases e1 : tk_is T n f (tk_kw 1) = true
  · rw [if_neg e0, if_pos e1]; decide
  by_cases e2 : tk_is T n f (tk_kw 2) = true
  · rw [if_neg e0, if_neg e1, if_pos e2]; decide
  by_cases e3 : tk_is T n f (tk_kw 3) = true
  · rw [if_neg e0, if_neg e1, if_neg e2, if_pos e3]; decide
  by_cases e4 : tk_is T n f (tk_kw 4) = true
  · rw [if_neg e0, if_neg e1, if_neg e2, if_neg e3, if_pos e4]; decide
  by_cases e5 : tk_is T n f (tk_kw 5) = true
  · rw [if_neg e0, if_neg e1, if_neg e2, if_neg e3, if_neg e4, if_pos e5]; decide
  by_cases e6 : tk_is T n f (tk_kw 6) = true
  · rw [if_neg e0, if_neg e1, if_neg e2, if_neg e3, if_neg e4, if_neg e5, if_pos e6]; decide
  by_cases e7 : tk_is T n f (tk_kw 7) = true
  · rw [if_neg e0, if_neg e1, if_neg e2, if_neg e3, if_neg e4, if_neg e5, if_neg e6, if_pos e7]; decide
  by_cases e8 : tk_is T n f (tk_kw 8) = true
  · rw [if_neg e0, if_neg e1, if_neg e2, if_neg e3, if_neg e4, if_neg e5, if_neg e6, if_neg e7, if_pos e8]; decide
  by_cases e9 : tk_is T n f (tk_kw 9) = true
  · rw [if_neg e0, if_neg e1, if_neg e2, if_neg e3, if_neg e4, if_neg e5, if_neg e6, if_neg e7, if_neg e8, if_pos e9]; decide
  by_cases e10 : tk_is T n f (tk_kw 10) = true
  · rw [if_neg e0, if_neg e1, if_neg e2, if_neg e3, if_neg e4, if_neg e5, if_neg e6, if_neg e7, if_neg e8, if_neg e9, if_pos e10]; decide
  by_cases e11 : tk_is T n f (tk_kw 11) = true
  · rw [if_neg e0, if_neg e1, if_neg e2, if_neg e3, if_neg e4, if_neg e5, if_neg e6, if_neg e7, if_neg e8, if_neg e9, if_neg e10, if_pos e11]; decide
  by_cases e12 : tk_is T n f (tk_kw 12) = true
  · rw [if_neg e0, if_neg e1, if_neg e2, if_neg e3, if_neg e4, if_neg e5, if_neg e6, if_neg e7, if_neg e8, if_neg e9, if_neg e10, if_neg e11, if_pos e12]; decide
  rw [if_neg e0, if_neg e1, if_neg e2, if_neg e3, if_neg e4, if_neg e5, if_neg e6, if_neg e7, if_neg e8, if_neg e9, if_neg e10, if_neg e11, if_neg e12]; decide
theorem tk_kd_b (T : Nat → Int) (n f : Nat) : -1 ≤ tk_kd T n f ∧ tk_kd T n f ≤ 4 := by
  have h := tk_w_b T n f
  unfold tk_kd
  split
  · omega
  · split <;> omega
/-- the reader has failed: its code c, its place q -/
abbrev xFl (cs : Nat → ClassId) (ad : Nat → Nat) (g : Nat → va_E) (c q : Int) (tp : Nat → Int) : Prop := (1 ≤ c ∧ c ≤ 5) ∧ ∃ (en ty a9 be tk td : Int), (0 ≤ a9 ∧ a9 ≤ be ∧ be ≤ en ∧ en ≤ 900) ∧ (0 ≤ ty ∧ ty ≤ 5) ∧ g 2 = rdC ad q c en ty a9 be tk td ∧ g 1 = bA cs 900 tp

set_option maxRecDepth 100000 in
set_option maxHeartbeats 4000000 in
theorem c_xKindWord (l : Launch) (D : va_G) (A : Nat → Prop) (cs : Nat → ClassId) (tt : Nat) (N : Nat) (ad : Nat → Nat) (g : Nat → va_E) (z : Int) (hz : 0 ≤ z ∧ z ≤ 4) : zM l yX9_kindWord cX9_kindWord 1 (some (.object "java/lang/String")) ({ frames := 1, cells := 0, slots := 0, locals := 60 } : Room) D A cs tt N ad g [.int (zI (z))] (rR0 N ad fun a g' => (∃ q ∈ SKL, a = cs (100 + q.2.2.2.1) ∧ kb_ q = tk_kw (if z = 4 then 5 else 9 + z.toNat)) ∧ g = g') := by
  refine z_of (by decide) (Nat.le_of_ble_eq_true rfl) ?_
  intro p e s m below meth c C hr hlk hnm
  refine z_lv (lv' := [(0, .int (zI (z)))]) [0] rfl ?_
  refine z_iload_n C 0 dX9_kindWord_0 rfl ?_
  by_cases hsy1 : z ≠ 0 ∧ z ≠ 1 ∧ z ≠ 2 ∧ z ≠ 3
  · refine z_tout (tgt := 48) C dX9_kindWord_1 (by omega) (by omega) (by decide) ?_
    refine z_ldcwS C skm6 rfl rfl dX9_kindWord_48 ?_
    obtain rfl : z = 4 := by omega
    exact z_aret C hr (Or.inl ⟨_, rfl⟩) hlk dX9_kindWord_51 (by decide) (by decide) ⟨_, rfl, rfl, rfl, ⟨_, skm6, rfl, kbw_6⟩, rfl⟩
  · rcases (show z = 0 ∨ z = 1 ∨ z = 2 ∨ z = 3 by omega) with rfl | rfl | rfl | rfl
    · refine z_tin (off := 31) (tgt := 32) C dX9_kindWord_1 (by omega) (by omega) (by omega) rfl (by decide) ?_
      refine z_ldcwS C skm2 rfl rfl dX9_kindWord_32 ?_
      exact z_aret C hr (Or.inl ⟨_, rfl⟩) hlk dX9_kindWord_35 (by decide) (by decide) ⟨_, rfl, rfl, rfl, ⟨_, skm2, rfl, kbw_2⟩, rfl⟩
    · refine z_tin (off := 35) (tgt := 36) C dX9_kindWord_1 (by omega) (by omega) (by omega) rfl (by decide) ?_
      refine z_ldcwS C skm3 rfl rfl dX9_kindWord_36 ?_
      exact z_aret C hr (Or.inl ⟨_, rfl⟩) hlk dX9_kindWord_39 (by decide) (by decide) ⟨_, rfl, rfl, rfl, ⟨_, skm3, rfl, kbw_3⟩, rfl⟩
    · refine z_tin (off := 39) (tgt := 40) C dX9_kindWord_1 (by omega) (by omega) (by omega) rfl (by decide) ?_
      refine z_ldcwS C skm4 rfl rfl dX9_kindWord_40 ?_
      exact z_aret C hr (Or.inl ⟨_, rfl⟩) hlk dX9_kindWord_43 (by decide) (by decide) ⟨_, rfl, rfl, rfl, ⟨_, skm4, rfl, kbw_4⟩, rfl⟩
    · refine z_tin (off := 43) (tgt := 44) C dX9_kindWord_1 (by omega) (by omega) (by omega) rfl (by decide) ?_
      refine z_ldcwS C skm5 rfl rfl dX9_kindWord_44 ?_
      exact z_aret C hr (Or.inl ⟨_, rfl⟩) hlk dX9_kindWord_47 (by decide) (by decide) ⟨_, rfl, rfl, rfl, ⟨_, skm5, rfl, kbw_5⟩, rfl⟩

set_option maxRecDepth 100000 in
set_option maxHeartbeats 4000000 in
theorem c_xKind (l : Launch) (D : va_G) (A : Nat → Prop) (cs : Nat → ClassId) (tt : Nat) (N : Nat) (ad : Nat → Nat) (g : Nat → va_E) (hN : 952 ≤ N) (pl tk td : Int) (tp T : Nat → Int) (hT : xT tp T) (n : Nat) (hn : n ≤ 900) (f : Nat) (hf : f ≤ n) (hg2 : g 2 = rdC ad (pl) (0) ((n : Int)) (tk_so T n f) ((f : Int)) (((tk_to T n f : Nat) : Int)) (tk) (td)) (hg1 : g 1 = bA cs 900 tp) : zM l yX7_kind cX7_kind 2 (some .int) ({ frames := 6, cells := 0, slots := 0, locals := 360 } : Room) D A cs tt N ad g [.ref (ad 2)] (rI0 N ad fun r g' => ((r = tk_kd T n f ∧ (0 ≤ r ∧ r ≤ 4) ∧ g' 2 = rdC ad (pl) (0) ((n : Int)) (tk_so T n (tk_nx T n f)) (((tk_nx T n f) : Int)) (((tk_to T n (tk_nx T n f) : Nat) : Int)) ((f : Int)) (td)) ∨ (tk_kd T n f = -1 ∧ r = 0 ∧ g' 2 = rdC ad ((f : Int)) (1) ((n : Int)) (tk_so T n f) ((f : Int)) (((tk_to T n f : Nat) : Int)) (tk) (td))) ∧ ∀ j, j ≠ 2 → g' j = g j) := by
  have hay1 : zAt ad (2) (ad 2) := rfl
  have hay2 : zAt ad (1) (ad 1) := rfl
  have hTr : ∀ k, k < 900 → -128 ≤ tp k ∧ tp k ≤ 127 := fun k hk => (hT k hk).2.1
  have hsb := tk_so_b T n f
  have htb := tk_to_b (T := T) hf
  have hwb := tk_w_b T n f
  refine z_of (by decide) (Nat.le_of_ble_eq_true rfl) ?_
  intro p e s m below meth c C hr hlk hnm
  refine z_lv (lv' := [(0, .ref (ad 2))]) [0] rfl ?_
  refine z_iconst (z := 0) C dX7_kind_0 rfl ?_
  refine z_istore_n (lv' := [(1, .int (zI (0))), (0, .ref (ad 2))]) C dX7_kind_1 rfl (by decide) rfl ?_
  have lp : ∀ (n9 : Nat) (i : Int) (g1 : Nat → va_E), (5 - i).toNat = n9 → (g1 = g) → (0 ≤ i ∧ i ≤ 5) → (tk_w T n f < 9 ∨ 9 + i ≤ tk_w T n f) → (i ≤ 4 ∨ tk_w T n f ≠ 5) → zV p l e ({ frames := 6, cells := 0, slots := 0, locals := 360 } : Room) s m ([.ref (ad 2)] : List Value).toArray below meth c (MQ below (zPost D A (rI0 N ad fun r g' => ((r = tk_kd T n f ∧ (0 ≤ r ∧ r ≤ 4) ∧ g' 2 = rdC ad (pl) (0) ((n : Int)) (tk_so T n (tk_nx T n f)) (((tk_nx T n f) : Int)) (((tk_to T n (tk_nx T n f) : Nat) : Int)) ((f : Int)) (td)) ∨ (tk_kd T n f = -1 ∧ r = 0 ∧ g' 2 = rdC ad ((f : Int)) (1) ((n : Int)) (tk_so T n f) ((f : Int)) (((tk_to T n f : Nat) : Int)) (tk) (td))) ∧ ∀ j, j ≠ 2 → g' j = g j)) ([.ref (ad 2)] : List Value).toArray s ({ frames := 6, cells := 0, slots := 0, locals := 360 } : Room).cells ({ frames := 6, cells := 0, slots := 0, locals := 360 } : Room).slots A) D A 2 (N) ad g1 (0) (0) 2 [(1, .int (zI (i))), (0, .ref (ad 2))] [] := by
    intro n9
    induction n9 using Nat.strongRecOn with
    | ind n9 ih =>
      intro i g1 hm9 hg1_ hi9 hiA hiB
      subst hg1_
      refine z_iload_n C 0 dX7_kind_2 rfl ?_
      refine z_iconst (z := 5) C dX7_kind_3 rfl ?_
      refine z_icmp_ge (tgt := 30) C dX7_kind_4 (by decide) (by omega) (by omega) (fun hby3 => ?_) (fun hby3 => ?_)
      · refine z_aload_n C 1 dX7_kind_30 rfl ?_
        refine z_iconst (z := 1) C dX7_kind_31 rfl ?_
        refine z_aload_n C 1 dX7_kind_32 rfl ?_
        refine z_get (v := .int (zI ((f : Int)))) C (lt_K hN (rfl : Nat.blt (2) 952 = true)) hay1 hg2 rfl inA_X7 5 (by decide) q_49 rfl rfl dX7_kind_33 ?_
        refine z_cV (As := [.int (zI (1)), .int (zI ((f : Int)))]) (rest := []) (ci := 9) C (c_xFail l D A cs tt N ad _ (by omega) _ _ _ _ _ _ _ hg2 (1) ((f : Int))) (lt_K hN (rfl : Nat.blt (2) 952 = true)) hay1 hg2 rfl rfl mv_yX7_fail q_809 hd_yX7_fail (by decide) (Nat.le_of_ble_eq_true rfl) (by decide) dX7_kind_36 rfl (kV0 fun gvy4 hvy4 => ?_)
        obtain ⟨hkvy4, hfvy4⟩ := hvy4
        refine z_iconst (z := 0) C dX7_kind_39 rfl ?_
        exact z_iret C hr hlk dX7_kind_40 (by decide) (by decide) ⟨0, rfl, rfl, rfl, Or.inr ⟨by unfold tk_kd; rw [if_neg (by omega), if_neg (by omega)], rfl, hkvy4⟩, fun j j1 => by rw [hfvy4 _ (by omega)]⟩
      · refine z_aload_n C 1 dX7_kind_7 rfl ?_
        refine z_iload_n C 0 dX7_kind_8 rfl ?_
        refine z_cSN (As := [.int (zI (i))]) (rest := [.ref (ad 2)]) C (c_xKindWord l D A cs tt N ad _ (i) (by omega)) ms_yX9_kindWord n_834 hd_yX9_kindWord (by decide) (Nat.le_of_ble_eq_true rfl) (by decide) dX7_kind_9 rfl (kR0 fun avy5 gvy5 hvy5 => ?_)
        obtain ⟨⟨qvy5, hqvy5, rfl, hkvy5⟩, rfl⟩ := hvy5
        refine z_cV (As := [.ref (cs (100 + qvy5.2.2.2.1))]) (rest := []) (ci := 9) C (c_xIs l D A cs tt N ad _ (by omega) _ _ _ tp T hT n hn f (by omega) hg2 hg1 _ hqvy5) (lt_K hN (rfl : Nat.blt (2) 952 = true)) hay1 hg2 rfl rfl mv_yX7_is q_754 hd_yX7_is (by decide) (Nat.le_of_ble_eq_true rfl) (by decide) dX7_kind_12 rfl (kI0 fun vy6 gvy6 hvy6 => ?_)
        obtain ⟨hvy6, rfl⟩ := hvy6
        have hwvy6 := is_k (i := i) (by omega) hkvy5 hvy6
        clear hvy6
        have hrvy6 : 0 ≤ vy6 ∧ vy6 ≤ 1 := by omega
        refine z_if_eq (tgt := 24) C dX7_kind_15 (by decide) (by omega) (fun hby7 => ?_) (fun hby7 => ?_)
        · refine z_iinc (z := i + 1) (lv' := [(1, .int (zI (i + 1))), (0, .ref (ad 2))]) (j := 0) C dX7_kind_24 rfl rfl (by decide) rfl ?_
          refine z_goto (tgt := 2) C dX7_kind_27 (by decide) ?_
          refine z_lv (lv' := [(1, .int (zI (i + 1))), (0, .ref (ad 2))]) [0, 1] rfl ?_
          exact ih _ (by omega) (i + 1) _ rfl rfl (by omega) (by omega) (by omega)
        · refine z_aload_n C 1 dX7_kind_18 rfl ?_
          refine z_cV (As := []) (rest := []) (ci := 9) C (c_xTake l D A cs tt N ad _ (by omega) _ _ _ tp T hT n hn f (by omega) hg2 hg1) (lt_K hN (rfl : Nat.blt (2) 952 = true)) hay1 hg2 rfl rfl mv_yX7_take q_813 hd_yX7_take (by decide) (Nat.le_of_ble_eq_true rfl) (by decide) dX7_kind_19 rfl (kV0 fun gvy8 hvy8 => ?_)
          obtain ⟨hkvy8, hfvy8⟩ := hvy8
          have hnby9 := tk_nx_b (T := T) (n := n) (f := f) (by omega)
          have hsby10 := tk_so_b T n (tk_nx T n f)
          have htby11 := tk_to_b (T := T) (n := n) (f := (tk_nx T n f)) (by omega)
          refine z_iload_n C 0 dX7_kind_22 rfl ?_
          exact z_iret C hr hlk dX7_kind_23 (by decide) (by decide) ⟨i, rfl, rfl, rfl, Or.inl ⟨by unfold tk_kd; split; omega; split <;> omega, by omega, hkvy8⟩, fun j j1 => by rw [hfvy8 _ (by omega)]⟩
  refine z_lv (lv' := [(1, .int (zI (0))), (0, .ref (ad 2))]) [0, 1] rfl ?_
  exact lp _ (0) _ rfl rfl (by omega) (by omega) (by omega)

set_option maxRecDepth 100000 in
set_option maxHeartbeats 4000000 in
theorem c_xFall (l : Launch) (D : va_G) (A : Nat → Prop) (cs : Nat → ClassId) (tt : Nat) (N : Nat) (ad : Nat → Nat) (g : Nat → va_E) (hN : 952 ≤ N) (pl tk td : Int) (tp T : Nat → Int) (hT : xT tp T) (n : Nat) (hn : n ≤ 900) (f : Nat) (hf : f ≤ n) (hg2 : g 2 = rdC ad (pl) (0) ((n : Int)) (tk_so T n f) ((f : Int)) (((tk_to T n f : Nat) : Int)) (tk) (td)) (hg1 : g 1 = bA cs 900 tp) : zM l yX7_readFall cX7_readFall 2 (some .int) ({ frames := 6, cells := 0, slots := 0, locals := 360 } : Room) D A cs tt N ad g [.ref (ad 2)] (rI0 N ad fun r g' => r = tk_fa T n f ∧ (0 ≤ r ∧ r ≤ 3) ∧ ((r = 0 ∧ g' 2 = rdC ad (pl) (0) ((n : Int)) (tk_so T n f) ((f : Int)) (((tk_to T n f : Nat) : Int)) (tk) (td)) ∨ (r ≠ 0 ∧ g' 2 = rdC ad (pl) (0) ((n : Int)) (tk_so T n (tk_nx T n f)) (((tk_nx T n f) : Int)) (((tk_to T n (tk_nx T n f) : Nat) : Int)) ((f : Int)) (td))) ∧ ∀ j, j ≠ 2 → g' j = g j) := by
  have hay1 : zAt ad (2) (ad 2) := rfl
  have hay2 : zAt ad (1) (ad 1) := rfl
  have hTr : ∀ k, k < 900 → -128 ≤ tp k ∧ tp k ≤ 127 := fun k hk => (hT k hk).2.1
  have hsb := tk_so_b T n f
  have htb := tk_to_b (T := T) hf
  refine z_of (by decide) (Nat.le_of_ble_eq_true rfl) ?_
  intro p e s m below meth c C hr hlk hnm
  refine z_lv (lv' := [(0, .ref (ad 2))]) [0] rfl ?_
  refine z_aload_n C 0 dX7_readFall_0 rfl ?_
  refine z_ldcS C skm8 rfl rfl dX7_readFall_1 ?_
  refine z_cV (As := [.ref (cs (100 + 8))]) (rest := []) (ci := 9) C (c_xIs l D A cs tt N ad _ (by omega) _ _ _ tp T hT n hn f (by omega) hg2 hg1 _ skm8) (lt_K hN (rfl : Nat.blt (2) 952 = true)) hay1 hg2 rfl rfl mv_yX7_is q_754 hd_yX7_is (by decide) (Nat.le_of_ble_eq_true rfl) (by decide) dX7_readFall_3 rfl (kI0 fun vy3 gvy3 hvy3 => ?_)
  obtain ⟨hvy3, rfl⟩ := hvy3
  have hwvy3 := is_w kbw_8 (by decide) hvy3
  clear hvy3
  have hrvy3 : 0 ≤ vy3 ∧ vy3 ≤ 1 := by omega
  refine z_if_eq (tgt := 13) C dX7_readFall_6 (by decide) (by omega) (fun hby4 => ?_) (fun hby4 => ?_)
  · refine z_aload_n C 0 dX7_readFall_13 rfl ?_
    refine z_ldcS C skm9 rfl rfl dX7_readFall_14 ?_
    refine z_cV (As := [.ref (cs (100 + 9))]) (rest := []) (ci := 9) C (c_xIs l D A cs tt N ad _ (by omega) _ _ _ tp T hT n hn f (by omega) hg2 hg1 _ skm9) (lt_K hN (rfl : Nat.blt (2) 952 = true)) hay1 hg2 rfl rfl mv_yX7_is q_754 hd_yX7_is (by decide) (Nat.le_of_ble_eq_true rfl) (by decide) dX7_readFall_16 rfl (kI0 fun vy5 gvy5 hvy5 => ?_)
    obtain ⟨hvy5, rfl⟩ := hvy5
    have hwvy5 := is_w kbw_9 (by decide) hvy5
    clear hvy5
    have hrvy5 : 0 ≤ vy5 ∧ vy5 ≤ 1 := by omega
    refine z_if_eq (tgt := 26) C dX7_readFall_19 (by decide) (by omega) (fun hby6 => ?_) (fun hby6 => ?_)
    · refine z_aload_n C 0 dX7_readFall_26 rfl ?_
      refine z_ldcS C skm10 rfl rfl dX7_readFall_27 ?_
      refine z_cV (As := [.ref (cs (100 + 10))]) (rest := []) (ci := 9) C (c_xIs l D A cs tt N ad _ (by omega) _ _ _ tp T hT n hn f (by omega) hg2 hg1 _ skm10) (lt_K hN (rfl : Nat.blt (2) 952 = true)) hay1 hg2 rfl rfl mv_yX7_is q_754 hd_yX7_is (by decide) (Nat.le_of_ble_eq_true rfl) (by decide) dX7_readFall_29 rfl (kI0 fun vy7 gvy7 hvy7 => ?_)
      obtain ⟨hvy7, rfl⟩ := hvy7
      have hwvy7 := is_w kbw_10 (by decide) hvy7
      clear hvy7
      have hrvy7 : 0 ≤ vy7 ∧ vy7 ≤ 1 := by omega
      refine z_if_eq (tgt := 39) C dX7_readFall_32 (by decide) (by omega) (fun hby8 => ?_) (fun hby8 => ?_)
      · refine z_iconst (z := 0) C dX7_readFall_39 rfl ?_
        refine z_istore_n (lv' := [(1, .int (zI (0))), (0, .ref (ad 2))]) C dX7_readFall_40 rfl (by decide) rfl ?_
        refine z_iload_n C 0 dX7_readFall_41 rfl ?_
        refine z_if_eq (tgt := 49) C dX7_readFall_42 (by decide) (by omega) (fun _ => ?_) (fun h => absurd h (by omega))
        refine z_iload_n C 0 dX7_readFall_49 rfl ?_
        exact z_iret C hr hlk dX7_readFall_50 (by decide) (by decide) ⟨0, rfl, rfl, rfl, by unfold tk_fa; first | (rw [if_pos (by omega)]; omega) | (rw [if_neg (by omega)]), by omega, Or.inl ⟨by decide, hg2⟩, fun j j1 => by rfl⟩
      · refine z_iconst (z := 3) C dX7_readFall_35 rfl ?_
        refine z_goto (tgt := 40) C dX7_readFall_36 (by decide) ?_
        refine z_istore_n (lv' := [(1, .int (zI (3))), (0, .ref (ad 2))]) C dX7_readFall_40 rfl (by decide) rfl ?_
        refine z_iload_n C 0 dX7_readFall_41 rfl ?_
        refine z_if_eq (tgt := 49) C dX7_readFall_42 (by decide) (by omega) (fun h => absurd h (by omega)) (fun _ => ?_)
        refine z_aload_n C 1 dX7_readFall_45 rfl ?_
        refine z_cV (As := []) (rest := []) (ci := 9) C (c_xTake l D A cs tt N ad _ (by omega) _ _ _ tp T hT n hn f (by omega) hg2 hg1) (lt_K hN (rfl : Nat.blt (2) 952 = true)) hay1 hg2 rfl rfl mv_yX7_take q_813 hd_yX7_take (by decide) (Nat.le_of_ble_eq_true rfl) (by decide) dX7_readFall_46 rfl (kV0 fun gvy9 hvy9 => ?_)
        obtain ⟨hkvy9, hfvy9⟩ := hvy9
        have hnby10 := tk_nx_b (T := T) (n := n) (f := f) (by omega)
        have hsby11 := tk_so_b T n (tk_nx T n f)
        have htby12 := tk_to_b (T := T) (n := n) (f := (tk_nx T n f)) (by omega)
        refine z_iload_n C 0 dX7_readFall_49 rfl ?_
        exact z_iret C hr hlk dX7_readFall_50 (by decide) (by decide) ⟨3, rfl, rfl, rfl, by unfold tk_fa; first | (rw [if_pos (by omega)]; omega) | (rw [if_neg (by omega)]), by omega, Or.inr ⟨by decide, hkvy9⟩, fun j j1 => by rw [hfvy9 _ (by omega)]⟩
    · refine z_iconst (z := 2) C dX7_readFall_22 rfl ?_
      refine z_goto (tgt := 40) C dX7_readFall_23 (by decide) ?_
      refine z_istore_n (lv' := [(1, .int (zI (2))), (0, .ref (ad 2))]) C dX7_readFall_40 rfl (by decide) rfl ?_
      refine z_iload_n C 0 dX7_readFall_41 rfl ?_
      refine z_if_eq (tgt := 49) C dX7_readFall_42 (by decide) (by omega) (fun h => absurd h (by omega)) (fun _ => ?_)
      refine z_aload_n C 1 dX7_readFall_45 rfl ?_
      refine z_cV (As := []) (rest := []) (ci := 9) C (c_xTake l D A cs tt N ad _ (by omega) _ _ _ tp T hT n hn f (by omega) hg2 hg1) (lt_K hN (rfl : Nat.blt (2) 952 = true)) hay1 hg2 rfl rfl mv_yX7_take q_813 hd_yX7_take (by decide) (Nat.le_of_ble_eq_true rfl) (by decide) dX7_readFall_46 rfl (kV0 fun gvy13 hvy13 => ?_)
      obtain ⟨hkvy13, hfvy13⟩ := hvy13
      have hnby14 := tk_nx_b (T := T) (n := n) (f := f) (by omega)
      have hsby15 := tk_so_b T n (tk_nx T n f)
      have htby16 := tk_to_b (T := T) (n := n) (f := (tk_nx T n f)) (by omega)
      refine z_iload_n C 0 dX7_readFall_49 rfl ?_
      exact z_iret C hr hlk dX7_readFall_50 (by decide) (by decide) ⟨2, rfl, rfl, rfl, by unfold tk_fa; first | (rw [if_pos (by omega)]; omega) | (rw [if_neg (by omega)]), by omega, Or.inr ⟨by decide, hkvy13⟩, fun j j1 => by rw [hfvy13 _ (by omega)]⟩
  · refine z_iconst (z := 1) C dX7_readFall_9 rfl ?_
    refine z_goto (tgt := 40) C dX7_readFall_10 (by decide) ?_
    refine z_istore_n (lv' := [(1, .int (zI (1))), (0, .ref (ad 2))]) C dX7_readFall_40 rfl (by decide) rfl ?_
    refine z_iload_n C 0 dX7_readFall_41 rfl ?_
    refine z_if_eq (tgt := 49) C dX7_readFall_42 (by decide) (by omega) (fun h => absurd h (by omega)) (fun _ => ?_)
    refine z_aload_n C 1 dX7_readFall_45 rfl ?_
    refine z_cV (As := []) (rest := []) (ci := 9) C (c_xTake l D A cs tt N ad _ (by omega) _ _ _ tp T hT n hn f (by omega) hg2 hg1) (lt_K hN (rfl : Nat.blt (2) 952 = true)) hay1 hg2 rfl rfl mv_yX7_take q_813 hd_yX7_take (by decide) (Nat.le_of_ble_eq_true rfl) (by decide) dX7_readFall_46 rfl (kV0 fun gvy17 hvy17 => ?_)
    obtain ⟨hkvy17, hfvy17⟩ := hvy17
    have hnby18 := tk_nx_b (T := T) (n := n) (f := f) (by omega)
    have hsby19 := tk_so_b T n (tk_nx T n f)
    have htby20 := tk_to_b (T := T) (n := n) (f := (tk_nx T n f)) (by omega)
    refine z_iload_n C 0 dX7_readFall_49 rfl ?_
    exact z_iret C hr hlk dX7_readFall_50 (by decide) (by decide) ⟨1, rfl, rfl, rfl, by unfold tk_fa; first | (rw [if_pos (by omega)]; omega) | (rw [if_neg (by omega)]), by omega, Or.inr ⟨by decide, hkvy17⟩, fun j j1 => by rw [hfvy17 _ (by omega)]⟩

set_option maxRecDepth 100000 in
set_option maxHeartbeats 4000000 in
theorem c_fNumber (l : Launch) (D : va_G) (A : Nat → Prop) (cs : Nat → ClassId) (tt : Nat) (N : Nat) (ad : Nat → Nat) (g : Nat → va_E) (hN : 952 ≤ N) (co : Int) (tp : Nat → Int) (hR : okRun cs ad g co tp) (hco : 1 ≤ co) (z : Int) (hz : 0 ≤ z ∧ z ≤ 9999) (z1 : Int) (hz1 : 0 ≤ z1 ∧ z1 ≤ 9999) : zM l yX7_number cX7_number 5 (some .int) ({ frames := 5, cells := 0, slots := 0, locals := 300 } : Room) D A cs tt N ad g [.ref (ad 2), .int (zI (z)), .int (zI (z1))] (rI0 N ad fun r g' => (0 ≤ r ∧ r ≤ z1) ∧ g = g') := by
  obtain ⟨pldy1, endy1, tydy1, a9dy1, bedy1, tkdy1, tddy1, hAdy1, hTdy1, hcdy1, hddy1⟩ := id hR
  have hay2 : zAt ad (2) (ad 2) := rfl
  have hay3 : zAt ad (1) (ad 1) := rfl
  refine z_of (by decide) (Nat.le_of_ble_eq_true rfl) ?_
  intro p e s m below meth c C hr hlk hnm
  refine z_lv (lv' := [(0, .ref (ad 2)), (1, .int (zI (z))), (2, .int (zI (z1)))]) [0, 1, 2] rfl ?_
  refine z_aload_n C 0 dX7_number_0 rfl ?_
  refine z_get (v := .int (zI (tydy1))) C (lt_K hN (rfl : Nat.blt (2) 952 = true)) hay2 hcdy1 rfl inA_X7 4 (by decide) q_48 rfl rfl dX7_number_1 ?_
  refine z_iconst (z := 2) C dX7_number_4 rfl ?_
  refine z_icmp_eq (tgt := 19) C dX7_number_5 (by decide) (by omega) (by omega) (fun hby4 => ?_) (fun hby4 => ?_)
  · refine z_iconst (z := 0) C dX7_number_19 rfl ?_
    refine z_istore_n (lv' := [(3, .int (zI (0))), (0, .ref (ad 2)), (1, .int (zI (z))), (2, .int (zI (z1)))]) C dX7_number_20 rfl (by decide) rfl ?_
    refine z_aload_n C 1 dX7_number_21 rfl ?_
    refine z_get (v := .int (zI (a9dy1))) C (lt_K hN (rfl : Nat.blt (2) 952 = true)) hay2 hcdy1 rfl inA_X7 5 (by decide) q_49 rfl rfl dX7_number_22 ?_
    refine z_istore (lv' := [(4, .int (zI (a9dy1))), (3, .int (zI (0))), (0, .ref (ad 2)), (1, .int (zI (z))), (2, .int (zI (z1)))]) C dX7_number_25 (by decide) rfl ?_
    have lp : ∀ (n9 : Nat) (i : Int) (va : Int) (g1 : Nat → va_E), (900 - i).toNat = n9 → (g1 = g) → (0 ≤ i ∧ i ≤ 900) → (-2147483648 ≤ va ∧ va ≤ 2147483647) → zV p l e ({ frames := 5, cells := 0, slots := 0, locals := 300 } : Room) s m ([.ref (ad 2), .int (zI (z)), .int (zI (z1))] : List Value).toArray below meth c (MQ below (zPost D A (rI0 N ad fun r g' => (0 ≤ r ∧ r ≤ z1) ∧ g = g')) ([.ref (ad 2), .int (zI (z)), .int (zI (z1))] : List Value).toArray s ({ frames := 5, cells := 0, slots := 0, locals := 300 } : Room).cells ({ frames := 5, cells := 0, slots := 0, locals := 300 } : Room).slots A) D A 5 (N) ad g1 (0) (0) 27 [(4, .int (zI (i))), (3, .int (zI (va))), (0, .ref (ad 2)), (1, .int (zI (z))), (2, .int (zI (z1)))] [] := by
      intro n9
      induction n9 using Nat.strongRecOn with
      | ind n9 ih =>
        intro i va g1 hm9 hg1 hi9 hv9
        subst hg1
        refine z_iload C 0 dX7_number_27 rfl ?_
        refine z_aload_n C 2 dX7_number_29 rfl ?_
        refine z_get (v := .int (zI (bedy1))) C (lt_K hN (rfl : Nat.blt (2) 952 = true)) hay2 hcdy1 rfl inA_X7 6 (by decide) q_50 rfl rfl dX7_number_30 ?_
        refine z_icmp_ge (tgt := 63) C dX7_number_33 (by decide) (by omega) (by omega) (fun hby5 => ?_) (fun hby5 => ?_)
        · refine z_aload_n C 2 dX7_number_63 rfl ?_
          refine z_get (v := .int (zI (bedy1))) C (lt_K hN (rfl : Nat.blt (2) 952 = true)) hay2 hcdy1 rfl inA_X7 6 (by decide) q_50 rfl rfl dX7_number_64 ?_
          refine z_aload_n C 2 dX7_number_67 rfl ?_
          refine z_get (v := .int (zI (a9dy1))) C (lt_K hN (rfl : Nat.blt (2) 952 = true)) hay2 hcdy1 rfl inA_X7 5 (by decide) q_49 rfl rfl dX7_number_68 ?_
          refine z_isub C dX7_number_71 ?_
          refine z_iconst (z := 4) C dX7_number_72 rfl ?_
          refine z_icmp_gt (tgt := 86) C dX7_number_73 (by decide) (by omega) (by omega) (fun hby6 => ?_) (fun hby6 => ?_)
          · refine z_aload_n C 2 dX7_number_86 rfl ?_
            refine z_iconst (z := 2) C dX7_number_87 rfl ?_
            refine z_aload_n C 2 dX7_number_88 rfl ?_
            refine z_get (v := .int (zI (a9dy1))) C (lt_K hN (rfl : Nat.blt (2) 952 = true)) hay2 hcdy1 rfl inA_X7 5 (by decide) q_49 rfl rfl dX7_number_89 ?_
            refine z_cV (As := [.int (zI (2)), .int (zI (a9dy1))]) (rest := []) (ci := 9) C (c_fFail l D A cs tt N ad _ (by omega) _ _ _ _ _ _ _ _ (by omega) hcdy1 (2) (a9dy1)) (lt_K hN (rfl : Nat.blt (2) 952 = true)) hay2 hcdy1 rfl rfl mv_yX7_fail q_809 hd_yX7_fail (by decide) (Nat.le_of_ble_eq_true rfl) (by decide) dX7_number_92 rfl (kV0 fun gvy7 hvy7 => ?_)
            obtain rfl := hvy7
            refine z_iconst (z := 0) C dX7_number_95 rfl ?_
            exact z_iret C hr hlk dX7_number_96 (by decide) (by decide) ⟨0, rfl, rfl, rfl, by omega, rfl⟩
          · refine z_iload_n C 1 dX7_number_76 rfl ?_
            refine z_iload_n C 3 dX7_number_77 rfl ?_
            refine z_icmp_lt (tgt := 86) C dX7_number_78 (by decide) (by omega) (by omega) (fun hby8 => ?_) (fun hby8 => ?_)
            · refine z_aload_n C 2 dX7_number_86 rfl ?_
              refine z_iconst (z := 2) C dX7_number_87 rfl ?_
              refine z_aload_n C 2 dX7_number_88 rfl ?_
              refine z_get (v := .int (zI (a9dy1))) C (lt_K hN (rfl : Nat.blt (2) 952 = true)) hay2 hcdy1 rfl inA_X7 5 (by decide) q_49 rfl rfl dX7_number_89 ?_
              refine z_cV (As := [.int (zI (2)), .int (zI (a9dy1))]) (rest := []) (ci := 9) C (c_fFail l D A cs tt N ad _ (by omega) _ _ _ _ _ _ _ _ (by omega) hcdy1 (2) (a9dy1)) (lt_K hN (rfl : Nat.blt (2) 952 = true)) hay2 hcdy1 rfl rfl mv_yX7_fail q_809 hd_yX7_fail (by decide) (Nat.le_of_ble_eq_true rfl) (by decide) dX7_number_92 rfl (kV0 fun gvy9 hvy9 => ?_)
              obtain rfl := hvy9
              refine z_iconst (z := 0) C dX7_number_95 rfl ?_
              exact z_iret C hr hlk dX7_number_96 (by decide) (by decide) ⟨0, rfl, rfl, rfl, by omega, rfl⟩
            · refine z_iload_n C 1 dX7_number_81 rfl ?_
              refine z_iload_n C 4 dX7_number_82 rfl ?_
              refine z_icmp_le (tgt := 97) C dX7_number_83 (by decide) (by omega) (by omega) (fun hby10 => ?_) (fun hby10 => ?_)
              · refine z_aload_n C 2 dX7_number_97 rfl ?_
                refine z_cV (As := []) (rest := []) (ci := 9) C (c_fTake l D A cs tt N ad _ (by omega) _ _ _ _ _ _ _ _ (by omega) hcdy1) (lt_K hN (rfl : Nat.blt (2) 952 = true)) hay2 hcdy1 rfl rfl mv_yX7_take q_813 hd_yX7_take (by decide) (Nat.le_of_ble_eq_true rfl) (by decide) dX7_number_98 rfl (kV0 fun gvy11 hvy11 => ?_)
                obtain rfl := hvy11
                refine z_iload_n C 1 dX7_number_101 rfl ?_
                exact z_iret C hr hlk dX7_number_102 (by decide) (by decide) ⟨va, rfl, rfl, rfl, by omega, rfl⟩
              · refine z_aload_n C 2 dX7_number_86 rfl ?_
                refine z_iconst (z := 2) C dX7_number_87 rfl ?_
                refine z_aload_n C 2 dX7_number_88 rfl ?_
                refine z_get (v := .int (zI (a9dy1))) C (lt_K hN (rfl : Nat.blt (2) 952 = true)) hay2 hcdy1 rfl inA_X7 5 (by decide) q_49 rfl rfl dX7_number_89 ?_
                refine z_cV (As := [.int (zI (2)), .int (zI (a9dy1))]) (rest := []) (ci := 9) C (c_fFail l D A cs tt N ad _ (by omega) _ _ _ _ _ _ _ _ (by omega) hcdy1 (2) (a9dy1)) (lt_K hN (rfl : Nat.blt (2) 952 = true)) hay2 hcdy1 rfl rfl mv_yX7_fail q_809 hd_yX7_fail (by decide) (Nat.le_of_ble_eq_true rfl) (by decide) dX7_number_92 rfl (kV0 fun gvy12 hvy12 => ?_)
                obtain rfl := hvy12
                refine z_iconst (z := 0) C dX7_number_95 rfl ?_
                exact z_iret C hr hlk dX7_number_96 (by decide) (by decide) ⟨0, rfl, rfl, rfl, by omega, rfl⟩
        · refine z_iload_n C 1 dX7_number_36 rfl ?_
          refine z_iload_n C 4 dX7_number_37 rfl ?_
          refine z_icmp_gt (tgt := 63) C dX7_number_38 (by decide) (by omega) (by omega) (fun hby13 => ?_) (fun hby13 => ?_)
          · refine z_aload_n C 2 dX7_number_63 rfl ?_
            refine z_get (v := .int (zI (bedy1))) C (lt_K hN (rfl : Nat.blt (2) 952 = true)) hay2 hcdy1 rfl inA_X7 6 (by decide) q_50 rfl rfl dX7_number_64 ?_
            refine z_aload_n C 2 dX7_number_67 rfl ?_
            refine z_get (v := .int (zI (a9dy1))) C (lt_K hN (rfl : Nat.blt (2) 952 = true)) hay2 hcdy1 rfl inA_X7 5 (by decide) q_49 rfl rfl dX7_number_68 ?_
            refine z_isub C dX7_number_71 ?_
            refine z_iconst (z := 4) C dX7_number_72 rfl ?_
            refine z_icmp_gt (tgt := 86) C dX7_number_73 (by decide) (by omega) (by omega) (fun hby14 => ?_) (fun hby14 => ?_)
            · refine z_aload_n C 2 dX7_number_86 rfl ?_
              refine z_iconst (z := 2) C dX7_number_87 rfl ?_
              refine z_aload_n C 2 dX7_number_88 rfl ?_
              refine z_get (v := .int (zI (a9dy1))) C (lt_K hN (rfl : Nat.blt (2) 952 = true)) hay2 hcdy1 rfl inA_X7 5 (by decide) q_49 rfl rfl dX7_number_89 ?_
              refine z_cV (As := [.int (zI (2)), .int (zI (a9dy1))]) (rest := []) (ci := 9) C (c_fFail l D A cs tt N ad _ (by omega) _ _ _ _ _ _ _ _ (by omega) hcdy1 (2) (a9dy1)) (lt_K hN (rfl : Nat.blt (2) 952 = true)) hay2 hcdy1 rfl rfl mv_yX7_fail q_809 hd_yX7_fail (by decide) (Nat.le_of_ble_eq_true rfl) (by decide) dX7_number_92 rfl (kV0 fun gvy15 hvy15 => ?_)
              obtain rfl := hvy15
              refine z_iconst (z := 0) C dX7_number_95 rfl ?_
              exact z_iret C hr hlk dX7_number_96 (by decide) (by decide) ⟨0, rfl, rfl, rfl, by omega, rfl⟩
            · refine z_iload_n C 1 dX7_number_76 rfl ?_
              refine z_iload_n C 3 dX7_number_77 rfl ?_
              refine z_icmp_lt (tgt := 86) C dX7_number_78 (by decide) (by omega) (by omega) (fun hby16 => ?_) (fun hby16 => ?_)
              · refine z_aload_n C 2 dX7_number_86 rfl ?_
                refine z_iconst (z := 2) C dX7_number_87 rfl ?_
                refine z_aload_n C 2 dX7_number_88 rfl ?_
                refine z_get (v := .int (zI (a9dy1))) C (lt_K hN (rfl : Nat.blt (2) 952 = true)) hay2 hcdy1 rfl inA_X7 5 (by decide) q_49 rfl rfl dX7_number_89 ?_
                refine z_cV (As := [.int (zI (2)), .int (zI (a9dy1))]) (rest := []) (ci := 9) C (c_fFail l D A cs tt N ad _ (by omega) _ _ _ _ _ _ _ _ (by omega) hcdy1 (2) (a9dy1)) (lt_K hN (rfl : Nat.blt (2) 952 = true)) hay2 hcdy1 rfl rfl mv_yX7_fail q_809 hd_yX7_fail (by decide) (Nat.le_of_ble_eq_true rfl) (by decide) dX7_number_92 rfl (kV0 fun gvy17 hvy17 => ?_)
                obtain rfl := hvy17
                refine z_iconst (z := 0) C dX7_number_95 rfl ?_
                exact z_iret C hr hlk dX7_number_96 (by decide) (by decide) ⟨0, rfl, rfl, rfl, by omega, rfl⟩
              · refine z_iload_n C 1 dX7_number_81 rfl ?_
                refine z_iload_n C 4 dX7_number_82 rfl ?_
                refine z_icmp_le (tgt := 97) C dX7_number_83 (by decide) (by omega) (by omega) (fun hby18 => ?_) (fun hby18 => ?_)
                · refine z_aload_n C 2 dX7_number_97 rfl ?_
                  refine z_cV (As := []) (rest := []) (ci := 9) C (c_fTake l D A cs tt N ad _ (by omega) _ _ _ _ _ _ _ _ (by omega) hcdy1) (lt_K hN (rfl : Nat.blt (2) 952 = true)) hay2 hcdy1 rfl rfl mv_yX7_take q_813 hd_yX7_take (by decide) (Nat.le_of_ble_eq_true rfl) (by decide) dX7_number_98 rfl (kV0 fun gvy19 hvy19 => ?_)
                  obtain rfl := hvy19
                  refine z_iload_n C 1 dX7_number_101 rfl ?_
                  exact z_iret C hr hlk dX7_number_102 (by decide) (by decide) ⟨va, rfl, rfl, rfl, by omega, rfl⟩
                · refine z_aload_n C 2 dX7_number_86 rfl ?_
                  refine z_iconst (z := 2) C dX7_number_87 rfl ?_
                  refine z_aload_n C 2 dX7_number_88 rfl ?_
                  refine z_get (v := .int (zI (a9dy1))) C (lt_K hN (rfl : Nat.blt (2) 952 = true)) hay2 hcdy1 rfl inA_X7 5 (by decide) q_49 rfl rfl dX7_number_89 ?_
                  refine z_cV (As := [.int (zI (2)), .int (zI (a9dy1))]) (rest := []) (ci := 9) C (c_fFail l D A cs tt N ad _ (by omega) _ _ _ _ _ _ _ _ (by omega) hcdy1 (2) (a9dy1)) (lt_K hN (rfl : Nat.blt (2) 952 = true)) hay2 hcdy1 rfl rfl mv_yX7_fail q_809 hd_yX7_fail (by decide) (Nat.le_of_ble_eq_true rfl) (by decide) dX7_number_92 rfl (kV0 fun gvy20 hvy20 => ?_)
                  obtain rfl := hvy20
                  refine z_iconst (z := 0) C dX7_number_95 rfl ?_
                  exact z_iret C hr hlk dX7_number_96 (by decide) (by decide) ⟨0, rfl, rfl, rfl, by omega, rfl⟩
          · refine z_bipush (z := 10) C dX7_number_41 (by decide) ?_
            refine z_iload_n C 1 dX7_number_43 rfl ?_
            refine z_imul C dX7_number_44 ?_
            refine z_aload_n C 2 dX7_number_45 rfl ?_
            refine z_get (v := .ref (ad 1)) C (lt_K hN (rfl : Nat.blt (2) 952 = true)) hay2 hcdy1 rfl inA_X7 2 (by decide) q_46 rfl rfl dX7_number_46 ?_
            refine z_iload C 0 dX7_number_49 rfl ?_
            refine z_bald C (lt_K hN (rfl : Nat.blt (1) 952 = true)) hay3 hddy1 ((i).toNat) (by omega) (by omega) (by decide) dX7_number_51 ?_
            refine z_iadd C dX7_number_52 ?_
            refine z_bipush (z := 48) C dX7_number_53 (by decide) ?_
            refine z_isub C dX7_number_55 ?_
            refine z_istore_n (lv' := [(3, .int (zI (((10 * va) + (tp ((i).toNat))) - 48))), (4, .int (zI (i))), (0, .ref (ad 2)), (1, .int (zI (z))), (2, .int (zI (z1)))]) C dX7_number_56 rfl (by decide) rfl ?_
            refine z_iinc (z := i + 1) (lv' := [(4, .int (zI (i + 1))), (3, .int (zI (((10 * va) + (tp ((i).toNat))) - 48))), (0, .ref (ad 2)), (1, .int (zI (z))), (2, .int (zI (z1)))]) (j := 1) C dX7_number_57 rfl rfl (by decide) rfl ?_
            refine z_goto (tgt := 27) C dX7_number_60 (by decide) ?_
            obtain ⟨xy21, exy22, hxy23⟩ := zI_of (zI (((10 * va) + (tp ((i).toNat))) - 48))
            rw [exy22]
            refine z_lv (lv' := [(4, .int (zI (i + 1))), (3, .int (zI (xy21))), (0, .ref (ad 2)), (1, .int (zI (z))), (2, .int (zI (z1)))]) [0, 1, 2, 3, 4] rfl ?_
            exact ih _ (by omega) (i + 1) (xy21) _ rfl rfl (by omega) (by omega)
    refine z_lv (lv' := [(4, .int (zI (a9dy1))), (3, .int (zI (0))), (0, .ref (ad 2)), (1, .int (zI (z))), (2, .int (zI (z1)))]) [0, 1, 2, 3, 4] rfl ?_
    exact lp _ (a9dy1) (0) _ rfl rfl (by omega) (by omega)
  · refine z_aload_n C 0 dX7_number_8 rfl ?_
    refine z_iconst (z := 1) C dX7_number_9 rfl ?_
    refine z_aload_n C 0 dX7_number_10 rfl ?_
    refine z_get (v := .int (zI (a9dy1))) C (lt_K hN (rfl : Nat.blt (2) 952 = true)) hay2 hcdy1 rfl inA_X7 5 (by decide) q_49 rfl rfl dX7_number_11 ?_
    refine z_cV (As := [.int (zI (1)), .int (zI (a9dy1))]) (rest := []) (ci := 9) C (c_fFail l D A cs tt N ad _ (by omega) _ _ _ _ _ _ _ _ (by omega) hcdy1 (1) (a9dy1)) (lt_K hN (rfl : Nat.blt (2) 952 = true)) hay2 hcdy1 rfl rfl mv_yX7_fail q_809 hd_yX7_fail (by decide) (Nat.le_of_ble_eq_true rfl) (by decide) dX7_number_14 rfl (kV0 fun gvy24 hvy24 => ?_)
    obtain rfl := hvy24
    refine z_iconst (z := 0) C dX7_number_17 rfl ?_
    exact z_iret C hr hlk dX7_number_18 (by decide) (by decide) ⟨0, rfl, rfl, rfl, by omega, rfl⟩

set_option maxRecDepth 100000 in
set_option maxHeartbeats 4000000 in
theorem c_fKind (l : Launch) (D : va_G) (A : Nat → Prop) (cs : Nat → ClassId) (tt : Nat) (N : Nat) (ad : Nat → Nat) (g : Nat → va_E) (hN : 952 ≤ N) (co : Int) (tp : Nat → Int) (hR : okRun cs ad g co tp) (hco : 1 ≤ co) : zM l yX7_kind cX7_kind 2 (some .int) ({ frames := 6, cells := 0, slots := 0, locals := 360 } : Room) D A cs tt N ad g [.ref (ad 2)] (rI0 N ad fun r g' => (0 ≤ r ∧ r ≤ 4) ∧ g = g') := by
  obtain ⟨pldy1, endy1, tydy1, a9dy1, bedy1, tkdy1, tddy1, hAdy1, hTdy1, hcdy1, hddy1⟩ := id hR
  have hay2 : zAt ad (2) (ad 2) := rfl
  have hay3 : zAt ad (1) (ad 1) := rfl
  refine z_of (by decide) (Nat.le_of_ble_eq_true rfl) ?_
  intro p e s m below meth c C hr hlk hnm
  refine z_lv (lv' := [(0, .ref (ad 2))]) [0] rfl ?_
  refine z_iconst (z := 0) C dX7_kind_0 rfl ?_
  refine z_istore_n (lv' := [(1, .int (zI (0))), (0, .ref (ad 2))]) C dX7_kind_1 rfl (by decide) rfl ?_
  have lp : ∀ (n9 : Nat) (i : Int) (g1 : Nat → va_E), (5 - i).toNat = n9 → (g1 = g) → (0 ≤ i ∧ i ≤ 5) → zV p l e ({ frames := 6, cells := 0, slots := 0, locals := 360 } : Room) s m ([.ref (ad 2)] : List Value).toArray below meth c (MQ below (zPost D A (rI0 N ad fun r g' => (0 ≤ r ∧ r ≤ 4) ∧ g = g')) ([.ref (ad 2)] : List Value).toArray s ({ frames := 6, cells := 0, slots := 0, locals := 360 } : Room).cells ({ frames := 6, cells := 0, slots := 0, locals := 360 } : Room).slots A) D A 2 (N) ad g1 (0) (0) 2 [(1, .int (zI (i))), (0, .ref (ad 2))] [] := by
    intro n9
    induction n9 using Nat.strongRecOn with
    | ind n9 ih =>
      intro i g1 hm9 hg1 hi9
      subst hg1
      refine z_iload_n C 0 dX7_kind_2 rfl ?_
      refine z_iconst (z := 5) C dX7_kind_3 rfl ?_
      refine z_icmp_ge (tgt := 30) C dX7_kind_4 (by decide) (by omega) (by omega) (fun hby4 => ?_) (fun hby4 => ?_)
      · refine z_aload_n C 1 dX7_kind_30 rfl ?_
        refine z_iconst (z := 1) C dX7_kind_31 rfl ?_
        refine z_aload_n C 1 dX7_kind_32 rfl ?_
        refine z_get (v := .int (zI (a9dy1))) C (lt_K hN (rfl : Nat.blt (2) 952 = true)) hay2 hcdy1 rfl inA_X7 5 (by decide) q_49 rfl rfl dX7_kind_33 ?_
        refine z_cV (As := [.int (zI (1)), .int (zI (a9dy1))]) (rest := []) (ci := 9) C (c_fFail l D A cs tt N ad _ (by omega) _ _ _ _ _ _ _ _ (by omega) hcdy1 (1) (a9dy1)) (lt_K hN (rfl : Nat.blt (2) 952 = true)) hay2 hcdy1 rfl rfl mv_yX7_fail q_809 hd_yX7_fail (by decide) (Nat.le_of_ble_eq_true rfl) (by decide) dX7_kind_36 rfl (kV0 fun gvy5 hvy5 => ?_)
        obtain rfl := hvy5
        refine z_iconst (z := 0) C dX7_kind_39 rfl ?_
        exact z_iret C hr hlk dX7_kind_40 (by decide) (by decide) ⟨0, rfl, rfl, rfl, by omega, rfl⟩
      · refine z_aload_n C 1 dX7_kind_7 rfl ?_
        refine z_iload_n C 0 dX7_kind_8 rfl ?_
        refine z_cSN (As := [.int (zI (i))]) (rest := [.ref (ad 2)]) C (c_kindWord l D A cs tt N ad _ (i) (by omega)) ms_yX9_kindWord n_834 hd_yX9_kindWord (by decide) (Nat.le_of_ble_eq_true rfl) (by decide) dX7_kind_9 rfl (kR0 fun avy6 gvy6 hvy6 => ?_)
        obtain ⟨⟨qvy6, hqvy6, rfl⟩, rfl⟩ := hvy6
        have hruny7 : okRun cs ad g1 (co) tp := ⟨_, _, _, _, _, _, _, by omega, by omega, hcdy1, hddy1⟩
        refine z_cV (As := [.ref (cs (100 + qvy6.2.2.2.1))]) (rest := []) (ci := 9) C (c_X7_is l D A cs tt N ad _ (by omega) _ tp hruny7 _ hqvy6) (lt_K hN (rfl : Nat.blt (2) 952 = true)) hay2 hcdy1 rfl rfl mv_yX7_is q_754 hd_yX7_is (by decide) (Nat.le_of_ble_eq_true rfl) (by decide) dX7_kind_12 rfl (kI0 fun vy8 gvy8 hvy8 => ?_)
        obtain ⟨hvy8, rfl⟩ := hvy8
        refine z_if_eq (tgt := 24) C dX7_kind_15 (by decide) (by omega) (fun hby9 => ?_) (fun hby9 => ?_)
        · refine z_iinc (z := i + 1) (lv' := [(1, .int (zI (i + 1))), (0, .ref (ad 2))]) (j := 0) C dX7_kind_24 rfl rfl (by decide) rfl ?_
          refine z_goto (tgt := 2) C dX7_kind_27 (by decide) ?_
          refine z_lv (lv' := [(1, .int (zI (i + 1))), (0, .ref (ad 2))]) [0, 1] rfl ?_
          exact ih _ (by omega) (i + 1) _ rfl rfl (by omega)
        · refine z_aload_n C 1 dX7_kind_18 rfl ?_
          refine z_cV (As := []) (rest := []) (ci := 9) C (c_fTake l D A cs tt N ad _ (by omega) _ _ _ _ _ _ _ _ (by omega) hcdy1) (lt_K hN (rfl : Nat.blt (2) 952 = true)) hay2 hcdy1 rfl rfl mv_yX7_take q_813 hd_yX7_take (by decide) (Nat.le_of_ble_eq_true rfl) (by decide) dX7_kind_19 rfl (kV0 fun gvy10 hvy10 => ?_)
          obtain rfl := hvy10
          refine z_iload_n C 0 dX7_kind_22 rfl ?_
          exact z_iret C hr hlk dX7_kind_23 (by decide) (by decide) ⟨i, rfl, rfl, rfl, by omega, rfl⟩
  refine z_lv (lv' := [(1, .int (zI (0))), (0, .ref (ad 2))]) [0, 1] rfl ?_
  exact lp _ (0) _ rfl rfl (by omega)

set_option maxRecDepth 100000 in
set_option maxHeartbeats 4000000 in
theorem c_fFall (l : Launch) (D : va_G) (A : Nat → Prop) (cs : Nat → ClassId) (tt : Nat) (N : Nat) (ad : Nat → Nat) (g : Nat → va_E) (hN : 952 ≤ N) (co : Int) (tp : Nat → Int) (hR : okRun cs ad g co tp) (hco : 1 ≤ co) : zM l yX7_readFall cX7_readFall 2 (some .int) ({ frames := 6, cells := 0, slots := 0, locals := 360 } : Room) D A cs tt N ad g [.ref (ad 2)] (rI0 N ad fun r g' => (0 ≤ r ∧ r ≤ 3) ∧ g = g') := by
  obtain ⟨pldy1, endy1, tydy1, a9dy1, bedy1, tkdy1, tddy1, hAdy1, hTdy1, hcdy1, hddy1⟩ := id hR
  have hay2 : zAt ad (2) (ad 2) := rfl
  have hay3 : zAt ad (1) (ad 1) := rfl
  refine z_of (by decide) (Nat.le_of_ble_eq_true rfl) ?_
  intro p e s m below meth c C hr hlk hnm
  refine z_lv (lv' := [(0, .ref (ad 2))]) [0] rfl ?_
  refine z_aload_n C 0 dX7_readFall_0 rfl ?_
  refine z_ldcS C skm8 rfl rfl dX7_readFall_1 ?_
  have hruny4 : okRun cs ad g (co) tp := ⟨_, _, _, _, _, _, _, by omega, by omega, hcdy1, hddy1⟩
  refine z_cV (As := [.ref (cs (100 + 8))]) (rest := []) (ci := 9) C (c_X7_is l D A cs tt N ad _ (by omega) _ tp hruny4 _ skm8) (lt_K hN (rfl : Nat.blt (2) 952 = true)) hay2 hcdy1 rfl rfl mv_yX7_is q_754 hd_yX7_is (by decide) (Nat.le_of_ble_eq_true rfl) (by decide) dX7_readFall_3 rfl (kI0 fun vy5 gvy5 hvy5 => ?_)
  obtain ⟨hvy5, rfl⟩ := hvy5
  refine z_if_eq (tgt := 13) C dX7_readFall_6 (by decide) (by omega) (fun hby6 => ?_) (fun hby6 => ?_)
  · refine z_aload_n C 0 dX7_readFall_13 rfl ?_
    refine z_ldcS C skm9 rfl rfl dX7_readFall_14 ?_
    have hruny7 : okRun cs ad g (co) tp := ⟨_, _, _, _, _, _, _, by omega, by omega, hcdy1, hddy1⟩
    refine z_cV (As := [.ref (cs (100 + 9))]) (rest := []) (ci := 9) C (c_X7_is l D A cs tt N ad _ (by omega) _ tp hruny7 _ skm9) (lt_K hN (rfl : Nat.blt (2) 952 = true)) hay2 hcdy1 rfl rfl mv_yX7_is q_754 hd_yX7_is (by decide) (Nat.le_of_ble_eq_true rfl) (by decide) dX7_readFall_16 rfl (kI0 fun vy8 gvy8 hvy8 => ?_)
    obtain ⟨hvy8, rfl⟩ := hvy8
    refine z_if_eq (tgt := 26) C dX7_readFall_19 (by decide) (by omega) (fun hby9 => ?_) (fun hby9 => ?_)
    · refine z_aload_n C 0 dX7_readFall_26 rfl ?_
      refine z_ldcS C skm10 rfl rfl dX7_readFall_27 ?_
      have hruny10 : okRun cs ad g (co) tp := ⟨_, _, _, _, _, _, _, by omega, by omega, hcdy1, hddy1⟩
      refine z_cV (As := [.ref (cs (100 + 10))]) (rest := []) (ci := 9) C (c_X7_is l D A cs tt N ad _ (by omega) _ tp hruny10 _ skm10) (lt_K hN (rfl : Nat.blt (2) 952 = true)) hay2 hcdy1 rfl rfl mv_yX7_is q_754 hd_yX7_is (by decide) (Nat.le_of_ble_eq_true rfl) (by decide) dX7_readFall_29 rfl (kI0 fun vy11 gvy11 hvy11 => ?_)
      obtain ⟨hvy11, rfl⟩ := hvy11
      refine z_if_eq (tgt := 39) C dX7_readFall_32 (by decide) (by omega) (fun hby12 => ?_) (fun hby12 => ?_)
      · refine z_iconst (z := 0) C dX7_readFall_39 rfl ?_
        refine z_istore_n (lv' := [(1, .int (zI (0))), (0, .ref (ad 2))]) C dX7_readFall_40 rfl (by decide) rfl ?_
        refine z_iload_n C 0 dX7_readFall_41 rfl ?_
        refine z_if_eq (tgt := 49) C dX7_readFall_42 (by decide) (by omega) (fun _ => ?_) (fun h => absurd h (by omega))
        refine z_iload_n C 0 dX7_readFall_49 rfl ?_
        exact z_iret C hr hlk dX7_readFall_50 (by decide) (by decide) ⟨0, rfl, rfl, rfl, by omega, rfl⟩
      · refine z_iconst (z := 3) C dX7_readFall_35 rfl ?_
        refine z_goto (tgt := 40) C dX7_readFall_36 (by decide) ?_
        refine z_istore_n (lv' := [(1, .int (zI (3))), (0, .ref (ad 2))]) C dX7_readFall_40 rfl (by decide) rfl ?_
        refine z_iload_n C 0 dX7_readFall_41 rfl ?_
        refine z_if_eq (tgt := 49) C dX7_readFall_42 (by decide) (by omega) (fun h => absurd h (by omega)) (fun _ => ?_)
        refine z_aload_n C 1 dX7_readFall_45 rfl ?_
        refine z_cV (As := []) (rest := []) (ci := 9) C (c_fTake l D A cs tt N ad _ (by omega) _ _ _ _ _ _ _ _ (by omega) hcdy1) (lt_K hN (rfl : Nat.blt (2) 952 = true)) hay2 hcdy1 rfl rfl mv_yX7_take q_813 hd_yX7_take (by decide) (Nat.le_of_ble_eq_true rfl) (by decide) dX7_readFall_46 rfl (kV0 fun gvy13 hvy13 => ?_)
        obtain rfl := hvy13
        refine z_iload_n C 0 dX7_readFall_49 rfl ?_
        exact z_iret C hr hlk dX7_readFall_50 (by decide) (by decide) ⟨3, rfl, rfl, rfl, by omega, rfl⟩
    · refine z_iconst (z := 2) C dX7_readFall_22 rfl ?_
      refine z_goto (tgt := 40) C dX7_readFall_23 (by decide) ?_
      refine z_istore_n (lv' := [(1, .int (zI (2))), (0, .ref (ad 2))]) C dX7_readFall_40 rfl (by decide) rfl ?_
      refine z_iload_n C 0 dX7_readFall_41 rfl ?_
      refine z_if_eq (tgt := 49) C dX7_readFall_42 (by decide) (by omega) (fun h => absurd h (by omega)) (fun _ => ?_)
      refine z_aload_n C 1 dX7_readFall_45 rfl ?_
      refine z_cV (As := []) (rest := []) (ci := 9) C (c_fTake l D A cs tt N ad _ (by omega) _ _ _ _ _ _ _ _ (by omega) hcdy1) (lt_K hN (rfl : Nat.blt (2) 952 = true)) hay2 hcdy1 rfl rfl mv_yX7_take q_813 hd_yX7_take (by decide) (Nat.le_of_ble_eq_true rfl) (by decide) dX7_readFall_46 rfl (kV0 fun gvy14 hvy14 => ?_)
      obtain rfl := hvy14
      refine z_iload_n C 0 dX7_readFall_49 rfl ?_
      exact z_iret C hr hlk dX7_readFall_50 (by decide) (by decide) ⟨2, rfl, rfl, rfl, by omega, rfl⟩
  · refine z_iconst (z := 1) C dX7_readFall_9 rfl ?_
    refine z_goto (tgt := 40) C dX7_readFall_10 (by decide) ?_
    refine z_istore_n (lv' := [(1, .int (zI (1))), (0, .ref (ad 2))]) C dX7_readFall_40 rfl (by decide) rfl ?_
    refine z_iload_n C 0 dX7_readFall_41 rfl ?_
    refine z_if_eq (tgt := 49) C dX7_readFall_42 (by decide) (by omega) (fun h => absurd h (by omega)) (fun _ => ?_)
    refine z_aload_n C 1 dX7_readFall_45 rfl ?_
    refine z_cV (As := []) (rest := []) (ci := 9) C (c_fTake l D A cs tt N ad _ (by omega) _ _ _ _ _ _ _ _ (by omega) hcdy1) (lt_K hN (rfl : Nat.blt (2) 952 = true)) hay2 hcdy1 rfl rfl mv_yX7_take q_813 hd_yX7_take (by decide) (Nat.le_of_ble_eq_true rfl) (by decide) dX7_readFall_46 rfl (kV0 fun gvy15 hvy15 => ?_)
    obtain rfl := hvy15
    refine z_iload_n C 0 dX7_readFall_49 rfl ?_
    exact z_iret C hr hlk dX7_readFall_50 (by decide) (by decide) ⟨1, rfl, rfl, rfl, by omega, rfl⟩

