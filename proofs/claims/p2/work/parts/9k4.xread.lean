/-- the class's tape: the bytes of T, signed -/
def xT (tp T : Nat → Int) : Prop := ∀ k, k < 900 → (0 ≤ T k ∧ T k ≤ 255) ∧ (-128 ≤ tp k ∧ tp k ≤ 127) ∧ (tp k = T k ∨ tp k = T k - 256)
theorem xT.ty {tp T : Nat → Int} (h : xT tp T) {k : Nat} (hk : k < 900) : tk_ty (tp k) = tk_ty (T k) := by
  have h1 := h k hk
  have h2 := tk_ty_c (tp k)
  have h3 := tk_ty_c (T k)
  omega
theorem xT.bl {tp T : Nat → Int} (h : xT tp T) {k : Nat} (hk : k < 900) : tk_bl (T k) = true ↔ (tp k = 32 ∨ tp k = 10) := by
  have h1 := h k hk
  unfold tk_bl
  rw [decide_eq_true_eq]
  omega
theorem xT.nb {tp T : Nat → Int} (h : xT tp T) {k : Nat} (hk : k < 900) (hb : ¬ (tp k = 32 ∨ tp k = 10)) : tk_bl (T k) = false := Bool.eq_false_iff.mpr (fun e => hb ((h.bl hk).mp e))
theorem rdC_c {ad : Nat → Nat} {pl co en ty a9 be tk td ty' a9' be' : Int} (h1 : ty = ty') (h2 : a9 = a9') (h3 : be = be') : rdC ad pl co en ty a9 be tk td = rdC ad pl co en ty' a9' be' tk td := by rw [h1, h2, h3]
/-- the reader looks at the token f; its code co, its place pl -/
abbrev xRun (cs : Nat → ClassId) (ad : Nat → Nat) (g : Nat → va_E) (T : Nat → Int) (n f : Nat) (co pl tk td : Int) (tp : Nat → Int) : Prop := g 2 = rdC ad pl co (n : Int) (tk_so T n f) (f : Int) ((tk_to T n f : Nat) : Int) tk td ∧ g 1 = bA cs 900 tp

set_option maxRecDepth 100000 in
set_option maxHeartbeats 4000000 in
theorem c_xType (l : Launch) (D : va_G) (A : Nat → Prop) (cs : Nat → ClassId) (tt : Nat) (N : Nat) (ad : Nat → Nat) (g : Nat → va_E) (z : Int) (hz : -2147483648 ≤ z ∧ z ≤ 2147483647) : zM l yX7_typeOf cX7_typeOf 1 (some .int) ({ frames := 1, cells := 0, slots := 0, locals := 60 } : Room) D A cs tt N ad g [.int (zI (z))] (rI0 N ad fun r g' => r = tk_ty z ∧ g = g') := by
  refine z_of (by decide) (Nat.le_of_ble_eq_true rfl) ?_
  intro p e s m below meth c C hr hlk hnm
  refine z_lv (lv' := [(0, .int (zI (z)))]) [0] rfl ?_
  refine z_iload_n C 0 dX7_typeOf_0 rfl ?_
  refine z_bipush (z := 97) C dX7_typeOf_1 (by decide) ?_
  refine z_icmp_lt (tgt := 14) C dX7_typeOf_3 (by decide) (by omega) (by omega) (fun hby1 => ?_) (fun hby1 => ?_)
  · refine z_iload_n C 0 dX7_typeOf_14 rfl ?_
    refine z_bipush (z := 48) C dX7_typeOf_15 (by decide) ?_
    refine z_icmp_lt (tgt := 28) C dX7_typeOf_17 (by decide) (by omega) (by omega) (fun hby2 => ?_) (fun hby2 => ?_)
    · refine z_iload_n C 0 dX7_typeOf_28 rfl ?_
      refine z_bipush (z := 59) C dX7_typeOf_29 (by decide) ?_
      refine z_icmp_ne (tgt := 38) C dX7_typeOf_31 (by decide) (by omega) (by omega) (fun hby3 => ?_) (fun hby3 => ?_)
      · refine z_iload_n C 0 dX7_typeOf_38 rfl ?_
        refine z_bipush (z := 45) C dX7_typeOf_39 (by decide) ?_
        refine z_icmp_ne (tgt := 48) C dX7_typeOf_41 (by decide) (by omega) (by omega) (fun hby4 => ?_) (fun hby4 => ?_)
        · refine z_iconst (z := 5) C dX7_typeOf_48 rfl ?_
          have hty := tk_ty_c z
          exact z_iret C hr hlk dX7_typeOf_49 (by decide) (by decide) ⟨5, rfl, rfl, rfl, by omega, rfl⟩
        · refine z_iconst (z := 4) C dX7_typeOf_44 rfl ?_
          refine z_goto (tgt := 49) C dX7_typeOf_45 (by decide) ?_
          have hty := tk_ty_c z
          exact z_iret C hr hlk dX7_typeOf_49 (by decide) (by decide) ⟨4, rfl, rfl, rfl, by omega, rfl⟩
      · refine z_iconst (z := 3) C dX7_typeOf_34 rfl ?_
        refine z_goto (tgt := 49) C dX7_typeOf_35 (by decide) ?_
        have hty := tk_ty_c z
        exact z_iret C hr hlk dX7_typeOf_49 (by decide) (by decide) ⟨3, rfl, rfl, rfl, by omega, rfl⟩
    · refine z_iload_n C 0 dX7_typeOf_20 rfl ?_
      refine z_bipush (z := 57) C dX7_typeOf_21 (by decide) ?_
      refine z_icmp_gt (tgt := 28) C dX7_typeOf_23 (by decide) (by omega) (by omega) (fun hby5 => ?_) (fun hby5 => ?_)
      · refine z_iload_n C 0 dX7_typeOf_28 rfl ?_
        refine z_bipush (z := 59) C dX7_typeOf_29 (by decide) ?_
        refine z_icmp_ne (tgt := 38) C dX7_typeOf_31 (by decide) (by omega) (by omega) (fun hby6 => ?_) (fun hby6 => ?_)
        · refine z_iload_n C 0 dX7_typeOf_38 rfl ?_
          refine z_bipush (z := 45) C dX7_typeOf_39 (by decide) ?_
          refine z_icmp_ne (tgt := 48) C dX7_typeOf_41 (by decide) (by omega) (by omega) (fun hby7 => ?_) (fun hby7 => ?_)
          · refine z_iconst (z := 5) C dX7_typeOf_48 rfl ?_
            have hty := tk_ty_c z
            exact z_iret C hr hlk dX7_typeOf_49 (by decide) (by decide) ⟨5, rfl, rfl, rfl, by omega, rfl⟩
          · refine z_iconst (z := 4) C dX7_typeOf_44 rfl ?_
            refine z_goto (tgt := 49) C dX7_typeOf_45 (by decide) ?_
            have hty := tk_ty_c z
            exact z_iret C hr hlk dX7_typeOf_49 (by decide) (by decide) ⟨4, rfl, rfl, rfl, by omega, rfl⟩
        · refine z_iconst (z := 3) C dX7_typeOf_34 rfl ?_
          refine z_goto (tgt := 49) C dX7_typeOf_35 (by decide) ?_
          have hty := tk_ty_c z
          exact z_iret C hr hlk dX7_typeOf_49 (by decide) (by decide) ⟨3, rfl, rfl, rfl, by omega, rfl⟩
      · refine z_iconst (z := 2) C dX7_typeOf_26 rfl ?_
        have hty := tk_ty_c z
        exact z_iret C hr hlk dX7_typeOf_27 (by decide) (by decide) ⟨2, rfl, rfl, rfl, by omega, rfl⟩
  · refine z_iload_n C 0 dX7_typeOf_6 rfl ?_
    refine z_bipush (z := 122) C dX7_typeOf_7 (by decide) ?_
    refine z_icmp_gt (tgt := 14) C dX7_typeOf_9 (by decide) (by omega) (by omega) (fun hby8 => ?_) (fun hby8 => ?_)
    · refine z_iload_n C 0 dX7_typeOf_14 rfl ?_
      refine z_bipush (z := 48) C dX7_typeOf_15 (by decide) ?_
      refine z_icmp_lt (tgt := 28) C dX7_typeOf_17 (by decide) (by omega) (by omega) (fun hby9 => ?_) (fun hby9 => ?_)
      · refine z_iload_n C 0 dX7_typeOf_28 rfl ?_
        refine z_bipush (z := 59) C dX7_typeOf_29 (by decide) ?_
        refine z_icmp_ne (tgt := 38) C dX7_typeOf_31 (by decide) (by omega) (by omega) (fun hby10 => ?_) (fun hby10 => ?_)
        · refine z_iload_n C 0 dX7_typeOf_38 rfl ?_
          refine z_bipush (z := 45) C dX7_typeOf_39 (by decide) ?_
          refine z_icmp_ne (tgt := 48) C dX7_typeOf_41 (by decide) (by omega) (by omega) (fun hby11 => ?_) (fun hby11 => ?_)
          · refine z_iconst (z := 5) C dX7_typeOf_48 rfl ?_
            have hty := tk_ty_c z
            exact z_iret C hr hlk dX7_typeOf_49 (by decide) (by decide) ⟨5, rfl, rfl, rfl, by omega, rfl⟩
          · refine z_iconst (z := 4) C dX7_typeOf_44 rfl ?_
            refine z_goto (tgt := 49) C dX7_typeOf_45 (by decide) ?_
            have hty := tk_ty_c z
            exact z_iret C hr hlk dX7_typeOf_49 (by decide) (by decide) ⟨4, rfl, rfl, rfl, by omega, rfl⟩
        · refine z_iconst (z := 3) C dX7_typeOf_34 rfl ?_
          refine z_goto (tgt := 49) C dX7_typeOf_35 (by decide) ?_
          have hty := tk_ty_c z
          exact z_iret C hr hlk dX7_typeOf_49 (by decide) (by decide) ⟨3, rfl, rfl, rfl, by omega, rfl⟩
      · refine z_iload_n C 0 dX7_typeOf_20 rfl ?_
        refine z_bipush (z := 57) C dX7_typeOf_21 (by decide) ?_
        refine z_icmp_gt (tgt := 28) C dX7_typeOf_23 (by decide) (by omega) (by omega) (fun hby12 => ?_) (fun hby12 => ?_)
        · refine z_iload_n C 0 dX7_typeOf_28 rfl ?_
          refine z_bipush (z := 59) C dX7_typeOf_29 (by decide) ?_
          refine z_icmp_ne (tgt := 38) C dX7_typeOf_31 (by decide) (by omega) (by omega) (fun hby13 => ?_) (fun hby13 => ?_)
          · refine z_iload_n C 0 dX7_typeOf_38 rfl ?_
            refine z_bipush (z := 45) C dX7_typeOf_39 (by decide) ?_
            refine z_icmp_ne (tgt := 48) C dX7_typeOf_41 (by decide) (by omega) (by omega) (fun hby14 => ?_) (fun hby14 => ?_)
            · refine z_iconst (z := 5) C dX7_typeOf_48 rfl ?_
              have hty := tk_ty_c z
              exact z_iret C hr hlk dX7_typeOf_49 (by decide) (by decide) ⟨5, rfl, rfl, rfl, by omega, rfl⟩
            · refine z_iconst (z := 4) C dX7_typeOf_44 rfl ?_
              refine z_goto (tgt := 49) C dX7_typeOf_45 (by decide) ?_
              have hty := tk_ty_c z
              exact z_iret C hr hlk dX7_typeOf_49 (by decide) (by decide) ⟨4, rfl, rfl, rfl, by omega, rfl⟩
          · refine z_iconst (z := 3) C dX7_typeOf_34 rfl ?_
            refine z_goto (tgt := 49) C dX7_typeOf_35 (by decide) ?_
            have hty := tk_ty_c z
            exact z_iret C hr hlk dX7_typeOf_49 (by decide) (by decide) ⟨3, rfl, rfl, rfl, by omega, rfl⟩
        · refine z_iconst (z := 2) C dX7_typeOf_26 rfl ?_
          have hty := tk_ty_c z
          exact z_iret C hr hlk dX7_typeOf_27 (by decide) (by decide) ⟨2, rfl, rfl, rfl, by omega, rfl⟩
    · refine z_iconst (z := 1) C dX7_typeOf_12 rfl ?_
      have hty := tk_ty_c z
      exact z_iret C hr hlk dX7_typeOf_13 (by decide) (by decide) ⟨1, rfl, rfl, rfl, by omega, rfl⟩

set_option maxRecDepth 100000 in
set_option maxHeartbeats 4000000 in
theorem c_xPeek (l : Launch) (D : va_G) (A : Nat → Prop) (cs : Nat → ClassId) (tt : Nat) (N : Nat) (ad : Nat → Nat) (g : Nat → va_E) (hN : 952 ≤ N) (pl co ty a9 tk td : Int) (tp T : Nat → Int) (hT : xT tp T) (n : Nat) (hn : n ≤ 900) (q0 : Nat) (hp : q0 ≤ n) (hg2 : g 2 = rdC ad (pl) (co) ((n : Int)) (ty) (a9) ((q0 : Int)) (tk) (td)) (hg1 : g 1 = bA cs 900 tp) : zM l yX7_peek cX7_peek 1 none ({ frames := 2, cells := 0, slots := 0, locals := 120 } : Room) D A cs tt N ad g [.ref (ad 2)] (rV0 N ad fun g' => g' 2 = rdC ad pl co (n : Int) (tk_so T n (tk_at T n q0)) ((tk_at T n q0 : Nat) : Int) ((tk_to T n (tk_at T n q0) : Nat) : Int) tk td ∧ ∀ j, j ≠ 2 → g' j = g j) := by
  have hay1 : zAt ad (2) (ad 2) := rfl
  have hay2 : zAt ad (1) (ad 1) := rfl
  have hTr : ∀ k, k < 900 → -128 ≤ tp k ∧ tp k ≤ 127 := fun k hk => (hT k hk).2.1
  refine z_of (by decide) (Nat.le_of_ble_eq_true rfl) ?_
  intro p e s m below meth c C hr hlk hnm
  refine z_lv (lv' := [(0, .ref (ad 2))]) [0] rfl ?_
  refine z_aload_n C 0 dX7_peek_0 rfl ?_
  refine z_aload_n C 0 dX7_peek_1 rfl ?_
  refine z_get (v := .int (zI ((q0 : Int)))) C (by omega) hay1 hg2 rfl inA_X7 6 (by decide) q_50 rfl rfl dX7_peek_2 ?_
  refine z_put (fs' := [.int (zI (pl)), .int (zI (co)), .ref (ad 1), .int (zI ((n : Int))), .int (zI (ty)), .int (zI ((q0 : Int))), .int (zI ((q0 : Int))), .int (zI (tk)), .int (zI (td))]) C (by omega) hay1 hg2 tyX7 tyX7_ok nmX7 rfl inA_X7 5 (by decide) q_49 rfl rfl rfl rfl (Nat.le_of_ble_eq_true rfl) rfl dX7_peek_5 (fun gy3 egy4 => ?_)
  have hgy5 := up_s egy4
  have lp8 : ∀ (n9 : Nat) (a8 : Int) (na : Nat) (g1 : Nat → va_E), ((n : Int) - a8).toNat = n9 → (g1 2 = rdC ad (pl) (co) ((n : Int)) (ty) (a8) ((q0 : Int)) (tk) (td)) → (∀ j, j ≠ 2 → g1 j = g j) → (a8 = (na : Int)) → (q0 ≤ na ∧ na ≤ n) → (tk_at T n na = tk_at T n q0) → zV p l e ({ frames := 2, cells := 0, slots := 0, locals := 120 } : Room) s m ([.ref (ad 2)] : List Value).toArray below meth c (MQ below (zPost D A (rV0 N ad fun g' => g' 2 = rdC ad pl co (n : Int) (tk_so T n (tk_at T n q0)) ((tk_at T n q0 : Nat) : Int) ((tk_to T n (tk_at T n q0) : Nat) : Int) tk td ∧ ∀ j, j ≠ 2 → g' j = g j)) ([.ref (ad 2)] : List Value).toArray s ({ frames := 2, cells := 0, slots := 0, locals := 120 } : Room).cells ({ frames := 2, cells := 0, slots := 0, locals := 120 } : Room).slots A) D A 1 (N) ad g1 (0) (0) 8 [(0, .ref (ad 2))] [] := by
    intro n9
    induction n9 using Nat.strongRecOn with
    | ind n9 ih_lp8 =>
      intro a8 na g1 hm9 f1 f3 h1 h2 hi
      have hay6 : zAt ad (2) (ad 2) := rfl
      have hay7 : zAt ad (1) (ad 1) := rfl
      refine z_aload_n C 0 dX7_peek_8 rfl ?_
      refine z_get (v := .int (zI (a8))) C (by omega) hay6 f1 rfl inA_X7 5 (by decide) q_49 rfl rfl dX7_peek_9 ?_
      refine z_aload_n C 0 dX7_peek_12 rfl ?_
      refine z_get (v := .int (zI ((n : Int)))) C (by omega) hay6 f1 rfl inA_X7 3 (by decide) q_47 rfl rfl dX7_peek_13 ?_
      refine z_icmp_ge (tgt := 60) C dX7_peek_16 (by decide) (by omega) (by omega) (fun hby8 => ?_) (fun hby8 => ?_)
      · refine z_aload_n C 0 dX7_peek_60 rfl ?_
        refine z_aload_n C 0 dX7_peek_61 rfl ?_
        refine z_get (v := .int (zI (a8))) C (by omega) hay6 f1 rfl inA_X7 5 (by decide) q_49 rfl rfl dX7_peek_62 ?_
        refine z_aload_n C 0 dX7_peek_65 rfl ?_
        refine z_get (v := .int (zI ((n : Int)))) C (by omega) hay6 f1 rfl inA_X7 3 (by decide) q_47 rfl rfl dX7_peek_66 ?_
        refine z_icmp_ge (tgt := 87) C dX7_peek_69 (by decide) (by omega) (by omega) (fun hby9 => ?_) (fun hby9 => ?_)
        · refine z_iconst (z := 0) C dX7_peek_87 rfl ?_
          refine z_put (fs' := [.int (zI (pl)), .int (zI (co)), .ref (ad 1), .int (zI ((n : Int))), .int (zI (0)), .int (zI (a8)), .int (zI ((q0 : Int))), .int (zI (tk)), .int (zI (td))]) C (by omega) hay6 f1 tyX7 tyX7_ok nmX7 rfl inA_X7 4 (by decide) q_48 rfl rfl rfl rfl (Nat.le_of_ble_eq_true rfl) rfl dX7_peek_88 (fun gy10 egy11 => ?_)
          have hgy12 := up_s egy11
          refine z_aload_n C 0 dX7_peek_91 rfl ?_
          refine z_aload_n C 0 dX7_peek_92 rfl ?_
          refine z_get (v := .int (zI (a8))) C (by omega) hay6 hgy12 rfl inA_X7 5 (by decide) q_49 rfl rfl dX7_peek_93 ?_
          refine z_aload_n C 0 dX7_peek_96 rfl ?_
          refine z_get (v := .int (zI ((n : Int)))) C (by omega) hay6 hgy12 rfl inA_X7 3 (by decide) q_47 rfl rfl dX7_peek_97 ?_
          refine z_icmp_ge (tgt := 112) C dX7_peek_100 (by decide) (by omega) (by omega) (fun hby13 => ?_) (fun hby13 => ?_)
          · refine z_aload_n C 0 dX7_peek_112 rfl ?_
            refine z_get (v := .int (zI ((n : Int)))) C (by omega) hay6 hgy12 rfl inA_X7 3 (by decide) q_47 rfl rfl dX7_peek_113 ?_
            refine z_put (fs' := [.int (zI (pl)), .int (zI (co)), .ref (ad 1), .int (zI ((n : Int))), .int (zI (0)), .int (zI (a8)), .int (zI ((n : Int))), .int (zI (tk)), .int (zI (td))]) C (by omega) hay6 hgy12 tyX7 tyX7_ok nmX7 rfl inA_X7 6 (by decide) q_50 rfl rfl rfl rfl (Nat.le_of_ble_eq_true rfl) rfl dX7_peek_116 (fun gy14 egy15 => ?_)
            have hgy16 := up_s egy15
            refine z_aload_n C 0 dX7_peek_119 rfl ?_
            refine z_get (v := .int (zI (0))) C (by omega) hay6 hgy16 rfl inA_X7 4 (by decide) q_48 rfl rfl dX7_peek_120 ?_
            refine z_iconst (z := 1) C dX7_peek_123 rfl ?_
            refine z_icmp_eq (tgt := 135) C dX7_peek_124 (by decide) (by omega) (by omega) (fun h => absurd h (by omega)) (fun _ => ?_)
            refine z_aload_n C 0 dX7_peek_127 rfl ?_
            refine z_get (v := .int (zI (0))) C (by omega) hay6 hgy16 rfl inA_X7 4 (by decide) q_48 rfl rfl dX7_peek_128 ?_
            refine z_iconst (z := 2) C dX7_peek_131 rfl ?_
            refine z_icmp_ne (tgt := 178) C dX7_peek_132 (by decide) (by omega) (by omega) (fun _ => ?_) (fun h => absurd h (by omega))
            have hf : tk_at T n q0 = na := hi.symm.trans (tk_rn_end (by first | exact Or.inl (by omega) | exact Or.inr (hT.nb (by omega) (by omega))))
            have eX : (0 : Int) = tk_so T n (tk_at T n q0) := by
              rw [hf]; unfold tk_so
              first | (exfalso; omega) | (rw [if_pos (by omega)]; done) | (rw [if_neg (by omega)]; omega)
            have eY : (a8 : Int) = ((tk_at T n q0 : Nat) : Int) := by rw [hf]; omega
            have eZ : ((n : Int) : Int) = ((tk_to T n (tk_at T n q0) : Nat) : Int) := by
              rw [hf]; unfold tk_to
              first | (exfalso; omega) | (rw [if_pos (by omega)]; omega) | (rw [if_neg (by omega), if_neg (by omega)]; omega)
            exact z_vret C hr hlk dX7_peek_178 (by decide) (by decide) ⟨rfl, rfl, rfl, (hgy16).trans (rdC_c eX eY eZ), fun j j1 => by rw [egy15, va_up_ne _ _ (by omega)]; rw [egy11, va_up_ne _ _ (by omega)]; exact f3 j j1⟩
          · refine z_aload_n C 0 dX7_peek_103 rfl ?_
            refine z_get (v := .int (zI (a8))) C (by omega) hay6 hgy12 rfl inA_X7 5 (by decide) q_49 rfl rfl dX7_peek_104 ?_
            refine z_iconst (z := 1) C dX7_peek_107 rfl ?_
            refine z_iadd C dX7_peek_108 ?_
            refine z_goto (tgt := 116) C dX7_peek_109 (by decide) ?_
            refine z_put (fs' := [.int (zI (pl)), .int (zI (co)), .ref (ad 1), .int (zI ((n : Int))), .int (zI (0)), .int (zI (a8)), .int (zI (a8 + 1)), .int (zI (tk)), .int (zI (td))]) C (by omega) hay6 hgy12 tyX7 tyX7_ok nmX7 rfl inA_X7 6 (by decide) q_50 rfl rfl rfl rfl (Nat.le_of_ble_eq_true rfl) rfl dX7_peek_116 (fun gy17 egy18 => ?_)
            have hgy19 := up_s egy18
            refine z_aload_n C 0 dX7_peek_119 rfl ?_
            refine z_get (v := .int (zI (0))) C (by omega) hay6 hgy19 rfl inA_X7 4 (by decide) q_48 rfl rfl dX7_peek_120 ?_
            refine z_iconst (z := 1) C dX7_peek_123 rfl ?_
            refine z_icmp_eq (tgt := 135) C dX7_peek_124 (by decide) (by omega) (by omega) (fun h => absurd h (by omega)) (fun _ => ?_)
            refine z_aload_n C 0 dX7_peek_127 rfl ?_
            refine z_get (v := .int (zI (0))) C (by omega) hay6 hgy19 rfl inA_X7 4 (by decide) q_48 rfl rfl dX7_peek_128 ?_
            refine z_iconst (z := 2) C dX7_peek_131 rfl ?_
            refine z_icmp_ne (tgt := 178) C dX7_peek_132 (by decide) (by omega) (by omega) (fun _ => ?_) (fun h => absurd h (by omega))
            have hf : tk_at T n q0 = na := hi.symm.trans (tk_rn_end (by first | exact Or.inl (by omega) | exact Or.inr (hT.nb (by omega) (by omega))))
            have eX : (0 : Int) = tk_so T n (tk_at T n q0) := by
              rw [hf]; unfold tk_so
              first | (exfalso; omega) | (rw [if_pos (by omega)]; done) | (rw [if_neg (by omega)]; omega)
            have eY : (a8 : Int) = ((tk_at T n q0 : Nat) : Int) := by rw [hf]; omega
            have eZ : (a8 + 1 : Int) = ((tk_to T n (tk_at T n q0) : Nat) : Int) := by
              rw [hf]; unfold tk_to
              first | (exfalso; omega) | (rw [if_pos (by omega)]; omega) | (rw [if_neg (by omega), if_neg (by omega)]; omega)
            exact z_vret C hr hlk dX7_peek_178 (by decide) (by decide) ⟨rfl, rfl, rfl, (hgy19).trans (rdC_c eX eY eZ), fun j j1 => by rw [egy18, va_up_ne _ _ (by omega)]; rw [egy11, va_up_ne _ _ (by omega)]; exact f3 j j1⟩
        · refine z_aload_n C 0 dX7_peek_72 rfl ?_
          refine z_get (v := .ref (ad 1)) C (by omega) hay6 f1 rfl inA_X7 2 (by decide) q_46 rfl rfl dX7_peek_73 ?_
          refine z_aload_n C 0 dX7_peek_76 rfl ?_
          refine z_get (v := .int (zI (a8))) C (by omega) hay6 f1 rfl inA_X7 5 (by decide) q_49 rfl rfl dX7_peek_77 ?_
          refine z_bald C (by omega) hay7 ((f3 _ (by omega)).trans hg1) (na) (by omega) (by omega) (by decide) dX7_peek_80 ?_
          have hrfy20 := hTr (na) (by omega)
          refine z_cS (As := [.int (zI (tp (na)))]) (rest := [.ref (ad 2)]) C (c_xType l D A cs tt N ad _ (tp (na)) (by omega)) ms_yX7_typeOf q_746 hd_yX7_typeOf (by decide) (Nat.le_of_ble_eq_true rfl) (by decide) dX7_peek_81 rfl (kI0 fun vy21 gvy21 hvy21 => ?_)
          obtain ⟨hvy21, rfl⟩ := hvy21
          rw [hT.ty (k := na) (by omega)] at hvy21
          have hbvy21 := tk_ty_c (T (na))
          have hqvy21 : 1 ≤ vy21 ∧ vy21 ≤ 5 := by omega
          clear hbvy21
          refine z_goto (tgt := 88) C dX7_peek_84 (by decide) ?_
          refine z_put (fs' := [.int (zI (pl)), .int (zI (co)), .ref (ad 1), .int (zI ((n : Int))), .int (zI (vy21)), .int (zI (a8)), .int (zI ((q0 : Int))), .int (zI (tk)), .int (zI (td))]) C (by omega) hay6 f1 tyX7 tyX7_ok nmX7 rfl inA_X7 4 (by decide) q_48 rfl rfl rfl rfl (Nat.le_of_ble_eq_true rfl) rfl dX7_peek_88 (fun gy22 egy23 => ?_)
          have hgy24 := up_s egy23
          refine z_aload_n C 0 dX7_peek_91 rfl ?_
          refine z_aload_n C 0 dX7_peek_92 rfl ?_
          refine z_get (v := .int (zI (a8))) C (by omega) hay6 hgy24 rfl inA_X7 5 (by decide) q_49 rfl rfl dX7_peek_93 ?_
          refine z_aload_n C 0 dX7_peek_96 rfl ?_
          refine z_get (v := .int (zI ((n : Int)))) C (by omega) hay6 hgy24 rfl inA_X7 3 (by decide) q_47 rfl rfl dX7_peek_97 ?_
          refine z_icmp_ge (tgt := 112) C dX7_peek_100 (by decide) (by omega) (by omega) (fun hby25 => ?_) (fun hby25 => ?_)
          · refine z_aload_n C 0 dX7_peek_112 rfl ?_
            refine z_get (v := .int (zI ((n : Int)))) C (by omega) hay6 hgy24 rfl inA_X7 3 (by decide) q_47 rfl rfl dX7_peek_113 ?_
            refine z_put (fs' := [.int (zI (pl)), .int (zI (co)), .ref (ad 1), .int (zI ((n : Int))), .int (zI (vy21)), .int (zI (a8)), .int (zI ((n : Int))), .int (zI (tk)), .int (zI (td))]) C (by omega) hay6 hgy24 tyX7 tyX7_ok nmX7 rfl inA_X7 6 (by decide) q_50 rfl rfl rfl rfl (Nat.le_of_ble_eq_true rfl) rfl dX7_peek_116 (fun gy26 egy27 => ?_)
            have hgy28 := up_s egy27
            refine z_aload_n C 0 dX7_peek_119 rfl ?_
            refine z_get (v := .int (zI (vy21))) C (by omega) hay6 hgy28 rfl inA_X7 4 (by decide) q_48 rfl rfl dX7_peek_120 ?_
            refine z_iconst (z := 1) C dX7_peek_123 rfl ?_
            refine z_icmp_eq (tgt := 135) C dX7_peek_124 (by decide) (by omega) (by omega) (fun hby29 => ?_) (fun hby29 => ?_)
            · have lp135 : ∀ (n9 : Nat) (b8 : Int) (t8 : Int) (a7 : Int) (nb : Nat) (na : Nat) (g1 : Nat → va_E), ((n : Int) - b8).toNat = n9 → (g1 2 = rdC ad (pl) (co) ((n : Int)) (t8) (a7) (b8) (tk) (td)) → (∀ j, j ≠ 2 → g1 j = g j) → (a7 = (na : Int) ∧ b8 = (nb : Int)) → (na < n ∧ na < nb ∧ nb ≤ n) → (t8 = tk_ty (T na)) → (t8 = 1 ∨ t8 = 2) → (tk_at T n q0 = na) → (tk_rn (fun c => decide (tk_ty c = tk_ty (T na))) T n nb = tk_rn (fun c => decide (tk_ty c = tk_ty (T na))) T n (na + 1)) → zV p l e ({ frames := 2, cells := 0, slots := 0, locals := 120 } : Room) s m ([.ref (ad 2)] : List Value).toArray below meth c (MQ below (zPost D A (rV0 N ad fun g' => g' 2 = rdC ad pl co (n : Int) (tk_so T n (tk_at T n q0)) ((tk_at T n q0 : Nat) : Int) ((tk_to T n (tk_at T n q0) : Nat) : Int) tk td ∧ ∀ j, j ≠ 2 → g' j = g j)) ([.ref (ad 2)] : List Value).toArray s ({ frames := 2, cells := 0, slots := 0, locals := 120 } : Room).cells ({ frames := 2, cells := 0, slots := 0, locals := 120 } : Room).slots A) D A 1 (N) ad g1 (0) (0) 135 [(0, .ref (ad 2))] [] := by
                intro n9
                induction n9 using Nat.strongRecOn with
                | ind n9 ih_lp135 =>
                  intro b8 t8 a7 nb na g1 hm9 f1 f3 h1 h2 h3 h4 hf hi2
                  have hay30 : zAt ad (2) (ad 2) := rfl
                  have hay31 : zAt ad (1) (ad 1) := rfl
                  refine z_aload_n C 0 dX7_peek_135 rfl ?_
                  refine z_get (v := .int (zI (b8))) C (by omega) hay30 f1 rfl inA_X7 6 (by decide) q_50 rfl rfl dX7_peek_136 ?_
                  refine z_aload_n C 0 dX7_peek_139 rfl ?_
                  refine z_get (v := .int (zI ((n : Int)))) C (by omega) hay30 f1 rfl inA_X7 3 (by decide) q_47 rfl rfl dX7_peek_140 ?_
                  refine z_icmp_ge (tgt := 178) C dX7_peek_143 (by decide) (by omega) (by omega) (fun hby32 => ?_) (fun hby32 => ?_)
                  · have eX : (t8 : Int) = tk_so T n (tk_at T n q0) := by
                      rw [hf]; unfold tk_so
                      first | (exfalso; omega) | (rw [if_pos (by omega)]; done) | (rw [if_neg (by omega)]; omega)
                    have eY : (a7 : Int) = ((tk_at T n q0 : Nat) : Int) := by rw [hf]; omega
                    have eZ : (b8 : Int) = ((tk_to T n (tk_at T n q0) : Nat) : Int) := by
                      rw [hf]; unfold tk_to
                      rw [if_neg (by omega), if_pos (by omega), ← hi2, tk_rn_end (by first | exact Or.inl (by omega) | exact Or.inr (decide_eq_false (by omega)))]; omega
                    exact z_vret C hr hlk dX7_peek_178 (by decide) (by decide) ⟨rfl, rfl, rfl, (f1).trans (rdC_c eX eY eZ), fun j j1 => by exact f3 j j1⟩
                  · refine z_aload_n C 0 dX7_peek_146 rfl ?_
                    refine z_get (v := .ref (ad 1)) C (by omega) hay30 f1 rfl inA_X7 2 (by decide) q_46 rfl rfl dX7_peek_147 ?_
                    refine z_aload_n C 0 dX7_peek_150 rfl ?_
                    refine z_get (v := .int (zI (b8))) C (by omega) hay30 f1 rfl inA_X7 6 (by decide) q_50 rfl rfl dX7_peek_151 ?_
                    refine z_bald C (by omega) hay31 ((f3 _ (by omega)).trans hg1) (nb) (by omega) (by omega) (by decide) dX7_peek_154 ?_
                    have hrfy33 := hTr (nb) (by omega)
                    refine z_cS (As := [.int (zI (tp (nb)))]) (rest := []) C (c_xType l D A cs tt N ad _ (tp (nb)) (by omega)) ms_yX7_typeOf q_746 hd_yX7_typeOf (by decide) (Nat.le_of_ble_eq_true rfl) (by decide) dX7_peek_155 rfl (kI0 fun vy34 gvy34 hvy34 => ?_)
                    obtain ⟨hvy34, rfl⟩ := hvy34
                    rw [hT.ty (k := nb) (by omega)] at hvy34
                    have hbvy34 := tk_ty_c (T (nb))
                    have hqvy34 : 1 ≤ vy34 ∧ vy34 ≤ 5 := by omega
                    clear hbvy34
                    refine z_aload_n C 0 dX7_peek_158 rfl ?_
                    refine z_get (v := .int (zI (t8))) C (by omega) hay30 f1 rfl inA_X7 4 (by decide) q_48 rfl rfl dX7_peek_159 ?_
                    refine z_icmp_ne (tgt := 178) C dX7_peek_162 (by decide) (by omega) (by omega) (fun hby35 => ?_) (fun hby35 => ?_)
                    · have eX : (t8 : Int) = tk_so T n (tk_at T n q0) := by
                        rw [hf]; unfold tk_so
                        first | (exfalso; omega) | (rw [if_pos (by omega)]; done) | (rw [if_neg (by omega)]; omega)
                      have eY : (a7 : Int) = ((tk_at T n q0 : Nat) : Int) := by rw [hf]; omega
                      have eZ : (b8 : Int) = ((tk_to T n (tk_at T n q0) : Nat) : Int) := by
                        rw [hf]; unfold tk_to
                        rw [if_neg (by omega), if_pos (by omega), ← hi2, tk_rn_end (by first | exact Or.inl (by omega) | exact Or.inr (decide_eq_false (by omega)))]; omega
                      exact z_vret C hr hlk dX7_peek_178 (by decide) (by decide) ⟨rfl, rfl, rfl, (f1).trans (rdC_c eX eY eZ), fun j j1 => by exact f3 j j1⟩
                    · refine z_aload_n C 0 dX7_peek_165 rfl ?_
                      refine z_dup C dX7_peek_166 rfl ?_
                      refine z_get (v := .int (zI (b8))) C (by omega) hay30 f1 rfl inA_X7 6 (by decide) q_50 rfl rfl dX7_peek_167 ?_
                      refine z_iconst (z := 1) C dX7_peek_170 rfl ?_
                      refine z_iadd C dX7_peek_171 ?_
                      refine z_put (fs' := [.int (zI (pl)), .int (zI (co)), .ref (ad 1), .int (zI ((n : Int))), .int (zI (t8)), .int (zI (a7)), .int (zI (b8 + 1)), .int (zI (tk)), .int (zI (td))]) C (by omega) hay30 f1 tyX7 tyX7_ok nmX7 rfl inA_X7 6 (by decide) q_50 rfl rfl rfl rfl (Nat.le_of_ble_eq_true rfl) rfl dX7_peek_172 (fun gy36 egy37 => ?_)
                      have hgy38 := up_s egy37
                      refine z_goto (tgt := 135) C dX7_peek_175 (by decide) ?_
                      refine z_lv (lv' := [(0, .ref (ad 2))]) [0] rfl ?_
                      exact ih_lp135 _ (by omega) (b8 + 1) (t8) (a7) (nb + 1) na gy36 rfl hgy38 (fun j j1 => by rw [egy37, va_up_ne _ _ (by omega)]; exact f3 j j1) (by omega) (by omega) (by omega) (by omega) hf ((tk_rn_go (by omega) (decide_eq_true (by omega))).symm.trans hi2)
              refine z_lv (lv' := [(0, .ref (ad 2))]) [0] rfl ?_
              have hf : tk_at T n q0 = na := hi.symm.trans (tk_rn_end (by first | exact Or.inl (by omega) | exact Or.inr (hT.nb (by omega) (by omega))))
              first
                | (exfalso; omega; done)
                | exact lp135 _ ((n : Int)) (vy21) (a8) (na + 1) na gy26 rfl hgy28 (fun j j1 => by rw [egy27, va_up_ne _ _ (by omega)]; rw [egy23, va_up_ne _ _ (by omega)]; exact f3 j j1) (by omega) (by omega) (by omega) (by omega) hf rfl
            · refine z_aload_n C 0 dX7_peek_127 rfl ?_
              refine z_get (v := .int (zI (vy21))) C (by omega) hay6 hgy28 rfl inA_X7 4 (by decide) q_48 rfl rfl dX7_peek_128 ?_
              refine z_iconst (z := 2) C dX7_peek_131 rfl ?_
              refine z_icmp_ne (tgt := 178) C dX7_peek_132 (by decide) (by omega) (by omega) (fun hby39 => ?_) (fun hby39 => ?_)
              · have hf : tk_at T n q0 = na := hi.symm.trans (tk_rn_end (by first | exact Or.inl (by omega) | exact Or.inr (hT.nb (by omega) (by omega))))
                have eX : (vy21 : Int) = tk_so T n (tk_at T n q0) := by
                  rw [hf]; unfold tk_so
                  first | (exfalso; omega) | (rw [if_pos (by omega)]; done) | (rw [if_neg (by omega)]; omega)
                have eY : (a8 : Int) = ((tk_at T n q0 : Nat) : Int) := by rw [hf]; omega
                have eZ : ((n : Int) : Int) = ((tk_to T n (tk_at T n q0) : Nat) : Int) := by
                  rw [hf]; unfold tk_to
                  first | (exfalso; omega) | (rw [if_pos (by omega)]; omega) | (rw [if_neg (by omega), if_neg (by omega)]; omega)
                exact z_vret C hr hlk dX7_peek_178 (by decide) (by decide) ⟨rfl, rfl, rfl, (hgy28).trans (rdC_c eX eY eZ), fun j j1 => by rw [egy27, va_up_ne _ _ (by omega)]; rw [egy23, va_up_ne _ _ (by omega)]; exact f3 j j1⟩
              · have lp135 : ∀ (n9 : Nat) (b8 : Int) (t8 : Int) (a7 : Int) (nb : Nat) (na : Nat) (g1 : Nat → va_E), ((n : Int) - b8).toNat = n9 → (g1 2 = rdC ad (pl) (co) ((n : Int)) (t8) (a7) (b8) (tk) (td)) → (∀ j, j ≠ 2 → g1 j = g j) → (a7 = (na : Int) ∧ b8 = (nb : Int)) → (na < n ∧ na < nb ∧ nb ≤ n) → (t8 = tk_ty (T na)) → (t8 = 1 ∨ t8 = 2) → (tk_at T n q0 = na) → (tk_rn (fun c => decide (tk_ty c = tk_ty (T na))) T n nb = tk_rn (fun c => decide (tk_ty c = tk_ty (T na))) T n (na + 1)) → zV p l e ({ frames := 2, cells := 0, slots := 0, locals := 120 } : Room) s m ([.ref (ad 2)] : List Value).toArray below meth c (MQ below (zPost D A (rV0 N ad fun g' => g' 2 = rdC ad pl co (n : Int) (tk_so T n (tk_at T n q0)) ((tk_at T n q0 : Nat) : Int) ((tk_to T n (tk_at T n q0) : Nat) : Int) tk td ∧ ∀ j, j ≠ 2 → g' j = g j)) ([.ref (ad 2)] : List Value).toArray s ({ frames := 2, cells := 0, slots := 0, locals := 120 } : Room).cells ({ frames := 2, cells := 0, slots := 0, locals := 120 } : Room).slots A) D A 1 (N) ad g1 (0) (0) 135 [(0, .ref (ad 2))] [] := by
                  intro n9
                  induction n9 using Nat.strongRecOn with
                  | ind n9 ih_lp135 =>
                    intro b8 t8 a7 nb na g1 hm9 f1 f3 h1 h2 h3 h4 hf hi2
                    have hay40 : zAt ad (2) (ad 2) := rfl
                    have hay41 : zAt ad (1) (ad 1) := rfl
                    refine z_aload_n C 0 dX7_peek_135 rfl ?_
                    refine z_get (v := .int (zI (b8))) C (by omega) hay40 f1 rfl inA_X7 6 (by decide) q_50 rfl rfl dX7_peek_136 ?_
                    refine z_aload_n C 0 dX7_peek_139 rfl ?_
                    refine z_get (v := .int (zI ((n : Int)))) C (by omega) hay40 f1 rfl inA_X7 3 (by decide) q_47 rfl rfl dX7_peek_140 ?_
                    refine z_icmp_ge (tgt := 178) C dX7_peek_143 (by decide) (by omega) (by omega) (fun hby42 => ?_) (fun hby42 => ?_)
                    · have eX : (t8 : Int) = tk_so T n (tk_at T n q0) := by
                        rw [hf]; unfold tk_so
                        first | (exfalso; omega) | (rw [if_pos (by omega)]; done) | (rw [if_neg (by omega)]; omega)
                      have eY : (a7 : Int) = ((tk_at T n q0 : Nat) : Int) := by rw [hf]; omega
                      have eZ : (b8 : Int) = ((tk_to T n (tk_at T n q0) : Nat) : Int) := by
                        rw [hf]; unfold tk_to
                        rw [if_neg (by omega), if_pos (by omega), ← hi2, tk_rn_end (by first | exact Or.inl (by omega) | exact Or.inr (decide_eq_false (by omega)))]; omega
                      exact z_vret C hr hlk dX7_peek_178 (by decide) (by decide) ⟨rfl, rfl, rfl, (f1).trans (rdC_c eX eY eZ), fun j j1 => by exact f3 j j1⟩
                    · refine z_aload_n C 0 dX7_peek_146 rfl ?_
                      refine z_get (v := .ref (ad 1)) C (by omega) hay40 f1 rfl inA_X7 2 (by decide) q_46 rfl rfl dX7_peek_147 ?_
                      refine z_aload_n C 0 dX7_peek_150 rfl ?_
                      refine z_get (v := .int (zI (b8))) C (by omega) hay40 f1 rfl inA_X7 6 (by decide) q_50 rfl rfl dX7_peek_151 ?_
                      refine z_bald C (by omega) hay41 ((f3 _ (by omega)).trans hg1) (nb) (by omega) (by omega) (by decide) dX7_peek_154 ?_
                      have hrfy43 := hTr (nb) (by omega)
                      refine z_cS (As := [.int (zI (tp (nb)))]) (rest := []) C (c_xType l D A cs tt N ad _ (tp (nb)) (by omega)) ms_yX7_typeOf q_746 hd_yX7_typeOf (by decide) (Nat.le_of_ble_eq_true rfl) (by decide) dX7_peek_155 rfl (kI0 fun vy44 gvy44 hvy44 => ?_)
                      obtain ⟨hvy44, rfl⟩ := hvy44
                      rw [hT.ty (k := nb) (by omega)] at hvy44
                      have hbvy44 := tk_ty_c (T (nb))
                      have hqvy44 : 1 ≤ vy44 ∧ vy44 ≤ 5 := by omega
                      clear hbvy44
                      refine z_aload_n C 0 dX7_peek_158 rfl ?_
                      refine z_get (v := .int (zI (t8))) C (by omega) hay40 f1 rfl inA_X7 4 (by decide) q_48 rfl rfl dX7_peek_159 ?_
                      refine z_icmp_ne (tgt := 178) C dX7_peek_162 (by decide) (by omega) (by omega) (fun hby45 => ?_) (fun hby45 => ?_)
                      · have eX : (t8 : Int) = tk_so T n (tk_at T n q0) := by
                          rw [hf]; unfold tk_so
                          first | (exfalso; omega) | (rw [if_pos (by omega)]; done) | (rw [if_neg (by omega)]; omega)
                        have eY : (a7 : Int) = ((tk_at T n q0 : Nat) : Int) := by rw [hf]; omega
                        have eZ : (b8 : Int) = ((tk_to T n (tk_at T n q0) : Nat) : Int) := by
                          rw [hf]; unfold tk_to
                          rw [if_neg (by omega), if_pos (by omega), ← hi2, tk_rn_end (by first | exact Or.inl (by omega) | exact Or.inr (decide_eq_false (by omega)))]; omega
                        exact z_vret C hr hlk dX7_peek_178 (by decide) (by decide) ⟨rfl, rfl, rfl, (f1).trans (rdC_c eX eY eZ), fun j j1 => by exact f3 j j1⟩
                      · refine z_aload_n C 0 dX7_peek_165 rfl ?_
                        refine z_dup C dX7_peek_166 rfl ?_
                        refine z_get (v := .int (zI (b8))) C (by omega) hay40 f1 rfl inA_X7 6 (by decide) q_50 rfl rfl dX7_peek_167 ?_
                        refine z_iconst (z := 1) C dX7_peek_170 rfl ?_
                        refine z_iadd C dX7_peek_171 ?_
                        refine z_put (fs' := [.int (zI (pl)), .int (zI (co)), .ref (ad 1), .int (zI ((n : Int))), .int (zI (t8)), .int (zI (a7)), .int (zI (b8 + 1)), .int (zI (tk)), .int (zI (td))]) C (by omega) hay40 f1 tyX7 tyX7_ok nmX7 rfl inA_X7 6 (by decide) q_50 rfl rfl rfl rfl (Nat.le_of_ble_eq_true rfl) rfl dX7_peek_172 (fun gy46 egy47 => ?_)
                        have hgy48 := up_s egy47
                        refine z_goto (tgt := 135) C dX7_peek_175 (by decide) ?_
                        refine z_lv (lv' := [(0, .ref (ad 2))]) [0] rfl ?_
                        exact ih_lp135 _ (by omega) (b8 + 1) (t8) (a7) (nb + 1) na gy46 rfl hgy48 (fun j j1 => by rw [egy47, va_up_ne _ _ (by omega)]; exact f3 j j1) (by omega) (by omega) (by omega) (by omega) hf ((tk_rn_go (by omega) (decide_eq_true (by omega))).symm.trans hi2)
                refine z_lv (lv' := [(0, .ref (ad 2))]) [0] rfl ?_
                have hf : tk_at T n q0 = na := hi.symm.trans (tk_rn_end (by first | exact Or.inl (by omega) | exact Or.inr (hT.nb (by omega) (by omega))))
                first
                  | (exfalso; omega; done)
                  | exact lp135 _ ((n : Int)) (vy21) (a8) (na + 1) na gy26 rfl hgy28 (fun j j1 => by rw [egy27, va_up_ne _ _ (by omega)]; rw [egy23, va_up_ne _ _ (by omega)]; exact f3 j j1) (by omega) (by omega) (by omega) (by omega) hf rfl
          · refine z_aload_n C 0 dX7_peek_103 rfl ?_
            refine z_get (v := .int (zI (a8))) C (by omega) hay6 hgy24 rfl inA_X7 5 (by decide) q_49 rfl rfl dX7_peek_104 ?_
            refine z_iconst (z := 1) C dX7_peek_107 rfl ?_
            refine z_iadd C dX7_peek_108 ?_
            refine z_goto (tgt := 116) C dX7_peek_109 (by decide) ?_
            refine z_put (fs' := [.int (zI (pl)), .int (zI (co)), .ref (ad 1), .int (zI ((n : Int))), .int (zI (vy21)), .int (zI (a8)), .int (zI (a8 + 1)), .int (zI (tk)), .int (zI (td))]) C (by omega) hay6 hgy24 tyX7 tyX7_ok nmX7 rfl inA_X7 6 (by decide) q_50 rfl rfl rfl rfl (Nat.le_of_ble_eq_true rfl) rfl dX7_peek_116 (fun gy49 egy50 => ?_)
            have hgy51 := up_s egy50
            refine z_aload_n C 0 dX7_peek_119 rfl ?_
            refine z_get (v := .int (zI (vy21))) C (by omega) hay6 hgy51 rfl inA_X7 4 (by decide) q_48 rfl rfl dX7_peek_120 ?_
            refine z_iconst (z := 1) C dX7_peek_123 rfl ?_
            refine z_icmp_eq (tgt := 135) C dX7_peek_124 (by decide) (by omega) (by omega) (fun hby52 => ?_) (fun hby52 => ?_)
            · have lp135 : ∀ (n9 : Nat) (b8 : Int) (t8 : Int) (a7 : Int) (nb : Nat) (na : Nat) (g1 : Nat → va_E), ((n : Int) - b8).toNat = n9 → (g1 2 = rdC ad (pl) (co) ((n : Int)) (t8) (a7) (b8) (tk) (td)) → (∀ j, j ≠ 2 → g1 j = g j) → (a7 = (na : Int) ∧ b8 = (nb : Int)) → (na < n ∧ na < nb ∧ nb ≤ n) → (t8 = tk_ty (T na)) → (t8 = 1 ∨ t8 = 2) → (tk_at T n q0 = na) → (tk_rn (fun c => decide (tk_ty c = tk_ty (T na))) T n nb = tk_rn (fun c => decide (tk_ty c = tk_ty (T na))) T n (na + 1)) → zV p l e ({ frames := 2, cells := 0, slots := 0, locals := 120 } : Room) s m ([.ref (ad 2)] : List Value).toArray below meth c (MQ below (zPost D A (rV0 N ad fun g' => g' 2 = rdC ad pl co (n : Int) (tk_so T n (tk_at T n q0)) ((tk_at T n q0 : Nat) : Int) ((tk_to T n (tk_at T n q0) : Nat) : Int) tk td ∧ ∀ j, j ≠ 2 → g' j = g j)) ([.ref (ad 2)] : List Value).toArray s ({ frames := 2, cells := 0, slots := 0, locals := 120 } : Room).cells ({ frames := 2, cells := 0, slots := 0, locals := 120 } : Room).slots A) D A 1 (N) ad g1 (0) (0) 135 [(0, .ref (ad 2))] [] := by
                intro n9
                induction n9 using Nat.strongRecOn with
                | ind n9 ih_lp135 =>
                  intro b8 t8 a7 nb na g1 hm9 f1 f3 h1 h2 h3 h4 hf hi2
                  have hay53 : zAt ad (2) (ad 2) := rfl
                  have hay54 : zAt ad (1) (ad 1) := rfl
                  refine z_aload_n C 0 dX7_peek_135 rfl ?_
                  refine z_get (v := .int (zI (b8))) C (by omega) hay53 f1 rfl inA_X7 6 (by decide) q_50 rfl rfl dX7_peek_136 ?_
                  refine z_aload_n C 0 dX7_peek_139 rfl ?_
                  refine z_get (v := .int (zI ((n : Int)))) C (by omega) hay53 f1 rfl inA_X7 3 (by decide) q_47 rfl rfl dX7_peek_140 ?_
                  refine z_icmp_ge (tgt := 178) C dX7_peek_143 (by decide) (by omega) (by omega) (fun hby55 => ?_) (fun hby55 => ?_)
                  · have eX : (t8 : Int) = tk_so T n (tk_at T n q0) := by
                      rw [hf]; unfold tk_so
                      first | (exfalso; omega) | (rw [if_pos (by omega)]; done) | (rw [if_neg (by omega)]; omega)
                    have eY : (a7 : Int) = ((tk_at T n q0 : Nat) : Int) := by rw [hf]; omega
                    have eZ : (b8 : Int) = ((tk_to T n (tk_at T n q0) : Nat) : Int) := by
                      rw [hf]; unfold tk_to
                      rw [if_neg (by omega), if_pos (by omega), ← hi2, tk_rn_end (by first | exact Or.inl (by omega) | exact Or.inr (decide_eq_false (by omega)))]; omega
                    exact z_vret C hr hlk dX7_peek_178 (by decide) (by decide) ⟨rfl, rfl, rfl, (f1).trans (rdC_c eX eY eZ), fun j j1 => by exact f3 j j1⟩
                  · refine z_aload_n C 0 dX7_peek_146 rfl ?_
                    refine z_get (v := .ref (ad 1)) C (by omega) hay53 f1 rfl inA_X7 2 (by decide) q_46 rfl rfl dX7_peek_147 ?_
                    refine z_aload_n C 0 dX7_peek_150 rfl ?_
                    refine z_get (v := .int (zI (b8))) C (by omega) hay53 f1 rfl inA_X7 6 (by decide) q_50 rfl rfl dX7_peek_151 ?_
                    refine z_bald C (by omega) hay54 ((f3 _ (by omega)).trans hg1) (nb) (by omega) (by omega) (by decide) dX7_peek_154 ?_
                    have hrfy56 := hTr (nb) (by omega)
                    refine z_cS (As := [.int (zI (tp (nb)))]) (rest := []) C (c_xType l D A cs tt N ad _ (tp (nb)) (by omega)) ms_yX7_typeOf q_746 hd_yX7_typeOf (by decide) (Nat.le_of_ble_eq_true rfl) (by decide) dX7_peek_155 rfl (kI0 fun vy57 gvy57 hvy57 => ?_)
                    obtain ⟨hvy57, rfl⟩ := hvy57
                    rw [hT.ty (k := nb) (by omega)] at hvy57
                    have hbvy57 := tk_ty_c (T (nb))
                    have hqvy57 : 1 ≤ vy57 ∧ vy57 ≤ 5 := by omega
                    clear hbvy57
                    refine z_aload_n C 0 dX7_peek_158 rfl ?_
                    refine z_get (v := .int (zI (t8))) C (by omega) hay53 f1 rfl inA_X7 4 (by decide) q_48 rfl rfl dX7_peek_159 ?_
                    refine z_icmp_ne (tgt := 178) C dX7_peek_162 (by decide) (by omega) (by omega) (fun hby58 => ?_) (fun hby58 => ?_)
                    · have eX : (t8 : Int) = tk_so T n (tk_at T n q0) := by
                        rw [hf]; unfold tk_so
                        first | (exfalso; omega) | (rw [if_pos (by omega)]; done) | (rw [if_neg (by omega)]; omega)
                      have eY : (a7 : Int) = ((tk_at T n q0 : Nat) : Int) := by rw [hf]; omega
                      have eZ : (b8 : Int) = ((tk_to T n (tk_at T n q0) : Nat) : Int) := by
                        rw [hf]; unfold tk_to
                        rw [if_neg (by omega), if_pos (by omega), ← hi2, tk_rn_end (by first | exact Or.inl (by omega) | exact Or.inr (decide_eq_false (by omega)))]; omega
                      exact z_vret C hr hlk dX7_peek_178 (by decide) (by decide) ⟨rfl, rfl, rfl, (f1).trans (rdC_c eX eY eZ), fun j j1 => by exact f3 j j1⟩
                    · refine z_aload_n C 0 dX7_peek_165 rfl ?_
                      refine z_dup C dX7_peek_166 rfl ?_
                      refine z_get (v := .int (zI (b8))) C (by omega) hay53 f1 rfl inA_X7 6 (by decide) q_50 rfl rfl dX7_peek_167 ?_
                      refine z_iconst (z := 1) C dX7_peek_170 rfl ?_
                      refine z_iadd C dX7_peek_171 ?_
                      refine z_put (fs' := [.int (zI (pl)), .int (zI (co)), .ref (ad 1), .int (zI ((n : Int))), .int (zI (t8)), .int (zI (a7)), .int (zI (b8 + 1)), .int (zI (tk)), .int (zI (td))]) C (by omega) hay53 f1 tyX7 tyX7_ok nmX7 rfl inA_X7 6 (by decide) q_50 rfl rfl rfl rfl (Nat.le_of_ble_eq_true rfl) rfl dX7_peek_172 (fun gy59 egy60 => ?_)
                      have hgy61 := up_s egy60
                      refine z_goto (tgt := 135) C dX7_peek_175 (by decide) ?_
                      refine z_lv (lv' := [(0, .ref (ad 2))]) [0] rfl ?_
                      exact ih_lp135 _ (by omega) (b8 + 1) (t8) (a7) (nb + 1) na gy59 rfl hgy61 (fun j j1 => by rw [egy60, va_up_ne _ _ (by omega)]; exact f3 j j1) (by omega) (by omega) (by omega) (by omega) hf ((tk_rn_go (by omega) (decide_eq_true (by omega))).symm.trans hi2)
              refine z_lv (lv' := [(0, .ref (ad 2))]) [0] rfl ?_
              have hf : tk_at T n q0 = na := hi.symm.trans (tk_rn_end (by first | exact Or.inl (by omega) | exact Or.inr (hT.nb (by omega) (by omega))))
              first
                | (exfalso; omega; done)
                | exact lp135 _ (a8 + 1) (vy21) (a8) (na + 1) na gy49 rfl hgy51 (fun j j1 => by rw [egy50, va_up_ne _ _ (by omega)]; rw [egy23, va_up_ne _ _ (by omega)]; exact f3 j j1) (by omega) (by omega) (by omega) (by omega) hf rfl
            · refine z_aload_n C 0 dX7_peek_127 rfl ?_
              refine z_get (v := .int (zI (vy21))) C (by omega) hay6 hgy51 rfl inA_X7 4 (by decide) q_48 rfl rfl dX7_peek_128 ?_
              refine z_iconst (z := 2) C dX7_peek_131 rfl ?_
              refine z_icmp_ne (tgt := 178) C dX7_peek_132 (by decide) (by omega) (by omega) (fun hby62 => ?_) (fun hby62 => ?_)
              · have hf : tk_at T n q0 = na := hi.symm.trans (tk_rn_end (by first | exact Or.inl (by omega) | exact Or.inr (hT.nb (by omega) (by omega))))
                have eX : (vy21 : Int) = tk_so T n (tk_at T n q0) := by
                  rw [hf]; unfold tk_so
                  first | (exfalso; omega) | (rw [if_pos (by omega)]; done) | (rw [if_neg (by omega)]; omega)
                have eY : (a8 : Int) = ((tk_at T n q0 : Nat) : Int) := by rw [hf]; omega
                have eZ : (a8 + 1 : Int) = ((tk_to T n (tk_at T n q0) : Nat) : Int) := by
                  rw [hf]; unfold tk_to
                  first | (exfalso; omega) | (rw [if_pos (by omega)]; omega) | (rw [if_neg (by omega), if_neg (by omega)]; omega)
                exact z_vret C hr hlk dX7_peek_178 (by decide) (by decide) ⟨rfl, rfl, rfl, (hgy51).trans (rdC_c eX eY eZ), fun j j1 => by rw [egy50, va_up_ne _ _ (by omega)]; rw [egy23, va_up_ne _ _ (by omega)]; exact f3 j j1⟩
              · have lp135 : ∀ (n9 : Nat) (b8 : Int) (t8 : Int) (a7 : Int) (nb : Nat) (na : Nat) (g1 : Nat → va_E), ((n : Int) - b8).toNat = n9 → (g1 2 = rdC ad (pl) (co) ((n : Int)) (t8) (a7) (b8) (tk) (td)) → (∀ j, j ≠ 2 → g1 j = g j) → (a7 = (na : Int) ∧ b8 = (nb : Int)) → (na < n ∧ na < nb ∧ nb ≤ n) → (t8 = tk_ty (T na)) → (t8 = 1 ∨ t8 = 2) → (tk_at T n q0 = na) → (tk_rn (fun c => decide (tk_ty c = tk_ty (T na))) T n nb = tk_rn (fun c => decide (tk_ty c = tk_ty (T na))) T n (na + 1)) → zV p l e ({ frames := 2, cells := 0, slots := 0, locals := 120 } : Room) s m ([.ref (ad 2)] : List Value).toArray below meth c (MQ below (zPost D A (rV0 N ad fun g' => g' 2 = rdC ad pl co (n : Int) (tk_so T n (tk_at T n q0)) ((tk_at T n q0 : Nat) : Int) ((tk_to T n (tk_at T n q0) : Nat) : Int) tk td ∧ ∀ j, j ≠ 2 → g' j = g j)) ([.ref (ad 2)] : List Value).toArray s ({ frames := 2, cells := 0, slots := 0, locals := 120 } : Room).cells ({ frames := 2, cells := 0, slots := 0, locals := 120 } : Room).slots A) D A 1 (N) ad g1 (0) (0) 135 [(0, .ref (ad 2))] [] := by
                  intro n9
                  induction n9 using Nat.strongRecOn with
                  | ind n9 ih_lp135 =>
                    intro b8 t8 a7 nb na g1 hm9 f1 f3 h1 h2 h3 h4 hf hi2
                    have hay63 : zAt ad (2) (ad 2) := rfl
                    have hay64 : zAt ad (1) (ad 1) := rfl
                    refine z_aload_n C 0 dX7_peek_135 rfl ?_
                    refine z_get (v := .int (zI (b8))) C (by omega) hay63 f1 rfl inA_X7 6 (by decide) q_50 rfl rfl dX7_peek_136 ?_
                    refine z_aload_n C 0 dX7_peek_139 rfl ?_
                    refine z_get (v := .int (zI ((n : Int)))) C (by omega) hay63 f1 rfl inA_X7 3 (by decide) q_47 rfl rfl dX7_peek_140 ?_
                    refine z_icmp_ge (tgt := 178) C dX7_peek_143 (by decide) (by omega) (by omega) (fun hby65 => ?_) (fun hby65 => ?_)
                    · have eX : (t8 : Int) = tk_so T n (tk_at T n q0) := by
                        rw [hf]; unfold tk_so
                        first | (exfalso; omega) | (rw [if_pos (by omega)]; done) | (rw [if_neg (by omega)]; omega)
                      have eY : (a7 : Int) = ((tk_at T n q0 : Nat) : Int) := by rw [hf]; omega
                      have eZ : (b8 : Int) = ((tk_to T n (tk_at T n q0) : Nat) : Int) := by
                        rw [hf]; unfold tk_to
                        rw [if_neg (by omega), if_pos (by omega), ← hi2, tk_rn_end (by first | exact Or.inl (by omega) | exact Or.inr (decide_eq_false (by omega)))]; omega
                      exact z_vret C hr hlk dX7_peek_178 (by decide) (by decide) ⟨rfl, rfl, rfl, (f1).trans (rdC_c eX eY eZ), fun j j1 => by exact f3 j j1⟩
                    · refine z_aload_n C 0 dX7_peek_146 rfl ?_
                      refine z_get (v := .ref (ad 1)) C (by omega) hay63 f1 rfl inA_X7 2 (by decide) q_46 rfl rfl dX7_peek_147 ?_
                      refine z_aload_n C 0 dX7_peek_150 rfl ?_
                      refine z_get (v := .int (zI (b8))) C (by omega) hay63 f1 rfl inA_X7 6 (by decide) q_50 rfl rfl dX7_peek_151 ?_
                      refine z_bald C (by omega) hay64 ((f3 _ (by omega)).trans hg1) (nb) (by omega) (by omega) (by decide) dX7_peek_154 ?_
                      have hrfy66 := hTr (nb) (by omega)
                      refine z_cS (As := [.int (zI (tp (nb)))]) (rest := []) C (c_xType l D A cs tt N ad _ (tp (nb)) (by omega)) ms_yX7_typeOf q_746 hd_yX7_typeOf (by decide) (Nat.le_of_ble_eq_true rfl) (by decide) dX7_peek_155 rfl (kI0 fun vy67 gvy67 hvy67 => ?_)
                      obtain ⟨hvy67, rfl⟩ := hvy67
                      rw [hT.ty (k := nb) (by omega)] at hvy67
                      have hbvy67 := tk_ty_c (T (nb))
                      have hqvy67 : 1 ≤ vy67 ∧ vy67 ≤ 5 := by omega
                      clear hbvy67
                      refine z_aload_n C 0 dX7_peek_158 rfl ?_
                      refine z_get (v := .int (zI (t8))) C (by omega) hay63 f1 rfl inA_X7 4 (by decide) q_48 rfl rfl dX7_peek_159 ?_
                      refine z_icmp_ne (tgt := 178) C dX7_peek_162 (by decide) (by omega) (by omega) (fun hby68 => ?_) (fun hby68 => ?_)
                      · have eX : (t8 : Int) = tk_so T n (tk_at T n q0) := by
                          rw [hf]; unfold tk_so
                          first | (exfalso; omega) | (rw [if_pos (by omega)]; done) | (rw [if_neg (by omega)]; omega)
                        have eY : (a7 : Int) = ((tk_at T n q0 : Nat) : Int) := by rw [hf]; omega
                        have eZ : (b8 : Int) = ((tk_to T n (tk_at T n q0) : Nat) : Int) := by
                          rw [hf]; unfold tk_to
                          rw [if_neg (by omega), if_pos (by omega), ← hi2, tk_rn_end (by first | exact Or.inl (by omega) | exact Or.inr (decide_eq_false (by omega)))]; omega
                        exact z_vret C hr hlk dX7_peek_178 (by decide) (by decide) ⟨rfl, rfl, rfl, (f1).trans (rdC_c eX eY eZ), fun j j1 => by exact f3 j j1⟩
                      · refine z_aload_n C 0 dX7_peek_165 rfl ?_
                        refine z_dup C dX7_peek_166 rfl ?_
                        refine z_get (v := .int (zI (b8))) C (by omega) hay63 f1 rfl inA_X7 6 (by decide) q_50 rfl rfl dX7_peek_167 ?_
                        refine z_iconst (z := 1) C dX7_peek_170 rfl ?_
                        refine z_iadd C dX7_peek_171 ?_
                        refine z_put (fs' := [.int (zI (pl)), .int (zI (co)), .ref (ad 1), .int (zI ((n : Int))), .int (zI (t8)), .int (zI (a7)), .int (zI (b8 + 1)), .int (zI (tk)), .int (zI (td))]) C (by omega) hay63 f1 tyX7 tyX7_ok nmX7 rfl inA_X7 6 (by decide) q_50 rfl rfl rfl rfl (Nat.le_of_ble_eq_true rfl) rfl dX7_peek_172 (fun gy69 egy70 => ?_)
                        have hgy71 := up_s egy70
                        refine z_goto (tgt := 135) C dX7_peek_175 (by decide) ?_
                        refine z_lv (lv' := [(0, .ref (ad 2))]) [0] rfl ?_
                        exact ih_lp135 _ (by omega) (b8 + 1) (t8) (a7) (nb + 1) na gy69 rfl hgy71 (fun j j1 => by rw [egy70, va_up_ne _ _ (by omega)]; exact f3 j j1) (by omega) (by omega) (by omega) (by omega) hf ((tk_rn_go (by omega) (decide_eq_true (by omega))).symm.trans hi2)
                refine z_lv (lv' := [(0, .ref (ad 2))]) [0] rfl ?_
                have hf : tk_at T n q0 = na := hi.symm.trans (tk_rn_end (by first | exact Or.inl (by omega) | exact Or.inr (hT.nb (by omega) (by omega))))
                first
                  | (exfalso; omega; done)
                  | exact lp135 _ (a8 + 1) (vy21) (a8) (na + 1) na gy49 rfl hgy51 (fun j j1 => by rw [egy50, va_up_ne _ _ (by omega)]; rw [egy23, va_up_ne _ _ (by omega)]; exact f3 j j1) (by omega) (by omega) (by omega) (by omega) hf rfl
      · refine z_aload_n C 0 dX7_peek_19 rfl ?_
        refine z_get (v := .ref (ad 1)) C (by omega) hay6 f1 rfl inA_X7 2 (by decide) q_46 rfl rfl dX7_peek_20 ?_
        refine z_aload_n C 0 dX7_peek_23 rfl ?_
        refine z_get (v := .int (zI (a8))) C (by omega) hay6 f1 rfl inA_X7 5 (by decide) q_49 rfl rfl dX7_peek_24 ?_
        refine z_bald C (by omega) hay7 ((f3 _ (by omega)).trans hg1) (na) (by omega) (by omega) (by decide) dX7_peek_27 ?_
        have hrfy72 := hTr (na) (by omega)
        refine z_bipush (z := 32) C dX7_peek_28 (by decide) ?_
        refine z_icmp_eq (tgt := 47) C dX7_peek_30 (by decide) (by omega) (by omega) (fun hby73 => ?_) (fun hby73 => ?_)
        · refine z_aload_n C 0 dX7_peek_47 rfl ?_
          refine z_dup C dX7_peek_48 rfl ?_
          refine z_get (v := .int (zI (a8))) C (by omega) hay6 f1 rfl inA_X7 5 (by decide) q_49 rfl rfl dX7_peek_49 ?_
          refine z_iconst (z := 1) C dX7_peek_52 rfl ?_
          refine z_iadd C dX7_peek_53 ?_
          refine z_put (fs' := [.int (zI (pl)), .int (zI (co)), .ref (ad 1), .int (zI ((n : Int))), .int (zI (ty)), .int (zI (a8 + 1)), .int (zI ((q0 : Int))), .int (zI (tk)), .int (zI (td))]) C (by omega) hay6 f1 tyX7 tyX7_ok nmX7 rfl inA_X7 5 (by decide) q_49 rfl rfl rfl rfl (Nat.le_of_ble_eq_true rfl) rfl dX7_peek_54 (fun gy74 egy75 => ?_)
          have hgy76 := up_s egy75
          refine z_goto (tgt := 8) C dX7_peek_57 (by decide) ?_
          refine z_lv (lv' := [(0, .ref (ad 2))]) [0] rfl ?_
          exact ih_lp8 _ (by omega) (a8 + 1) (na + 1) gy74 rfl hgy76 (fun j j1 => by rw [egy75, va_up_ne _ _ (by omega)]; exact f3 j j1) (by omega) (by omega) ((tk_rn_go (by omega) ((hT.bl (by omega)).mpr (by omega))).symm.trans hi)
        · refine z_aload_n C 0 dX7_peek_33 rfl ?_
          refine z_get (v := .ref (ad 1)) C (by omega) hay6 f1 rfl inA_X7 2 (by decide) q_46 rfl rfl dX7_peek_34 ?_
          refine z_aload_n C 0 dX7_peek_37 rfl ?_
          refine z_get (v := .int (zI (a8))) C (by omega) hay6 f1 rfl inA_X7 5 (by decide) q_49 rfl rfl dX7_peek_38 ?_
          refine z_bald C (by omega) hay7 ((f3 _ (by omega)).trans hg1) (na) (by omega) (by omega) (by decide) dX7_peek_41 ?_
          have hrfy77 := hTr (na) (by omega)
          refine z_bipush (z := 10) C dX7_peek_42 (by decide) ?_
          refine z_icmp_ne (tgt := 60) C dX7_peek_44 (by decide) (by omega) (by omega) (fun hby78 => ?_) (fun hby78 => ?_)
          · refine z_aload_n C 0 dX7_peek_60 rfl ?_
            refine z_aload_n C 0 dX7_peek_61 rfl ?_
            refine z_get (v := .int (zI (a8))) C (by omega) hay6 f1 rfl inA_X7 5 (by decide) q_49 rfl rfl dX7_peek_62 ?_
            refine z_aload_n C 0 dX7_peek_65 rfl ?_
            refine z_get (v := .int (zI ((n : Int)))) C (by omega) hay6 f1 rfl inA_X7 3 (by decide) q_47 rfl rfl dX7_peek_66 ?_
            refine z_icmp_ge (tgt := 87) C dX7_peek_69 (by decide) (by omega) (by omega) (fun hby79 => ?_) (fun hby79 => ?_)
            · refine z_iconst (z := 0) C dX7_peek_87 rfl ?_
              refine z_put (fs' := [.int (zI (pl)), .int (zI (co)), .ref (ad 1), .int (zI ((n : Int))), .int (zI (0)), .int (zI (a8)), .int (zI ((q0 : Int))), .int (zI (tk)), .int (zI (td))]) C (by omega) hay6 f1 tyX7 tyX7_ok nmX7 rfl inA_X7 4 (by decide) q_48 rfl rfl rfl rfl (Nat.le_of_ble_eq_true rfl) rfl dX7_peek_88 (fun gy80 egy81 => ?_)
              have hgy82 := up_s egy81
              refine z_aload_n C 0 dX7_peek_91 rfl ?_
              refine z_aload_n C 0 dX7_peek_92 rfl ?_
              refine z_get (v := .int (zI (a8))) C (by omega) hay6 hgy82 rfl inA_X7 5 (by decide) q_49 rfl rfl dX7_peek_93 ?_
              refine z_aload_n C 0 dX7_peek_96 rfl ?_
              refine z_get (v := .int (zI ((n : Int)))) C (by omega) hay6 hgy82 rfl inA_X7 3 (by decide) q_47 rfl rfl dX7_peek_97 ?_
              refine z_icmp_ge (tgt := 112) C dX7_peek_100 (by decide) (by omega) (by omega) (fun hby83 => ?_) (fun hby83 => ?_)
              · refine z_aload_n C 0 dX7_peek_112 rfl ?_
                refine z_get (v := .int (zI ((n : Int)))) C (by omega) hay6 hgy82 rfl inA_X7 3 (by decide) q_47 rfl rfl dX7_peek_113 ?_
                refine z_put (fs' := [.int (zI (pl)), .int (zI (co)), .ref (ad 1), .int (zI ((n : Int))), .int (zI (0)), .int (zI (a8)), .int (zI ((n : Int))), .int (zI (tk)), .int (zI (td))]) C (by omega) hay6 hgy82 tyX7 tyX7_ok nmX7 rfl inA_X7 6 (by decide) q_50 rfl rfl rfl rfl (Nat.le_of_ble_eq_true rfl) rfl dX7_peek_116 (fun gy84 egy85 => ?_)
                have hgy86 := up_s egy85
                refine z_aload_n C 0 dX7_peek_119 rfl ?_
                refine z_get (v := .int (zI (0))) C (by omega) hay6 hgy86 rfl inA_X7 4 (by decide) q_48 rfl rfl dX7_peek_120 ?_
                refine z_iconst (z := 1) C dX7_peek_123 rfl ?_
                refine z_icmp_eq (tgt := 135) C dX7_peek_124 (by decide) (by omega) (by omega) (fun h => absurd h (by omega)) (fun _ => ?_)
                refine z_aload_n C 0 dX7_peek_127 rfl ?_
                refine z_get (v := .int (zI (0))) C (by omega) hay6 hgy86 rfl inA_X7 4 (by decide) q_48 rfl rfl dX7_peek_128 ?_
                refine z_iconst (z := 2) C dX7_peek_131 rfl ?_
                refine z_icmp_ne (tgt := 178) C dX7_peek_132 (by decide) (by omega) (by omega) (fun _ => ?_) (fun h => absurd h (by omega))
                have hf : tk_at T n q0 = na := hi.symm.trans (tk_rn_end (by first | exact Or.inl (by omega) | exact Or.inr (hT.nb (by omega) (by omega))))
                have eX : (0 : Int) = tk_so T n (tk_at T n q0) := by
                  rw [hf]; unfold tk_so
                  first | (exfalso; omega) | (rw [if_pos (by omega)]; done) | (rw [if_neg (by omega)]; omega)
                have eY : (a8 : Int) = ((tk_at T n q0 : Nat) : Int) := by rw [hf]; omega
                have eZ : ((n : Int) : Int) = ((tk_to T n (tk_at T n q0) : Nat) : Int) := by
                  rw [hf]; unfold tk_to
                  first | (exfalso; omega) | (rw [if_pos (by omega)]; omega) | (rw [if_neg (by omega), if_neg (by omega)]; omega)
                exact z_vret C hr hlk dX7_peek_178 (by decide) (by decide) ⟨rfl, rfl, rfl, (hgy86).trans (rdC_c eX eY eZ), fun j j1 => by rw [egy85, va_up_ne _ _ (by omega)]; rw [egy81, va_up_ne _ _ (by omega)]; exact f3 j j1⟩
              · refine z_aload_n C 0 dX7_peek_103 rfl ?_
                refine z_get (v := .int (zI (a8))) C (by omega) hay6 hgy82 rfl inA_X7 5 (by decide) q_49 rfl rfl dX7_peek_104 ?_
                refine z_iconst (z := 1) C dX7_peek_107 rfl ?_
                refine z_iadd C dX7_peek_108 ?_
                refine z_goto (tgt := 116) C dX7_peek_109 (by decide) ?_
                refine z_put (fs' := [.int (zI (pl)), .int (zI (co)), .ref (ad 1), .int (zI ((n : Int))), .int (zI (0)), .int (zI (a8)), .int (zI (a8 + 1)), .int (zI (tk)), .int (zI (td))]) C (by omega) hay6 hgy82 tyX7 tyX7_ok nmX7 rfl inA_X7 6 (by decide) q_50 rfl rfl rfl rfl (Nat.le_of_ble_eq_true rfl) rfl dX7_peek_116 (fun gy87 egy88 => ?_)
                have hgy89 := up_s egy88
                refine z_aload_n C 0 dX7_peek_119 rfl ?_
                refine z_get (v := .int (zI (0))) C (by omega) hay6 hgy89 rfl inA_X7 4 (by decide) q_48 rfl rfl dX7_peek_120 ?_
                refine z_iconst (z := 1) C dX7_peek_123 rfl ?_
                refine z_icmp_eq (tgt := 135) C dX7_peek_124 (by decide) (by omega) (by omega) (fun h => absurd h (by omega)) (fun _ => ?_)
                refine z_aload_n C 0 dX7_peek_127 rfl ?_
                refine z_get (v := .int (zI (0))) C (by omega) hay6 hgy89 rfl inA_X7 4 (by decide) q_48 rfl rfl dX7_peek_128 ?_
                refine z_iconst (z := 2) C dX7_peek_131 rfl ?_
                refine z_icmp_ne (tgt := 178) C dX7_peek_132 (by decide) (by omega) (by omega) (fun _ => ?_) (fun h => absurd h (by omega))
                have hf : tk_at T n q0 = na := hi.symm.trans (tk_rn_end (by first | exact Or.inl (by omega) | exact Or.inr (hT.nb (by omega) (by omega))))
                have eX : (0 : Int) = tk_so T n (tk_at T n q0) := by
                  rw [hf]; unfold tk_so
                  first | (exfalso; omega) | (rw [if_pos (by omega)]; done) | (rw [if_neg (by omega)]; omega)
                have eY : (a8 : Int) = ((tk_at T n q0 : Nat) : Int) := by rw [hf]; omega
                have eZ : (a8 + 1 : Int) = ((tk_to T n (tk_at T n q0) : Nat) : Int) := by
                  rw [hf]; unfold tk_to
                  first | (exfalso; omega) | (rw [if_pos (by omega)]; omega) | (rw [if_neg (by omega), if_neg (by omega)]; omega)
                exact z_vret C hr hlk dX7_peek_178 (by decide) (by decide) ⟨rfl, rfl, rfl, (hgy89).trans (rdC_c eX eY eZ), fun j j1 => by rw [egy88, va_up_ne _ _ (by omega)]; rw [egy81, va_up_ne _ _ (by omega)]; exact f3 j j1⟩
            · refine z_aload_n C 0 dX7_peek_72 rfl ?_
              refine z_get (v := .ref (ad 1)) C (by omega) hay6 f1 rfl inA_X7 2 (by decide) q_46 rfl rfl dX7_peek_73 ?_
              refine z_aload_n C 0 dX7_peek_76 rfl ?_
              refine z_get (v := .int (zI (a8))) C (by omega) hay6 f1 rfl inA_X7 5 (by decide) q_49 rfl rfl dX7_peek_77 ?_
              refine z_bald C (by omega) hay7 ((f3 _ (by omega)).trans hg1) (na) (by omega) (by omega) (by decide) dX7_peek_80 ?_
              have hrfy90 := hTr (na) (by omega)
              refine z_cS (As := [.int (zI (tp (na)))]) (rest := [.ref (ad 2)]) C (c_xType l D A cs tt N ad _ (tp (na)) (by omega)) ms_yX7_typeOf q_746 hd_yX7_typeOf (by decide) (Nat.le_of_ble_eq_true rfl) (by decide) dX7_peek_81 rfl (kI0 fun vy91 gvy91 hvy91 => ?_)
              obtain ⟨hvy91, rfl⟩ := hvy91
              rw [hT.ty (k := na) (by omega)] at hvy91
              have hbvy91 := tk_ty_c (T (na))
              have hqvy91 : 1 ≤ vy91 ∧ vy91 ≤ 5 := by omega
              clear hbvy91
              refine z_goto (tgt := 88) C dX7_peek_84 (by decide) ?_
              refine z_put (fs' := [.int (zI (pl)), .int (zI (co)), .ref (ad 1), .int (zI ((n : Int))), .int (zI (vy91)), .int (zI (a8)), .int (zI ((q0 : Int))), .int (zI (tk)), .int (zI (td))]) C (by omega) hay6 f1 tyX7 tyX7_ok nmX7 rfl inA_X7 4 (by decide) q_48 rfl rfl rfl rfl (Nat.le_of_ble_eq_true rfl) rfl dX7_peek_88 (fun gy92 egy93 => ?_)
              have hgy94 := up_s egy93
              refine z_aload_n C 0 dX7_peek_91 rfl ?_
              refine z_aload_n C 0 dX7_peek_92 rfl ?_
              refine z_get (v := .int (zI (a8))) C (by omega) hay6 hgy94 rfl inA_X7 5 (by decide) q_49 rfl rfl dX7_peek_93 ?_
              refine z_aload_n C 0 dX7_peek_96 rfl ?_
              refine z_get (v := .int (zI ((n : Int)))) C (by omega) hay6 hgy94 rfl inA_X7 3 (by decide) q_47 rfl rfl dX7_peek_97 ?_
              refine z_icmp_ge (tgt := 112) C dX7_peek_100 (by decide) (by omega) (by omega) (fun hby95 => ?_) (fun hby95 => ?_)
              · refine z_aload_n C 0 dX7_peek_112 rfl ?_
                refine z_get (v := .int (zI ((n : Int)))) C (by omega) hay6 hgy94 rfl inA_X7 3 (by decide) q_47 rfl rfl dX7_peek_113 ?_
                refine z_put (fs' := [.int (zI (pl)), .int (zI (co)), .ref (ad 1), .int (zI ((n : Int))), .int (zI (vy91)), .int (zI (a8)), .int (zI ((n : Int))), .int (zI (tk)), .int (zI (td))]) C (by omega) hay6 hgy94 tyX7 tyX7_ok nmX7 rfl inA_X7 6 (by decide) q_50 rfl rfl rfl rfl (Nat.le_of_ble_eq_true rfl) rfl dX7_peek_116 (fun gy96 egy97 => ?_)
                have hgy98 := up_s egy97
                refine z_aload_n C 0 dX7_peek_119 rfl ?_
                refine z_get (v := .int (zI (vy91))) C (by omega) hay6 hgy98 rfl inA_X7 4 (by decide) q_48 rfl rfl dX7_peek_120 ?_
                refine z_iconst (z := 1) C dX7_peek_123 rfl ?_
                refine z_icmp_eq (tgt := 135) C dX7_peek_124 (by decide) (by omega) (by omega) (fun hby99 => ?_) (fun hby99 => ?_)
                · have lp135 : ∀ (n9 : Nat) (b8 : Int) (t8 : Int) (a7 : Int) (nb : Nat) (na : Nat) (g1 : Nat → va_E), ((n : Int) - b8).toNat = n9 → (g1 2 = rdC ad (pl) (co) ((n : Int)) (t8) (a7) (b8) (tk) (td)) → (∀ j, j ≠ 2 → g1 j = g j) → (a7 = (na : Int) ∧ b8 = (nb : Int)) → (na < n ∧ na < nb ∧ nb ≤ n) → (t8 = tk_ty (T na)) → (t8 = 1 ∨ t8 = 2) → (tk_at T n q0 = na) → (tk_rn (fun c => decide (tk_ty c = tk_ty (T na))) T n nb = tk_rn (fun c => decide (tk_ty c = tk_ty (T na))) T n (na + 1)) → zV p l e ({ frames := 2, cells := 0, slots := 0, locals := 120 } : Room) s m ([.ref (ad 2)] : List Value).toArray below meth c (MQ below (zPost D A (rV0 N ad fun g' => g' 2 = rdC ad pl co (n : Int) (tk_so T n (tk_at T n q0)) ((tk_at T n q0 : Nat) : Int) ((tk_to T n (tk_at T n q0) : Nat) : Int) tk td ∧ ∀ j, j ≠ 2 → g' j = g j)) ([.ref (ad 2)] : List Value).toArray s ({ frames := 2, cells := 0, slots := 0, locals := 120 } : Room).cells ({ frames := 2, cells := 0, slots := 0, locals := 120 } : Room).slots A) D A 1 (N) ad g1 (0) (0) 135 [(0, .ref (ad 2))] [] := by
                    intro n9
                    induction n9 using Nat.strongRecOn with
                    | ind n9 ih_lp135 =>
                      intro b8 t8 a7 nb na g1 hm9 f1 f3 h1 h2 h3 h4 hf hi2
                      have hay100 : zAt ad (2) (ad 2) := rfl
                      have hay101 : zAt ad (1) (ad 1) := rfl
                      refine z_aload_n C 0 dX7_peek_135 rfl ?_
                      refine z_get (v := .int (zI (b8))) C (by omega) hay100 f1 rfl inA_X7 6 (by decide) q_50 rfl rfl dX7_peek_136 ?_
                      refine z_aload_n C 0 dX7_peek_139 rfl ?_
                      refine z_get (v := .int (zI ((n : Int)))) C (by omega) hay100 f1 rfl inA_X7 3 (by decide) q_47 rfl rfl dX7_peek_140 ?_
                      refine z_icmp_ge (tgt := 178) C dX7_peek_143 (by decide) (by omega) (by omega) (fun hby102 => ?_) (fun hby102 => ?_)
                      · have eX : (t8 : Int) = tk_so T n (tk_at T n q0) := by
                          rw [hf]; unfold tk_so
                          first | (exfalso; omega) | (rw [if_pos (by omega)]; done) | (rw [if_neg (by omega)]; omega)
                        have eY : (a7 : Int) = ((tk_at T n q0 : Nat) : Int) := by rw [hf]; omega
                        have eZ : (b8 : Int) = ((tk_to T n (tk_at T n q0) : Nat) : Int) := by
                          rw [hf]; unfold tk_to
                          rw [if_neg (by omega), if_pos (by omega), ← hi2, tk_rn_end (by first | exact Or.inl (by omega) | exact Or.inr (decide_eq_false (by omega)))]; omega
                        exact z_vret C hr hlk dX7_peek_178 (by decide) (by decide) ⟨rfl, rfl, rfl, (f1).trans (rdC_c eX eY eZ), fun j j1 => by exact f3 j j1⟩
                      · refine z_aload_n C 0 dX7_peek_146 rfl ?_
                        refine z_get (v := .ref (ad 1)) C (by omega) hay100 f1 rfl inA_X7 2 (by decide) q_46 rfl rfl dX7_peek_147 ?_
                        refine z_aload_n C 0 dX7_peek_150 rfl ?_
                        refine z_get (v := .int (zI (b8))) C (by omega) hay100 f1 rfl inA_X7 6 (by decide) q_50 rfl rfl dX7_peek_151 ?_
                        refine z_bald C (by omega) hay101 ((f3 _ (by omega)).trans hg1) (nb) (by omega) (by omega) (by decide) dX7_peek_154 ?_
                        have hrfy103 := hTr (nb) (by omega)
                        refine z_cS (As := [.int (zI (tp (nb)))]) (rest := []) C (c_xType l D A cs tt N ad _ (tp (nb)) (by omega)) ms_yX7_typeOf q_746 hd_yX7_typeOf (by decide) (Nat.le_of_ble_eq_true rfl) (by decide) dX7_peek_155 rfl (kI0 fun vy104 gvy104 hvy104 => ?_)
                        obtain ⟨hvy104, rfl⟩ := hvy104
                        rw [hT.ty (k := nb) (by omega)] at hvy104
                        have hbvy104 := tk_ty_c (T (nb))
                        have hqvy104 : 1 ≤ vy104 ∧ vy104 ≤ 5 := by omega
                        clear hbvy104
                        refine z_aload_n C 0 dX7_peek_158 rfl ?_
                        refine z_get (v := .int (zI (t8))) C (by omega) hay100 f1 rfl inA_X7 4 (by decide) q_48 rfl rfl dX7_peek_159 ?_
                        refine z_icmp_ne (tgt := 178) C dX7_peek_162 (by decide) (by omega) (by omega) (fun hby105 => ?_) (fun hby105 => ?_)
                        · have eX : (t8 : Int) = tk_so T n (tk_at T n q0) := by
                            rw [hf]; unfold tk_so
                            first | (exfalso; omega) | (rw [if_pos (by omega)]; done) | (rw [if_neg (by omega)]; omega)
                          have eY : (a7 : Int) = ((tk_at T n q0 : Nat) : Int) := by rw [hf]; omega
                          have eZ : (b8 : Int) = ((tk_to T n (tk_at T n q0) : Nat) : Int) := by
                            rw [hf]; unfold tk_to
                            rw [if_neg (by omega), if_pos (by omega), ← hi2, tk_rn_end (by first | exact Or.inl (by omega) | exact Or.inr (decide_eq_false (by omega)))]; omega
                          exact z_vret C hr hlk dX7_peek_178 (by decide) (by decide) ⟨rfl, rfl, rfl, (f1).trans (rdC_c eX eY eZ), fun j j1 => by exact f3 j j1⟩
                        · refine z_aload_n C 0 dX7_peek_165 rfl ?_
                          refine z_dup C dX7_peek_166 rfl ?_
                          refine z_get (v := .int (zI (b8))) C (by omega) hay100 f1 rfl inA_X7 6 (by decide) q_50 rfl rfl dX7_peek_167 ?_
                          refine z_iconst (z := 1) C dX7_peek_170 rfl ?_
                          refine z_iadd C dX7_peek_171 ?_
                          refine z_put (fs' := [.int (zI (pl)), .int (zI (co)), .ref (ad 1), .int (zI ((n : Int))), .int (zI (t8)), .int (zI (a7)), .int (zI (b8 + 1)), .int (zI (tk)), .int (zI (td))]) C (by omega) hay100 f1 tyX7 tyX7_ok nmX7 rfl inA_X7 6 (by decide) q_50 rfl rfl rfl rfl (Nat.le_of_ble_eq_true rfl) rfl dX7_peek_172 (fun gy106 egy107 => ?_)
                          have hgy108 := up_s egy107
                          refine z_goto (tgt := 135) C dX7_peek_175 (by decide) ?_
                          refine z_lv (lv' := [(0, .ref (ad 2))]) [0] rfl ?_
                          exact ih_lp135 _ (by omega) (b8 + 1) (t8) (a7) (nb + 1) na gy106 rfl hgy108 (fun j j1 => by rw [egy107, va_up_ne _ _ (by omega)]; exact f3 j j1) (by omega) (by omega) (by omega) (by omega) hf ((tk_rn_go (by omega) (decide_eq_true (by omega))).symm.trans hi2)
                  refine z_lv (lv' := [(0, .ref (ad 2))]) [0] rfl ?_
                  have hf : tk_at T n q0 = na := hi.symm.trans (tk_rn_end (by first | exact Or.inl (by omega) | exact Or.inr (hT.nb (by omega) (by omega))))
                  first
                    | (exfalso; omega; done)
                    | exact lp135 _ ((n : Int)) (vy91) (a8) (na + 1) na gy96 rfl hgy98 (fun j j1 => by rw [egy97, va_up_ne _ _ (by omega)]; rw [egy93, va_up_ne _ _ (by omega)]; exact f3 j j1) (by omega) (by omega) (by omega) (by omega) hf rfl
                · refine z_aload_n C 0 dX7_peek_127 rfl ?_
                  refine z_get (v := .int (zI (vy91))) C (by omega) hay6 hgy98 rfl inA_X7 4 (by decide) q_48 rfl rfl dX7_peek_128 ?_
                  refine z_iconst (z := 2) C dX7_peek_131 rfl ?_
                  refine z_icmp_ne (tgt := 178) C dX7_peek_132 (by decide) (by omega) (by omega) (fun hby109 => ?_) (fun hby109 => ?_)
                  · have hf : tk_at T n q0 = na := hi.symm.trans (tk_rn_end (by first | exact Or.inl (by omega) | exact Or.inr (hT.nb (by omega) (by omega))))
                    have eX : (vy91 : Int) = tk_so T n (tk_at T n q0) := by
                      rw [hf]; unfold tk_so
                      first | (exfalso; omega) | (rw [if_pos (by omega)]; done) | (rw [if_neg (by omega)]; omega)
                    have eY : (a8 : Int) = ((tk_at T n q0 : Nat) : Int) := by rw [hf]; omega
                    have eZ : ((n : Int) : Int) = ((tk_to T n (tk_at T n q0) : Nat) : Int) := by
                      rw [hf]; unfold tk_to
                      first | (exfalso; omega) | (rw [if_pos (by omega)]; omega) | (rw [if_neg (by omega), if_neg (by omega)]; omega)
                    exact z_vret C hr hlk dX7_peek_178 (by decide) (by decide) ⟨rfl, rfl, rfl, (hgy98).trans (rdC_c eX eY eZ), fun j j1 => by rw [egy97, va_up_ne _ _ (by omega)]; rw [egy93, va_up_ne _ _ (by omega)]; exact f3 j j1⟩
                  · have lp135 : ∀ (n9 : Nat) (b8 : Int) (t8 : Int) (a7 : Int) (nb : Nat) (na : Nat) (g1 : Nat → va_E), ((n : Int) - b8).toNat = n9 → (g1 2 = rdC ad (pl) (co) ((n : Int)) (t8) (a7) (b8) (tk) (td)) → (∀ j, j ≠ 2 → g1 j = g j) → (a7 = (na : Int) ∧ b8 = (nb : Int)) → (na < n ∧ na < nb ∧ nb ≤ n) → (t8 = tk_ty (T na)) → (t8 = 1 ∨ t8 = 2) → (tk_at T n q0 = na) → (tk_rn (fun c => decide (tk_ty c = tk_ty (T na))) T n nb = tk_rn (fun c => decide (tk_ty c = tk_ty (T na))) T n (na + 1)) → zV p l e ({ frames := 2, cells := 0, slots := 0, locals := 120 } : Room) s m ([.ref (ad 2)] : List Value).toArray below meth c (MQ below (zPost D A (rV0 N ad fun g' => g' 2 = rdC ad pl co (n : Int) (tk_so T n (tk_at T n q0)) ((tk_at T n q0 : Nat) : Int) ((tk_to T n (tk_at T n q0) : Nat) : Int) tk td ∧ ∀ j, j ≠ 2 → g' j = g j)) ([.ref (ad 2)] : List Value).toArray s ({ frames := 2, cells := 0, slots := 0, locals := 120 } : Room).cells ({ frames := 2, cells := 0, slots := 0, locals := 120 } : Room).slots A) D A 1 (N) ad g1 (0) (0) 135 [(0, .ref (ad 2))] [] := by
                      intro n9
                      induction n9 using Nat.strongRecOn with
                      | ind n9 ih_lp135 =>
                        intro b8 t8 a7 nb na g1 hm9 f1 f3 h1 h2 h3 h4 hf hi2
                        have hay110 : zAt ad (2) (ad 2) := rfl
                        have hay111 : zAt ad (1) (ad 1) := rfl
                        refine z_aload_n C 0 dX7_peek_135 rfl ?_
                        refine z_get (v := .int (zI (b8))) C (by omega) hay110 f1 rfl inA_X7 6 (by decide) q_50 rfl rfl dX7_peek_136 ?_
                        refine z_aload_n C 0 dX7_peek_139 rfl ?_
                        refine z_get (v := .int (zI ((n : Int)))) C (by omega) hay110 f1 rfl inA_X7 3 (by decide) q_47 rfl rfl dX7_peek_140 ?_
                        refine z_icmp_ge (tgt := 178) C dX7_peek_143 (by decide) (by omega) (by omega) (fun hby112 => ?_) (fun hby112 => ?_)
                        · have eX : (t8 : Int) = tk_so T n (tk_at T n q0) := by
                            rw [hf]; unfold tk_so
                            first | (exfalso; omega) | (rw [if_pos (by omega)]; done) | (rw [if_neg (by omega)]; omega)
                          have eY : (a7 : Int) = ((tk_at T n q0 : Nat) : Int) := by rw [hf]; omega
                          have eZ : (b8 : Int) = ((tk_to T n (tk_at T n q0) : Nat) : Int) := by
                            rw [hf]; unfold tk_to
                            rw [if_neg (by omega), if_pos (by omega), ← hi2, tk_rn_end (by first | exact Or.inl (by omega) | exact Or.inr (decide_eq_false (by omega)))]; omega
                          exact z_vret C hr hlk dX7_peek_178 (by decide) (by decide) ⟨rfl, rfl, rfl, (f1).trans (rdC_c eX eY eZ), fun j j1 => by exact f3 j j1⟩
                        · refine z_aload_n C 0 dX7_peek_146 rfl ?_
                          refine z_get (v := .ref (ad 1)) C (by omega) hay110 f1 rfl inA_X7 2 (by decide) q_46 rfl rfl dX7_peek_147 ?_
                          refine z_aload_n C 0 dX7_peek_150 rfl ?_
                          refine z_get (v := .int (zI (b8))) C (by omega) hay110 f1 rfl inA_X7 6 (by decide) q_50 rfl rfl dX7_peek_151 ?_
                          refine z_bald C (by omega) hay111 ((f3 _ (by omega)).trans hg1) (nb) (by omega) (by omega) (by decide) dX7_peek_154 ?_
                          have hrfy113 := hTr (nb) (by omega)
                          refine z_cS (As := [.int (zI (tp (nb)))]) (rest := []) C (c_xType l D A cs tt N ad _ (tp (nb)) (by omega)) ms_yX7_typeOf q_746 hd_yX7_typeOf (by decide) (Nat.le_of_ble_eq_true rfl) (by decide) dX7_peek_155 rfl (kI0 fun vy114 gvy114 hvy114 => ?_)
                          obtain ⟨hvy114, rfl⟩ := hvy114
                          rw [hT.ty (k := nb) (by omega)] at hvy114
                          have hbvy114 := tk_ty_c (T (nb))
                          have hqvy114 : 1 ≤ vy114 ∧ vy114 ≤ 5 := by omega
                          clear hbvy114
                          refine z_aload_n C 0 dX7_peek_158 rfl ?_
                          refine z_get (v := .int (zI (t8))) C (by omega) hay110 f1 rfl inA_X7 4 (by decide) q_48 rfl rfl dX7_peek_159 ?_
                          refine z_icmp_ne (tgt := 178) C dX7_peek_162 (by decide) (by omega) (by omega) (fun hby115 => ?_) (fun hby115 => ?_)
                          · have eX : (t8 : Int) = tk_so T n (tk_at T n q0) := by
                              rw [hf]; unfold tk_so
                              first | (exfalso; omega) | (rw [if_pos (by omega)]; done) | (rw [if_neg (by omega)]; omega)
                            have eY : (a7 : Int) = ((tk_at T n q0 : Nat) : Int) := by rw [hf]; omega
                            have eZ : (b8 : Int) = ((tk_to T n (tk_at T n q0) : Nat) : Int) := by
                              rw [hf]; unfold tk_to
                              rw [if_neg (by omega), if_pos (by omega), ← hi2, tk_rn_end (by first | exact Or.inl (by omega) | exact Or.inr (decide_eq_false (by omega)))]; omega
                            exact z_vret C hr hlk dX7_peek_178 (by decide) (by decide) ⟨rfl, rfl, rfl, (f1).trans (rdC_c eX eY eZ), fun j j1 => by exact f3 j j1⟩
                          · refine z_aload_n C 0 dX7_peek_165 rfl ?_
                            refine z_dup C dX7_peek_166 rfl ?_
                            refine z_get (v := .int (zI (b8))) C (by omega) hay110 f1 rfl inA_X7 6 (by decide) q_50 rfl rfl dX7_peek_167 ?_
                            refine z_iconst (z := 1) C dX7_peek_170 rfl ?_
                            refine z_iadd C dX7_peek_171 ?_
                            refine z_put (fs' := [.int (zI (pl)), .int (zI (co)), .ref (ad 1), .int (zI ((n : Int))), .int (zI (t8)), .int (zI (a7)), .int (zI (b8 + 1)), .int (zI (tk)), .int (zI (td))]) C (by omega) hay110 f1 tyX7 tyX7_ok nmX7 rfl inA_X7 6 (by decide) q_50 rfl rfl rfl rfl (Nat.le_of_ble_eq_true rfl) rfl dX7_peek_172 (fun gy116 egy117 => ?_)
                            have hgy118 := up_s egy117
                            refine z_goto (tgt := 135) C dX7_peek_175 (by decide) ?_
                            refine z_lv (lv' := [(0, .ref (ad 2))]) [0] rfl ?_
                            exact ih_lp135 _ (by omega) (b8 + 1) (t8) (a7) (nb + 1) na gy116 rfl hgy118 (fun j j1 => by rw [egy117, va_up_ne _ _ (by omega)]; exact f3 j j1) (by omega) (by omega) (by omega) (by omega) hf ((tk_rn_go (by omega) (decide_eq_true (by omega))).symm.trans hi2)
                    refine z_lv (lv' := [(0, .ref (ad 2))]) [0] rfl ?_
                    have hf : tk_at T n q0 = na := hi.symm.trans (tk_rn_end (by first | exact Or.inl (by omega) | exact Or.inr (hT.nb (by omega) (by omega))))
                    first
                      | (exfalso; omega; done)
                      | exact lp135 _ ((n : Int)) (vy91) (a8) (na + 1) na gy96 rfl hgy98 (fun j j1 => by rw [egy97, va_up_ne _ _ (by omega)]; rw [egy93, va_up_ne _ _ (by omega)]; exact f3 j j1) (by omega) (by omega) (by omega) (by omega) hf rfl
              · refine z_aload_n C 0 dX7_peek_103 rfl ?_
                refine z_get (v := .int (zI (a8))) C (by omega) hay6 hgy94 rfl inA_X7 5 (by decide) q_49 rfl rfl dX7_peek_104 ?_
                refine z_iconst (z := 1) C dX7_peek_107 rfl ?_
                refine z_iadd C dX7_peek_108 ?_
                refine z_goto (tgt := 116) C dX7_peek_109 (by decide) ?_
                refine z_put (fs' := [.int (zI (pl)), .int (zI (co)), .ref (ad 1), .int (zI ((n : Int))), .int (zI (vy91)), .int (zI (a8)), .int (zI (a8 + 1)), .int (zI (tk)), .int (zI (td))]) C (by omega) hay6 hgy94 tyX7 tyX7_ok nmX7 rfl inA_X7 6 (by decide) q_50 rfl rfl rfl rfl (Nat.le_of_ble_eq_true rfl) rfl dX7_peek_116 (fun gy119 egy120 => ?_)
                have hgy121 := up_s egy120
                refine z_aload_n C 0 dX7_peek_119 rfl ?_
                refine z_get (v := .int (zI (vy91))) C (by omega) hay6 hgy121 rfl inA_X7 4 (by decide) q_48 rfl rfl dX7_peek_120 ?_
                refine z_iconst (z := 1) C dX7_peek_123 rfl ?_
                refine z_icmp_eq (tgt := 135) C dX7_peek_124 (by decide) (by omega) (by omega) (fun hby122 => ?_) (fun hby122 => ?_)
                · have lp135 : ∀ (n9 : Nat) (b8 : Int) (t8 : Int) (a7 : Int) (nb : Nat) (na : Nat) (g1 : Nat → va_E), ((n : Int) - b8).toNat = n9 → (g1 2 = rdC ad (pl) (co) ((n : Int)) (t8) (a7) (b8) (tk) (td)) → (∀ j, j ≠ 2 → g1 j = g j) → (a7 = (na : Int) ∧ b8 = (nb : Int)) → (na < n ∧ na < nb ∧ nb ≤ n) → (t8 = tk_ty (T na)) → (t8 = 1 ∨ t8 = 2) → (tk_at T n q0 = na) → (tk_rn (fun c => decide (tk_ty c = tk_ty (T na))) T n nb = tk_rn (fun c => decide (tk_ty c = tk_ty (T na))) T n (na + 1)) → zV p l e ({ frames := 2, cells := 0, slots := 0, locals := 120 } : Room) s m ([.ref (ad 2)] : List Value).toArray below meth c (MQ below (zPost D A (rV0 N ad fun g' => g' 2 = rdC ad pl co (n : Int) (tk_so T n (tk_at T n q0)) ((tk_at T n q0 : Nat) : Int) ((tk_to T n (tk_at T n q0) : Nat) : Int) tk td ∧ ∀ j, j ≠ 2 → g' j = g j)) ([.ref (ad 2)] : List Value).toArray s ({ frames := 2, cells := 0, slots := 0, locals := 120 } : Room).cells ({ frames := 2, cells := 0, slots := 0, locals := 120 } : Room).slots A) D A 1 (N) ad g1 (0) (0) 135 [(0, .ref (ad 2))] [] := by
                    intro n9
                    induction n9 using Nat.strongRecOn with
                    | ind n9 ih_lp135 =>
                      intro b8 t8 a7 nb na g1 hm9 f1 f3 h1 h2 h3 h4 hf hi2
                      have hay123 : zAt ad (2) (ad 2) := rfl
                      have hay124 : zAt ad (1) (ad 1) := rfl
                      refine z_aload_n C 0 dX7_peek_135 rfl ?_
                      refine z_get (v := .int (zI (b8))) C (by omega) hay123 f1 rfl inA_X7 6 (by decide) q_50 rfl rfl dX7_peek_136 ?_
                      refine z_aload_n C 0 dX7_peek_139 rfl ?_
                      refine z_get (v := .int (zI ((n : Int)))) C (by omega) hay123 f1 rfl inA_X7 3 (by decide) q_47 rfl rfl dX7_peek_140 ?_
                      refine z_icmp_ge (tgt := 178) C dX7_peek_143 (by decide) (by omega) (by omega) (fun hby125 => ?_) (fun hby125 => ?_)
                      · have eX : (t8 : Int) = tk_so T n (tk_at T n q0) := by
                          rw [hf]; unfold tk_so
                          first | (exfalso; omega) | (rw [if_pos (by omega)]; done) | (rw [if_neg (by omega)]; omega)
                        have eY : (a7 : Int) = ((tk_at T n q0 : Nat) : Int) := by rw [hf]; omega
                        have eZ : (b8 : Int) = ((tk_to T n (tk_at T n q0) : Nat) : Int) := by
                          rw [hf]; unfold tk_to
                          rw [if_neg (by omega), if_pos (by omega), ← hi2, tk_rn_end (by first | exact Or.inl (by omega) | exact Or.inr (decide_eq_false (by omega)))]; omega
                        exact z_vret C hr hlk dX7_peek_178 (by decide) (by decide) ⟨rfl, rfl, rfl, (f1).trans (rdC_c eX eY eZ), fun j j1 => by exact f3 j j1⟩
                      · refine z_aload_n C 0 dX7_peek_146 rfl ?_
                        refine z_get (v := .ref (ad 1)) C (by omega) hay123 f1 rfl inA_X7 2 (by decide) q_46 rfl rfl dX7_peek_147 ?_
                        refine z_aload_n C 0 dX7_peek_150 rfl ?_
                        refine z_get (v := .int (zI (b8))) C (by omega) hay123 f1 rfl inA_X7 6 (by decide) q_50 rfl rfl dX7_peek_151 ?_
                        refine z_bald C (by omega) hay124 ((f3 _ (by omega)).trans hg1) (nb) (by omega) (by omega) (by decide) dX7_peek_154 ?_
                        have hrfy126 := hTr (nb) (by omega)
                        refine z_cS (As := [.int (zI (tp (nb)))]) (rest := []) C (c_xType l D A cs tt N ad _ (tp (nb)) (by omega)) ms_yX7_typeOf q_746 hd_yX7_typeOf (by decide) (Nat.le_of_ble_eq_true rfl) (by decide) dX7_peek_155 rfl (kI0 fun vy127 gvy127 hvy127 => ?_)
                        obtain ⟨hvy127, rfl⟩ := hvy127
                        rw [hT.ty (k := nb) (by omega)] at hvy127
                        have hbvy127 := tk_ty_c (T (nb))
                        have hqvy127 : 1 ≤ vy127 ∧ vy127 ≤ 5 := by omega
                        clear hbvy127
                        refine z_aload_n C 0 dX7_peek_158 rfl ?_
                        refine z_get (v := .int (zI (t8))) C (by omega) hay123 f1 rfl inA_X7 4 (by decide) q_48 rfl rfl dX7_peek_159 ?_
                        refine z_icmp_ne (tgt := 178) C dX7_peek_162 (by decide) (by omega) (by omega) (fun hby128 => ?_) (fun hby128 => ?_)
                        · have eX : (t8 : Int) = tk_so T n (tk_at T n q0) := by
                            rw [hf]; unfold tk_so
                            first | (exfalso; omega) | (rw [if_pos (by omega)]; done) | (rw [if_neg (by omega)]; omega)
                          have eY : (a7 : Int) = ((tk_at T n q0 : Nat) : Int) := by rw [hf]; omega
                          have eZ : (b8 : Int) = ((tk_to T n (tk_at T n q0) : Nat) : Int) := by
                            rw [hf]; unfold tk_to
                            rw [if_neg (by omega), if_pos (by omega), ← hi2, tk_rn_end (by first | exact Or.inl (by omega) | exact Or.inr (decide_eq_false (by omega)))]; omega
                          exact z_vret C hr hlk dX7_peek_178 (by decide) (by decide) ⟨rfl, rfl, rfl, (f1).trans (rdC_c eX eY eZ), fun j j1 => by exact f3 j j1⟩
                        · refine z_aload_n C 0 dX7_peek_165 rfl ?_
                          refine z_dup C dX7_peek_166 rfl ?_
                          refine z_get (v := .int (zI (b8))) C (by omega) hay123 f1 rfl inA_X7 6 (by decide) q_50 rfl rfl dX7_peek_167 ?_
                          refine z_iconst (z := 1) C dX7_peek_170 rfl ?_
                          refine z_iadd C dX7_peek_171 ?_
                          refine z_put (fs' := [.int (zI (pl)), .int (zI (co)), .ref (ad 1), .int (zI ((n : Int))), .int (zI (t8)), .int (zI (a7)), .int (zI (b8 + 1)), .int (zI (tk)), .int (zI (td))]) C (by omega) hay123 f1 tyX7 tyX7_ok nmX7 rfl inA_X7 6 (by decide) q_50 rfl rfl rfl rfl (Nat.le_of_ble_eq_true rfl) rfl dX7_peek_172 (fun gy129 egy130 => ?_)
                          have hgy131 := up_s egy130
                          refine z_goto (tgt := 135) C dX7_peek_175 (by decide) ?_
                          refine z_lv (lv' := [(0, .ref (ad 2))]) [0] rfl ?_
                          exact ih_lp135 _ (by omega) (b8 + 1) (t8) (a7) (nb + 1) na gy129 rfl hgy131 (fun j j1 => by rw [egy130, va_up_ne _ _ (by omega)]; exact f3 j j1) (by omega) (by omega) (by omega) (by omega) hf ((tk_rn_go (by omega) (decide_eq_true (by omega))).symm.trans hi2)
                  refine z_lv (lv' := [(0, .ref (ad 2))]) [0] rfl ?_
                  have hf : tk_at T n q0 = na := hi.symm.trans (tk_rn_end (by first | exact Or.inl (by omega) | exact Or.inr (hT.nb (by omega) (by omega))))
                  first
                    | (exfalso; omega; done)
                    | exact lp135 _ (a8 + 1) (vy91) (a8) (na + 1) na gy119 rfl hgy121 (fun j j1 => by rw [egy120, va_up_ne _ _ (by omega)]; rw [egy93, va_up_ne _ _ (by omega)]; exact f3 j j1) (by omega) (by omega) (by omega) (by omega) hf rfl
                · refine z_aload_n C 0 dX7_peek_127 rfl ?_
                  refine z_get (v := .int (zI (vy91))) C (by omega) hay6 hgy121 rfl inA_X7 4 (by decide) q_48 rfl rfl dX7_peek_128 ?_
                  refine z_iconst (z := 2) C dX7_peek_131 rfl ?_
                  refine z_icmp_ne (tgt := 178) C dX7_peek_132 (by decide) (by omega) (by omega) (fun hby132 => ?_) (fun hby132 => ?_)
                  · have hf : tk_at T n q0 = na := hi.symm.trans (tk_rn_end (by first | exact Or.inl (by omega) | exact Or.inr (hT.nb (by omega) (by omega))))
                    have eX : (vy91 : Int) = tk_so T n (tk_at T n q0) := by
                      rw [hf]; unfold tk_so
                      first | (exfalso; omega) | (rw [if_pos (by omega)]; done) | (rw [if_neg (by omega)]; omega)
                    have eY : (a8 : Int) = ((tk_at T n q0 : Nat) : Int) := by rw [hf]; omega
                    have eZ : (a8 + 1 : Int) = ((tk_to T n (tk_at T n q0) : Nat) : Int) := by
                      rw [hf]; unfold tk_to
                      first | (exfalso; omega) | (rw [if_pos (by omega)]; omega) | (rw [if_neg (by omega), if_neg (by omega)]; omega)
                    exact z_vret C hr hlk dX7_peek_178 (by decide) (by decide) ⟨rfl, rfl, rfl, (hgy121).trans (rdC_c eX eY eZ), fun j j1 => by rw [egy120, va_up_ne _ _ (by omega)]; rw [egy93, va_up_ne _ _ (by omega)]; exact f3 j j1⟩
                  · have lp135 : ∀ (n9 : Nat) (b8 : Int) (t8 : Int) (a7 : Int) (nb : Nat) (na : Nat) (g1 : Nat → va_E), ((n : Int) - b8).toNat = n9 → (g1 2 = rdC ad (pl) (co) ((n : Int)) (t8) (a7) (b8) (tk) (td)) → (∀ j, j ≠ 2 → g1 j = g j) → (a7 = (na : Int) ∧ b8 = (nb : Int)) → (na < n ∧ na < nb ∧ nb ≤ n) → (t8 = tk_ty (T na)) → (t8 = 1 ∨ t8 = 2) → (tk_at T n q0 = na) → (tk_rn (fun c => decide (tk_ty c = tk_ty (T na))) T n nb = tk_rn (fun c => decide (tk_ty c = tk_ty (T na))) T n (na + 1)) → zV p l e ({ frames := 2, cells := 0, slots := 0, locals := 120 } : Room) s m ([.ref (ad 2)] : List Value).toArray below meth c (MQ below (zPost D A (rV0 N ad fun g' => g' 2 = rdC ad pl co (n : Int) (tk_so T n (tk_at T n q0)) ((tk_at T n q0 : Nat) : Int) ((tk_to T n (tk_at T n q0) : Nat) : Int) tk td ∧ ∀ j, j ≠ 2 → g' j = g j)) ([.ref (ad 2)] : List Value).toArray s ({ frames := 2, cells := 0, slots := 0, locals := 120 } : Room).cells ({ frames := 2, cells := 0, slots := 0, locals := 120 } : Room).slots A) D A 1 (N) ad g1 (0) (0) 135 [(0, .ref (ad 2))] [] := by
                      intro n9
                      induction n9 using Nat.strongRecOn with
                      | ind n9 ih_lp135 =>
                        intro b8 t8 a7 nb na g1 hm9 f1 f3 h1 h2 h3 h4 hf hi2
                        have hay133 : zAt ad (2) (ad 2) := rfl
                        have hay134 : zAt ad (1) (ad 1) := rfl
                        refine z_aload_n C 0 dX7_peek_135 rfl ?_
                        refine z_get (v := .int (zI (b8))) C (by omega) hay133 f1 rfl inA_X7 6 (by decide) q_50 rfl rfl dX7_peek_136 ?_
                        refine z_aload_n C 0 dX7_peek_139 rfl ?_
                        refine z_get (v := .int (zI ((n : Int)))) C (by omega) hay133 f1 rfl inA_X7 3 (by decide) q_47 rfl rfl dX7_peek_140 ?_
                        refine z_icmp_ge (tgt := 178) C dX7_peek_143 (by decide) (by omega) (by omega) (fun hby135 => ?_) (fun hby135 => ?_)
                        · have eX : (t8 : Int) = tk_so T n (tk_at T n q0) := by
                            rw [hf]; unfold tk_so
                            first | (exfalso; omega) | (rw [if_pos (by omega)]; done) | (rw [if_neg (by omega)]; omega)
                          have eY : (a7 : Int) = ((tk_at T n q0 : Nat) : Int) := by rw [hf]; omega
                          have eZ : (b8 : Int) = ((tk_to T n (tk_at T n q0) : Nat) : Int) := by
                            rw [hf]; unfold tk_to
                            rw [if_neg (by omega), if_pos (by omega), ← hi2, tk_rn_end (by first | exact Or.inl (by omega) | exact Or.inr (decide_eq_false (by omega)))]; omega
                          exact z_vret C hr hlk dX7_peek_178 (by decide) (by decide) ⟨rfl, rfl, rfl, (f1).trans (rdC_c eX eY eZ), fun j j1 => by exact f3 j j1⟩
                        · refine z_aload_n C 0 dX7_peek_146 rfl ?_
                          refine z_get (v := .ref (ad 1)) C (by omega) hay133 f1 rfl inA_X7 2 (by decide) q_46 rfl rfl dX7_peek_147 ?_
                          refine z_aload_n C 0 dX7_peek_150 rfl ?_
                          refine z_get (v := .int (zI (b8))) C (by omega) hay133 f1 rfl inA_X7 6 (by decide) q_50 rfl rfl dX7_peek_151 ?_
                          refine z_bald C (by omega) hay134 ((f3 _ (by omega)).trans hg1) (nb) (by omega) (by omega) (by decide) dX7_peek_154 ?_
                          have hrfy136 := hTr (nb) (by omega)
                          refine z_cS (As := [.int (zI (tp (nb)))]) (rest := []) C (c_xType l D A cs tt N ad _ (tp (nb)) (by omega)) ms_yX7_typeOf q_746 hd_yX7_typeOf (by decide) (Nat.le_of_ble_eq_true rfl) (by decide) dX7_peek_155 rfl (kI0 fun vy137 gvy137 hvy137 => ?_)
                          obtain ⟨hvy137, rfl⟩ := hvy137
                          rw [hT.ty (k := nb) (by omega)] at hvy137
                          have hbvy137 := tk_ty_c (T (nb))
                          have hqvy137 : 1 ≤ vy137 ∧ vy137 ≤ 5 := by omega
                          clear hbvy137
                          refine z_aload_n C 0 dX7_peek_158 rfl ?_
                          refine z_get (v := .int (zI (t8))) C (by omega) hay133 f1 rfl inA_X7 4 (by decide) q_48 rfl rfl dX7_peek_159 ?_
                          refine z_icmp_ne (tgt := 178) C dX7_peek_162 (by decide) (by omega) (by omega) (fun hby138 => ?_) (fun hby138 => ?_)
                          · have eX : (t8 : Int) = tk_so T n (tk_at T n q0) := by
                              rw [hf]; unfold tk_so
                              first | (exfalso; omega) | (rw [if_pos (by omega)]; done) | (rw [if_neg (by omega)]; omega)
                            have eY : (a7 : Int) = ((tk_at T n q0 : Nat) : Int) := by rw [hf]; omega
                            have eZ : (b8 : Int) = ((tk_to T n (tk_at T n q0) : Nat) : Int) := by
                              rw [hf]; unfold tk_to
                              rw [if_neg (by omega), if_pos (by omega), ← hi2, tk_rn_end (by first | exact Or.inl (by omega) | exact Or.inr (decide_eq_false (by omega)))]; omega
                            exact z_vret C hr hlk dX7_peek_178 (by decide) (by decide) ⟨rfl, rfl, rfl, (f1).trans (rdC_c eX eY eZ), fun j j1 => by exact f3 j j1⟩
                          · refine z_aload_n C 0 dX7_peek_165 rfl ?_
                            refine z_dup C dX7_peek_166 rfl ?_
                            refine z_get (v := .int (zI (b8))) C (by omega) hay133 f1 rfl inA_X7 6 (by decide) q_50 rfl rfl dX7_peek_167 ?_
                            refine z_iconst (z := 1) C dX7_peek_170 rfl ?_
                            refine z_iadd C dX7_peek_171 ?_
                            refine z_put (fs' := [.int (zI (pl)), .int (zI (co)), .ref (ad 1), .int (zI ((n : Int))), .int (zI (t8)), .int (zI (a7)), .int (zI (b8 + 1)), .int (zI (tk)), .int (zI (td))]) C (by omega) hay133 f1 tyX7 tyX7_ok nmX7 rfl inA_X7 6 (by decide) q_50 rfl rfl rfl rfl (Nat.le_of_ble_eq_true rfl) rfl dX7_peek_172 (fun gy139 egy140 => ?_)
                            have hgy141 := up_s egy140
                            refine z_goto (tgt := 135) C dX7_peek_175 (by decide) ?_
                            refine z_lv (lv' := [(0, .ref (ad 2))]) [0] rfl ?_
                            exact ih_lp135 _ (by omega) (b8 + 1) (t8) (a7) (nb + 1) na gy139 rfl hgy141 (fun j j1 => by rw [egy140, va_up_ne _ _ (by omega)]; exact f3 j j1) (by omega) (by omega) (by omega) (by omega) hf ((tk_rn_go (by omega) (decide_eq_true (by omega))).symm.trans hi2)
                    refine z_lv (lv' := [(0, .ref (ad 2))]) [0] rfl ?_
                    have hf : tk_at T n q0 = na := hi.symm.trans (tk_rn_end (by first | exact Or.inl (by omega) | exact Or.inr (hT.nb (by omega) (by omega))))
                    first
                      | (exfalso; omega; done)
                      | exact lp135 _ (a8 + 1) (vy91) (a8) (na + 1) na gy119 rfl hgy121 (fun j j1 => by rw [egy120, va_up_ne _ _ (by omega)]; rw [egy93, va_up_ne _ _ (by omega)]; exact f3 j j1) (by omega) (by omega) (by omega) (by omega) hf rfl
          · refine z_aload_n C 0 dX7_peek_47 rfl ?_
            refine z_dup C dX7_peek_48 rfl ?_
            refine z_get (v := .int (zI (a8))) C (by omega) hay6 f1 rfl inA_X7 5 (by decide) q_49 rfl rfl dX7_peek_49 ?_
            refine z_iconst (z := 1) C dX7_peek_52 rfl ?_
            refine z_iadd C dX7_peek_53 ?_
            refine z_put (fs' := [.int (zI (pl)), .int (zI (co)), .ref (ad 1), .int (zI ((n : Int))), .int (zI (ty)), .int (zI (a8 + 1)), .int (zI ((q0 : Int))), .int (zI (tk)), .int (zI (td))]) C (by omega) hay6 f1 tyX7 tyX7_ok nmX7 rfl inA_X7 5 (by decide) q_49 rfl rfl rfl rfl (Nat.le_of_ble_eq_true rfl) rfl dX7_peek_54 (fun gy142 egy143 => ?_)
            have hgy144 := up_s egy143
            refine z_goto (tgt := 8) C dX7_peek_57 (by decide) ?_
            refine z_lv (lv' := [(0, .ref (ad 2))]) [0] rfl ?_
            exact ih_lp8 _ (by omega) (a8 + 1) (na + 1) gy142 rfl hgy144 (fun j j1 => by rw [egy143, va_up_ne _ _ (by omega)]; exact f3 j j1) (by omega) (by omega) ((tk_rn_go (by omega) ((hT.bl (by omega)).mpr (by omega))).symm.trans hi)
  refine z_lv (lv' := [(0, .ref (ad 2))]) [0] rfl ?_
  exact lp8 _ ((q0 : Int)) q0 gy3 rfl hgy5 (fun j j1 => by rw [egy4, va_up_ne _ _ (by omega)]) (by omega) (by omega) rfl

