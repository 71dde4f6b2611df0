theorem okRec.grow {cs : Nat → ClassId} {ad ad' : Nat → Nat} {g g' : Nat → va_E} {N N' : Nat} {t fp im nz kz sl ho ua : Int} {st op ai fa mu tb tp : Nat → Int} {cn cp : Int} (hN : 952 ≤ N) (h : okRec cs ad g N t fp im nz kz sl ho ua st op ai fa mu tb tp) (hg : GR N ad g N' ad' g') (hB : bldC cs ad' g' N' cn cp) : okRec cs ad' g' N' t fp im nz kz sl ho ua st op ai fa mu tb tp := by
  obtain ⟨a1, a2, a3, a4, a5, a6, a7, a8, ⟨ac, a9⟩, ⟨kc, a10⟩, a11, a12, a13, a14, a15, a16⟩ := h
  obtain ⟨h1, h2, h3⟩ := hg
  obtain ⟨v, cap, ml, b, b1, b2, b3, b4, b5, b6, b7, b8, b9⟩ := hB
  have hA : ∀ j, j < 919 → ad' j = ad j := fun j hj => h2 j (by omega)
  have hG : ∀ j, j < 919 → g' j = g j := fun j hj => h3 j (by omega) (by omega) (by omega)
  refine ⟨?_, a2, a3, by rw [hG 1 (by omega)]; exact a4, a5.mv (fun j _ _ => hA j (by omega)) (fun j _ _ => hG j (by omega)), a6.mv (fun j _ _ => hA j (by omega)) (fun j _ _ => hG j (by omega)), a7, a8, ⟨ac, a9.mv (fun j _ _ => hA j (by omega)) (fun j _ _ => hG j (by omega))⟩, ⟨kc, a10.mv (fun j _ _ => hA j (by omega)) (fun j _ _ => hG j (by omega))⟩, a11.mv (fun j _ _ => hA j (by omega)) (fun j _ _ => hG j (by omega)), a12.mv2 (fun j _ _ => hA j (by omega)) (fun j _ _ => hG j (by omega)), a13.mv2 (fun j _ _ => hA j (by omega)) (fun j _ _ => hG j (by omega)), a14.mv (fun j _ _ => hA j (by omega)) (fun j _ _ => hG j (by omega)), a15.mv (fun j _ _ => hA j (by omega)) (fun j _ _ => hG j (by omega)), v, cap, ml, cn, b, b1, b2, b3, b5, ⟨b6, b7⟩, b8, b9⟩
  rw [hG 0 (by omega), a1]
  show rcC ad t fp im = rcC ad' t fp im
  unfold rcC
  rw [hA 1 (by omega), hA 2 (by omega), hA 4 (by omega), hA 11 (by omega), hA 447 (by omega), hA 883 (by omega), hA 890 (by omega), hA 900 (by omega), hA 910 (by omega), hA 917 (by omega), h2 919 (by omega)]
theorem okRec.bld {cs : Nat → ClassId} {ad : Nat → Nat} {g : Nat → va_E} {N : Nat} {t fp im nz kz sl ho ua : Int} {st op ai fa mu tb tp : Nat → Int} (h : okRec cs ad g N t fp im nz kz sl ho ua st op ai fa mu tb tp) : ∃ cn : Int, bldC cs ad g N cn 0 := by
  obtain ⟨_, _, _, _, _, _, _, _, _, _, _, _, _, _, _, v, cap, ml, cn, b, b1, b2, b3, b4, ⟨b5, b6⟩, b7, b8⟩ := h
  exact ⟨cn, v, cap, ml, b, b1, b2, b3, by omega, b4, b5, b6, b7, b8⟩

set_option maxRecDepth 100000 in
set_option maxHeartbeats 4000000 in
theorem c_bLen (l : Launch) (D : va_G) (A : Nat → Prop) (cs : Nat → ClassId) (tt : Nat) (N : Nat) (ad : Nat → Nat) (g : Nat → va_E) (hN : 952 ≤ N) (cn cp : Int) (hB : bldC cs ad g N cn cp) : zM l yJ5_length_8abf5 cJ5_length_8abf5 1 (some .int) ({ frames := 1, cells := 0, slots := 0, locals := 60 } : Room) D A cs tt N ad g [.ref (ad 919)] (rI0 N ad fun r g' => r = cn ∧ g = g') := by
  have hay1 : zAt ad (919) (ad 919) := rfl
  obtain ⟨v_y2, cap_y2, ml_y2, b_y2, hv_y2, hvN_y2, hcap_y2, hcp_y2, hcn_y2, hml_y2, hby_y2, h9_y2, hgv_y2⟩ := id hB
  have hay3 : zAt ad (v_y2) (ad v_y2) := rfl
  refine z_of (by decide) (Nat.le_of_ble_eq_true rfl) ?_
  intro p e s m below meth c C hr hlk hnm
  refine z_lv (lv' := [(0, .ref (ad 919))]) [0] rfl ?_
  refine z_aload_n C 0 dJ5_length_8abf5_0 rfl ?_
  refine z_get (v := .int (zI (cn))) C (by omega) hay1 h9_y2 rfl inA_J4 3 (by decide) q_339 rfl rfl dJ5_length_8abf5_1 ?_
  exact z_iret C hr hlk dJ5_length_8abf5_4 (by decide) (by decide) ⟨_, rfl, rfl, rfl, rfl, rfl⟩

set_option maxRecDepth 100000 in
set_option maxHeartbeats 4000000 in
theorem c_sbLen (l : Launch) (D : va_G) (A : Nat → Prop) (cs : Nat → ClassId) (tt : Nat) (N : Nat) (ad : Nat → Nat) (g : Nat → va_E) (hN : 952 ≤ N) (cn cp : Int) (hB : bldC cs ad g N cn cp) : zM l yJ4_length_8abf5 cJ4_length_8abf5 1 (some .int) ({ frames := 2, cells := 0, slots := 0, locals := 120 } : Room) D A cs tt N ad g [.ref (ad 919)] (rI0 N ad fun r g' => r = cn ∧ g = g') := by
  have hay1 : zAt ad (919) (ad 919) := rfl
  obtain ⟨v_y2, cap_y2, ml_y2, b_y2, hv_y2, hvN_y2, hcap_y2, hcp_y2, hcn_y2, hml_y2, hby_y2, h9_y2, hgv_y2⟩ := id hB
  have hay3 : zAt ad (v_y2) (ad v_y2) := rfl
  refine z_of (by decide) (Nat.le_of_ble_eq_true rfl) ?_
  intro p e s m below meth c C hr hlk hnm
  refine z_lv (lv' := [(0, .ref (ad 919))]) [0] rfl ?_
  refine z_aload_n C 0 dJ4_length_8abf5_0 rfl ?_
  have hBy4 : bldC cs ad g (N) (cn) ((cap_y2 : Int)) := ⟨v_y2, _, _, _, by omega, by omega, by omega, by omega, by omega, by omega, hby_y2, h9_y2, hgv_y2⟩
  refine z_cSU (As := []) (rest := []) (ci := 1) C (c_bLen l D A cs tt N ad _ (by omega) _ _ hBy4) (by omega) hay1 h9_y2 rfl q_1142 q_1138 q_348 q_1137 q_11 q_1143 (by decide) hd_yJ5_length_8abf5 (by decide) (Nat.le_of_ble_eq_true rfl) (by decide) dJ4_length_8abf5_1 rfl (kI0 fun vy5 gvy5 hvy5 => ?_)
  obtain ⟨rfl, rfl⟩ := hvy5
  exact z_iret C hr hlk dJ4_length_8abf5_4 (by decide) (by decide) ⟨_, rfl, rfl, rfl, rfl, rfl⟩

