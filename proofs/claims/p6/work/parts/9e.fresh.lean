theorem okWorld.fresh {cs : Nat → ClassId} {ad : Nat → Nat} {g : Nat → va_E} {i : Nat} (h : isWorld cs ad g i (fun _ => 0) (fun _ => 0) (fun _ => 0) (fun _ _ => 0)) : okWorld cs ad g i :=
  ⟨fun _ => 0, fun _ => 0, fun _ => 0, fun _ _ => 0, fun _ _ => ⟨Int.le_refl 0, show (0 : Int) ≤ 12 by decide⟩, ⟨Int.le_refl 0, show (0 : Int) ≤ 6 by decide⟩, h⟩
theorem okState.fresh {cs : Nat → ClassId} {ad : Nat → Nat} {g : Nat → va_E} {i : Nat} (h : isSt cs ad g i) : okState cs ad g i 0 0 := by
  obtain ⟨h1, h2, ⟨b1, h3, h4⟩, ⟨b2, h5, h6⟩, h7, h8, h9, h10⟩ := h
  exact ⟨h1, by decide, okWorld.fresh h2, ⟨b1, fun k => k, h3, fun k hk => ⟨hk, h4 k hk⟩⟩, fun k hk => okWorld.fresh (h9 k hk), ⟨b2, h5, h6⟩, fun k hk => ⟨0, 0, 0, 0, fun _ => 0, by decide, by decide, h10 k hk⟩, ⟨fun _ => 0, fun _ => 0, fun _ => 0, by decide, fun _ _ => ⟨⟨Int.le_refl 0, show (0 : Int) ≤ 3 by decide⟩, Int.le_refl 0, show (0 : Int) ≤ 48 by decide⟩, h7⟩, _, h8⟩
theorem okRec.fresh {cs : Nat → ClassId} {ad : Nat → Nat} {g : Nat → va_E} {N : Nat} (h : isRec cs ad g 0) (hN : 952 ≤ N) : okRec cs ad g N 0 (-1) 0 0 0 0 0 0 (fun _ => 0) (fun _ => 0) (fun _ => 0) (fun _ => 0) (fun _ => 0) tabZ (fun _ => 0) := by
  obtain ⟨h1, h2, h3, h4, h5, h6, h7, h8, h9, h10, h11, h12⟩ := h
  have b1 : okRdr ad g 2 := ⟨-1, 0, 0, 0, 0, 0, 0, 0, _, h3.1⟩
  have b2 : okPlan cs ad g 883 := ⟨0, 0, 0, _, _, _, _, _, _, by decide, by decide, h7⟩
  have b3 : okGss cs ad g 910 := ⟨0, -1, fun _ => 0, fun _ _ => 0, fun _ _ => ⟨Int.le_refl 0, show (0 : Int) ≤ 1200 by decide⟩, h10⟩
  have b4 : okLike cs ad g 917 := ⟨_, h11⟩
  have b5 : okBld cs ad g N := ⟨920, 16, 0, 0, fun _ => 0, Or.inl rfl, by omega, by decide, by decide, ⟨by decide, fun _ => ⟨show (-128 : Int) ≤ 0 by decide, show (0 : Int) ≤ 127 by decide⟩⟩, h12.1, h12.2⟩
  exact ⟨h1, by decide, by decide, h2, b1, h4, by decide, by decide, ⟨0, okState.fresh h5⟩, ⟨0, okState.fresh h6⟩, b2, okWorld.fresh h8, okWorld.fresh h9, b3, b4, b5⟩
abbrev mF0 : Nat → Int := (fun k => if k = 24 ∨ k = 26 ∨ k = 27 then -1 else 0)
def isM0 (cs : Nat → ClassId) (ad : Nat → Nat) (g : Nat → va_E) (i : Nat) : Prop := ∃ B : Nat → Nat → Int, isMod cs ad g i mF0 B ∧ (∀ k, k < 15 → B 7 k = tabZ k) ∧ ∀ k, k ≠ 7 → ∀ j, B k j = 0
theorem isM0.mv {cs : Nat → ClassId} {ad ad' : Nat → Nat} {g g' : Nat → va_E} {i : Nat} (hA : ∀ j, i ≤ j → j < i + 30 → ad' j = ad j) (hG : ∀ j, i ≤ j → j < i + 30 → g' j = g j) (h : isM0 cs ad g i) : isM0 cs ad' g' i := by
  obtain ⟨B, h1, h2, h3⟩ := h
  exact ⟨B, h1.mv hA hG, h2, h3⟩
theorem okMr.fresh {cs : Nat → ClassId} {ad : Nat → Nat} {g : Nat → va_E} {i : Nat} (h : isM0 cs ad g i) : ∃ r sR oR aR fR mR bR pR : Nat → Int, okMr cs ad g i 0 mF0 r sR oR aR fR mR bR pR ∧ ∀ k, k < 15 → bR k = tabZ k := by
  obtain ⟨B, ⟨h1, h2⟩, h7, h0⟩ := h
  have hT : okTy cs g i mF0 := ⟨B 16, B 17, B 18, B 19, B 20, B 21, B 22, B 23, ⟨h2 16 (by decide) (by decide), h2 17 (by decide) (by decide), h2 18 (by decide) (by decide), h2 19 (by decide) (by decide), h2 20 (by decide) (by decide), h2 21 (by decide) (by decide), h2 22 (by decide) (by decide), h2 23 (by decide) (by decide)⟩, by decide, fun k _ => by have e := h0 17 (by decide) k; omega, fun k _ => by have e := h0 18 (by decide) k; omega, fun k _ => by have e := h0 19 (by decide) k; omega, fun k _ => by have e := h0 20 (by decide) k; have e2 := h0 21 (by decide) k; omega, fun s l hs _ => absurd hs (by show ¬ ((s : Int) < 0); omega)⟩
  have hW : okA (B 1) 0 := fun w _ _ => by
    have z : ∀ j, B 1 j = 0 := h0 1 (by decide)
    refine ⟨⟨fun s _ => okS.zero (z _) (by unfold mB; rw [z]; decide) (by unfold eB; rw [z]; decide), by rw [z]; decide, by rw [z, z]; decide, by rw [z]; decide⟩, by rw [z]; decide⟩
  have hP : okPt (B 12) := fun k _ => by
    have z : ∀ j, B 12 j = 0 := h0 12 (by decide)
    refine ⟨by rw [z]; decide, by rw [z]; decide, fun l hl => absurd hl (by rw [z]; omega)⟩
  have hE : okEnv mF0 (B 3) (B 4) (B 5) (B 6) (B 7) := ⟨by decide, fun k _ => by have e := h0 3 (by decide) k; omega, fun k _ => by have e := h0 4 (by decide) k; omega, fun k _ => by have e := h0 5 (by decide) k; have e2 := h0 6 (by decide) k; omega, fun k hk => by rw [h7 k hk]; exact (tabOK ⟨k, hk⟩).1, fun k a hk => by rw [h7 k hk]; exact (tabOK ⟨k, hk⟩).2 a⟩
  have hF : okF mF0 := by unfold okF; decide
  have hD : RD mF0 := by unfold RD; decide
  exact ⟨B 1, B 2, B 3, B 4, B 5, B 6, B 7, B 13, ⟨h1, hF, hD, hT, hW, B 8, B 9, B 10, B 11, B 12, B 14, B 15, B 24, B 25, B 26, B 27, B 28, B 29, ⟨h2 1 (by decide) (by decide), h2 2 (by decide) (by decide), h2 3 (by decide) (by decide), h2 4 (by decide) (by decide), h2 5 (by decide) (by decide), h2 6 (by decide) (by decide), h2 7 (by decide) (by decide), h2 8 (by decide) (by decide), h2 9 (by decide) (by decide), h2 10 (by decide) (by decide), h2 11 (by decide) (by decide), h2 12 (by decide) (by decide), h2 13 (by decide) (by decide), h2 14 (by decide) (by decide), h2 15 (by decide) (by decide), h2 24 (by decide) (by decide), h2 25 (by decide) (by decide), h2 26 (by decide) (by decide), h2 27 (by decide) (by decide), h2 28 (by decide) (by decide), h2 29 (by decide) (by decide)⟩, hE, hP, fun k _ => by have e := h0 8 (by decide) k; omega, fun k _ => by have e := h0 13 (by decide) k; omega⟩, h7⟩
theorem JI.fresh {cs : Nat → ClassId} {ad : Nat → Nat} {g : Nat → va_E} {N : Nat} (h : isRec cs ad g 0) (hm : isM0 cs ad g 921) (hN : 952 ≤ N) : JI cs ad g N 0 := by
  obtain ⟨r, sR, oR, aR, fR, mR, bR, pR, hM, hb⟩ := okMr.fresh hm
  exact ⟨_, _, _, _, _, _, _, _, _, _, _, _, _, _, _, _, _, _, _, _, _, _, _, _, okRec.fresh h hN, hM, ⟨rfl, rfl, rfl, rfl, fun e => absurd e (by decide), rfl, rfl⟩, fun k _ => (show (-128 : Int) ≤ 0 ∧ (0 : Int) ≤ 127 by decide), fun k hk => absurd hk (by omega), fun k hk => absurd hk (by omega), fun k hk => absurd hk (by omega), fun k hk => (hb k hk).symm⟩
