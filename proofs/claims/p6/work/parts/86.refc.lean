def lyT (r : Nat → Int) (q : Nat) : Prop := (0 ≤ r q ∧ r q ≤ 4) ∧ (1 ≤ r (q + 1) ∧ r (q + 1) ≤ 99) ∧ (0 ≤ r (q + 2) ∧ r (q + 2) ≤ 99) ∧ (1 ≤ r (q + 3) ∧ r (q + 3) ≤ 999) ∧ (-300 ≤ r (q + 4) ∧ r (q + 4) ≤ 0) ∧ (0 ≤ r (q + 6) ∧ r (q + 6) ≤ 900)
theorem lyT.ext {r r' : Nat → Int} {q : Nat} (h : ∀ j, q ≤ j → j < q + 7 → r' j = r j) (hl : lyT r q) : lyT r' q := by
  unfold lyT at *
  rw [h q (by omega) (by omega), h (q + 1) (by omega) (by omega), h (q + 2) (by omega) (by omega), h (q + 3) (by omega) (by omega), h (q + 4) (by omega) (by omega), h (q + 6) (by omega) (by omega)]
  exact hl
/-- what the reader has told so far -/
def okT (F op1 mn1 ai1 fa1 mu1 tb1 ly1 : Nat → Int) : Prop := ((0 ≤ F 47 ∧ F 47 ≤ 4) ∧ (0 ≤ F 48 ∧ F 48 ≤ 24) ∧ (0 ≤ F 49 ∧ F 49 ≤ F 32)) ∧ (∀ k, k < 4 → 0 ≤ op1 k ∧ op1 k ≤ 20) ∧ (∀ k, k < 4 → 0 ≤ mn1 k ∧ mn1 k ≤ 12) ∧ (∀ k, k < 24 → -300 ≤ ai1 k ∧ ai1 k ≤ 100) ∧ (∀ k, k < 24 → (0 ≤ fa1 k ∧ fa1 k ≤ 3) ∧ (0 ≤ mu1 k ∧ mu1 k ≤ 50) ∧ (fa1 k = 1 ∨ fa1 k = 2 → 1 ≤ mu1 k)) ∧ (∀ k, k < 15 → tb1 k = -1 ∨ ((0 ≤ tb1 k ∧ tb1 k ≤ 9999) ∧ (10 ≤ k → 1 ≤ tb1 k))) ∧ (∀ s l : Nat, (s : Int) < F 47 → (l : Int) < mn1 s → lyT ly1 (84 * s + 7 * l))
def okTx (cs : Nat → ClassId) (g : Nat → va_E) (i : Nat) (F : Nat → Int) : Prop := ∃ st1 op1 mn1 ai1 fa1 mu1 tb1 ly1 : Nat → Int, (g (i + 16) = iA cs 4 st1 ∧ g (i + 17) = iA cs 4 op1 ∧ g (i + 18) = iA cs 4 mn1 ∧ g (i + 19) = iA cs 24 ai1 ∧ g (i + 20) = iA cs 24 fa1 ∧ g (i + 21) = iA cs 24 mu1 ∧ g (i + 22) = iA cs 15 tb1 ∧ g (i + 23) = iA cs 336 ly1) ∧ okT F op1 mn1 ai1 fa1 mu1 tb1 ly1
theorem okTx.mv {cs : Nat → ClassId} {g g' : Nat → va_E} {i : Nat} {F F' : Nat → Int} (h : okTx cs g i F) (hG : ∀ j, i + 16 ≤ j → j ≤ i + 23 → g' j = g j) (hF : F' 47 = F 47 ∧ F' 48 = F 48 ∧ F' 49 = F 49 ∧ F 32 ≤ F' 32) : okTx cs g' i F' := by
  obtain ⟨st1, op1, mn1, ai1, fa1, mu1, tb1, ly1, ⟨h1, h2, h3, h4, h5, h6, h7, h8⟩, ⟨a1, a2, a3⟩, a4, a5, a6, a7, a8, a9⟩ := h
  obtain ⟨f1, f2, f3, f4⟩ := hF
  refine ⟨st1, op1, mn1, ai1, fa1, mu1, tb1, ly1, ⟨by rw [hG _ (by omega) (by omega)]; exact h1, by rw [hG _ (by omega) (by omega)]; exact h2, by rw [hG _ (by omega) (by omega)]; exact h3, by rw [hG _ (by omega) (by omega)]; exact h4, by rw [hG _ (by omega) (by omega)]; exact h5, by rw [hG _ (by omega) (by omega)]; exact h6, by rw [hG _ (by omega) (by omega)]; exact h7, by rw [hG _ (by omega) (by omega)]; exact h8⟩, ⟨by rw [f1]; exact a1, by rw [f2]; exact a2, by rw [f3]; omega⟩, a4, a5, a6, a7, a8, fun s l h => a9 s l (by rw [f1] at h; exact h)⟩

theorem RD.w {F F' : Nat → Int} (h : RD F) (hF : ∀ f, f ≠ 24 → f ≠ 38 → F' f = F f) (h38 : 0 ≤ F' 38 ∧ F' 38 ≤ 5) : RD F' := by
  obtain ⟨a, b, c, d, e, f, k⟩ := h
  unfold RD
  rw [hF 32 (by decide) (by decide), hF 33 (by decide) (by decide), hF 34 (by decide) (by decide), hF 35 (by decide) (by decide), hF 36 (by decide) (by decide), hF 37 (by decide) (by decide)]
  exact ⟨a, b, c, d, e, f, h38⟩
theorem RD.put {F : Nat → Int} {k : Nat} {v : Int} (h : RD F) (hk : k < 32 ∨ 38 < k) : RD (uZ F k v) := by
  unfold RD at *
  rw [uZ_n _ _ (by omega), uZ_n _ _ (by omega), uZ_n _ _ (by omega), uZ_n _ _ (by omega), uZ_n _ _ (by omega), uZ_n _ _ (by omega), uZ_n _ _ (by omega)]
  exact h

