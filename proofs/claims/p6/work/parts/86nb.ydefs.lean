theorem uZ_at {r : Nat → Int} {k j : Nat} {v : Int} (e : j = k) : uZ r k v j = v := by rw [e, uZ_s]
theorem la_at {r : Nat → Int} {m l f : Nat} (hm : m < 12) (hl : l < 12) (hf : f < 7) (kd i1 w1 d1 c1 n1 : Int) : la_ r (m : Int) kd i1 w1 d1 c1 n1 (12 * f + l) = if l = m then ([kd, i1, w1, d1, c1, 0, n1] : List Int).getD f 0 else r (12 * f + l) := by
  unfold la_
  rw [show ((0 : Int) + (m : Int)).toNat = 0 + m by omega, show ((12 : Int) + (m : Int)).toNat = 12 + m by omega, show ((24 : Int) + (m : Int)).toNat = 24 + m by omega, show ((36 : Int) + (m : Int)).toNat = 36 + m by omega, show ((48 : Int) + (m : Int)).toNat = 48 + m by omega, show ((60 : Int) + (m : Int)).toNat = 60 + m by omega, show ((72 : Int) + (m : Int)).toNat = 72 + m by omega]
  by_cases e : l = m
  · subst e
    rw [if_pos rfl]
    rcases (show f = 0 ∨ f = 1 ∨ f = 2 ∨ f = 3 ∨ f = 4 ∨ f = 5 ∨ f = 6 by omega) with rfl | rfl | rfl | rfl | rfl | rfl | rfl
    · exact ((uZ_n _ _ (by omega)).trans ((uZ_n _ _ (by omega)).trans ((uZ_n _ _ (by omega)).trans ((uZ_n _ _ (by omega)).trans ((uZ_n _ _ (by omega)).trans ((uZ_n _ _ (by omega)).trans (uZ_at (by omega))))))))
    · exact ((uZ_n _ _ (by omega)).trans ((uZ_n _ _ (by omega)).trans ((uZ_n _ _ (by omega)).trans ((uZ_n _ _ (by omega)).trans ((uZ_n _ _ (by omega)).trans (uZ_at (by omega)))))))
    · exact ((uZ_n _ _ (by omega)).trans ((uZ_n _ _ (by omega)).trans ((uZ_n _ _ (by omega)).trans ((uZ_n _ _ (by omega)).trans (uZ_at (by omega))))))
    · exact ((uZ_n _ _ (by omega)).trans ((uZ_n _ _ (by omega)).trans ((uZ_n _ _ (by omega)).trans (uZ_at (by omega)))))
    · exact ((uZ_n _ _ (by omega)).trans ((uZ_n _ _ (by omega)).trans (uZ_at (by omega))))
    · exact ((uZ_n _ _ (by omega)).trans (uZ_at (by omega)))
    · exact (uZ_at (by omega))
  · rw [if_neg e]
    exact ((uZ_n _ _ (by omega)).trans ((uZ_n _ _ (by omega)).trans ((uZ_n _ _ (by omega)).trans ((uZ_n _ _ (by omega)).trans ((uZ_n _ _ (by omega)).trans ((uZ_n _ _ (by omega)).trans (uZ_n _ _ (by omega))))))))
/-- what the reference has told so far is what the pure picture says -/
def rT (F st1 op1 mn1 ai1 fa1 mu1 tb1 ly1 : Nat → Int) (s : Int × Int × Int × (Nat → Int) × (Nat → Int) × (Nat → Int) × (Nat → Int) × (Nat → Int) × (Nat → Int) × (Nat → Int) × (Nat → Int) × (Nat → Nat → Int)) : Prop := (F 47 = s.1 ∧ F 48 = s.2.1 ∧ F 49 = s.2.2.1) ∧ (∀ k : Nat, (k : Int) < s.1 → st1 k = s.2.2.2.2.1 k ∧ op1 k = s.2.2.2.2.2.1 k ∧ mn1 k = s.2.2.2.1 k) ∧ (∀ k : Nat, (k : Int) < s.2.1 → ai1 k = s.2.2.2.2.2.2.1 k ∧ fa1 k = s.2.2.2.2.2.2.2.1 k ∧ mu1 k = s.2.2.2.2.2.2.2.2.1 k) ∧ (∀ k : Nat, k < 15 → (tb1 k = -1 ∧ s.2.2.2.2.2.2.2.2.2.2.1 k = 0 ∧ s.2.2.2.2.2.2.2.2.2.1 k = tabZ k) ∨ (0 ≤ tb1 k ∧ s.2.2.2.2.2.2.2.2.2.2.1 k = 1 ∧ s.2.2.2.2.2.2.2.2.2.1 k = tb1 k)) ∧ (∀ j l : Nat, (j : Int) < s.1 → (l : Int) < s.2.2.2.1 j → ∀ f, f < 7 → ly1 (84 * j + 7 * l + f) = s.2.2.2.2.2.2.2.2.2.2.2 j (12 * f + l)) ∧ (∀ k : Nat, s.1 ≤ (k : Int) → s.2.2.2.1 k = 0)
theorem rT.F {F F' st1 op1 mn1 ai1 fa1 mu1 tb1 ly1 : Nat → Int} {s : Int × Int × Int × (Nat → Int) × (Nat → Int) × (Nat → Int) × (Nat → Int) × (Nat → Int) × (Nat → Int) × (Nat → Int) × (Nat → Int) × (Nat → Nat → Int)} (h : rT F st1 op1 mn1 ai1 fa1 mu1 tb1 ly1 s) (hF : F' 47 = F 47 ∧ F' 48 = F 48 ∧ F' 49 = F 49) : rT F' st1 op1 mn1 ai1 fa1 mu1 tb1 ly1 s := ⟨⟨hF.1.trans h.1.1, hF.2.1.trans h.1.2.1, hF.2.2.trans h.1.2.2⟩, h.2⟩
theorem rT.slope {F F' st1 op1 mn1 ai1 fa1 mu1 tb1 ly1 : Nat → Int} {s : Int × Int × Int × (Nat → Int) × (Nat → Int) × (Nat → Int) × (Nat → Int) × (Nat → Int) × (Nat → Int) × (Nat → Int) × (Nat → Int) × (Nat → Nat → Int)} {st2 op2 mn2 : Nat → Int} (h : rT F st1 op1 mn1 ai1 fa1 mu1 tb1 ly1 s) (k : Nat) (hk : s.1 = (k : Int)) {a b : Int} (hF : F' 47 = s.1 + 1 ∧ F' 48 = s.2.1 ∧ F' 49 = s.2.2.1) (e1 : ∀ j, j ≠ k → st2 j = st1 j) (v1 : st2 k = a) (e2 : ∀ j, j ≠ k → op2 j = op1 j) (v2 : op2 k = b) (e3 : ∀ j, j ≠ k → mn2 j = mn1 j) (v3 : mn2 k = 0) : rT F' st2 op2 mn2 ai1 fa1 mu1 tb1 ly1 (s.1 + 1, s.2.1, s.2.2.1, s.2.2.2.1, uZ s.2.2.2.2.1 (s.1).toNat a, uZ s.2.2.2.2.2.1 (s.1).toNat b, s.2.2.2.2.2.2.1, s.2.2.2.2.2.2.2.1, s.2.2.2.2.2.2.2.2.1, s.2.2.2.2.2.2.2.2.2.1, s.2.2.2.2.2.2.2.2.2.2.1, s.2.2.2.2.2.2.2.2.2.2.2) := by
  obtain ⟨a1, b1, c1, d1, l1, z1⟩ := h
  refine ⟨hF, fun j hj => ?_, c1, d1, fun j l hj hl f hf => ?_, fun j hj => z1 j (by have h9 : s.1 + 1 ≤ (j : Int) := hj; omega)⟩
  · have hj9 : (j : Int) < s.1 + 1 := hj
    show st2 j = uZ s.2.2.2.2.1 (s.1).toNat a j ∧ op2 j = uZ s.2.2.2.2.2.1 (s.1).toNat b j ∧ mn2 j = s.2.2.2.1 j
    by_cases e : j = k
    · rw [uZ_at (by omega), uZ_at (by omega), z1 j (by omega), e]; exact ⟨v1, v2, v3⟩
    · rw [uZ_n _ _ (by omega), uZ_n _ _ (by omega), e1 j e, e2 j e, e3 j e]; exact b1 j (by omega)
  · have hj9 : (j : Int) < s.1 + 1 := hj
    have hl9 : (l : Int) < s.2.2.2.1 j := hl
    by_cases e : j = k
    · have h9 := z1 j (by omega)
      omega
    · exact l1 j l (by omega) hl f hf
theorem rT.hour {F F' st1 op1 mn1 ai1 fa1 mu1 tb1 ly1 : Nat → Int} {s : Int × Int × Int × (Nat → Int) × (Nat → Int) × (Nat → Int) × (Nat → Int) × (Nat → Int) × (Nat → Int) × (Nat → Int) × (Nat → Int) × (Nat → Nat → Int)} {ai2 fa2 mu2 : Nat → Int} (h : rT F st1 op1 mn1 ai1 fa1 mu1 tb1 ly1 s) (k : Nat) (hk : s.2.1 = (k : Int)) {a b c : Int} (hF : F' 47 = s.1 ∧ F' 48 = s.2.1 + 1 ∧ F' 49 = s.2.2.1) (e1 : ∀ j, j ≠ k → ai2 j = ai1 j) (v1 : ai2 k = a) (e2 : ∀ j, j ≠ k → fa2 j = fa1 j) (v2 : fa2 k = b) (e3 : ∀ j, j ≠ k → mu2 j = mu1 j) (v3 : mu2 k = c) : rT F' st1 op1 mn1 ai2 fa2 mu2 tb1 ly1 (s.1, s.2.1 + 1, s.2.2.1, s.2.2.2.1, s.2.2.2.2.1, s.2.2.2.2.2.1, uZ s.2.2.2.2.2.2.1 (s.2.1).toNat a, uZ s.2.2.2.2.2.2.2.1 (s.2.1).toNat b, uZ s.2.2.2.2.2.2.2.2.1 (s.2.1).toNat c, s.2.2.2.2.2.2.2.2.2.1, s.2.2.2.2.2.2.2.2.2.2.1, s.2.2.2.2.2.2.2.2.2.2.2) := by
  obtain ⟨a1, b1, c1, d1, l1, z1⟩ := h
  refine ⟨hF, b1, fun j hj => ?_, d1, l1, z1⟩
  have hj9 : (j : Int) < s.2.1 + 1 := hj
  show ai2 j = uZ s.2.2.2.2.2.2.1 (s.2.1).toNat a j ∧ fa2 j = uZ s.2.2.2.2.2.2.2.1 (s.2.1).toNat b j ∧ mu2 j = uZ s.2.2.2.2.2.2.2.2.1 (s.2.1).toNat c j
  by_cases e : j = k
  · rw [uZ_at (by omega), uZ_at (by omega), uZ_at (by omega), e]; exact ⟨v1, v2, v3⟩
  · rw [uZ_n _ _ (by omega), uZ_n _ _ (by omega), uZ_n _ _ (by omega), e1 j e, e2 j e, e3 j e]; exact c1 j (by omega)
theorem rT.table {F F' st1 op1 mn1 ai1 fa1 mu1 tb1 ly1 : Nat → Int} {s : Int × Int × Int × (Nat → Int) × (Nat → Int) × (Nat → Int) × (Nat → Int) × (Nat → Int) × (Nat → Int) × (Nat → Int) × (Nat → Int) × (Nat → Nat → Int)} {tb2 : Nat → Int} (h : rT F st1 op1 mn1 ai1 fa1 mu1 tb1 ly1 s) (k : Nat) {v1 a : Int} (hk : v1 = (k : Int)) (ha : 0 ≤ a) (hF : F' 47 = s.1 ∧ F' 48 = s.2.1 ∧ F' 49 = s.2.2.1) (e1 : ∀ j, j ≠ k → tb2 j = tb1 j) (w1 : tb2 k = a) : rT F' st1 op1 mn1 ai1 fa1 mu1 tb2 ly1 (s.1, s.2.1, s.2.2.1, s.2.2.2.1, s.2.2.2.2.1, s.2.2.2.2.2.1, s.2.2.2.2.2.2.1, s.2.2.2.2.2.2.2.1, s.2.2.2.2.2.2.2.2.1, uZ s.2.2.2.2.2.2.2.2.2.1 v1.toNat a, uZ s.2.2.2.2.2.2.2.2.2.2.1 v1.toNat 1, s.2.2.2.2.2.2.2.2.2.2.2) := by
  obtain ⟨a1, b1, c1, d1, l1, z1⟩ := h
  refine ⟨hF, b1, c1, fun j hj => ?_, l1, z1⟩
  show (tb2 j = -1 ∧ uZ s.2.2.2.2.2.2.2.2.2.2.1 v1.toNat 1 j = 0 ∧ uZ s.2.2.2.2.2.2.2.2.2.1 v1.toNat a j = tabZ j) ∨ (0 ≤ tb2 j ∧ uZ s.2.2.2.2.2.2.2.2.2.2.1 v1.toNat 1 j = 1 ∧ uZ s.2.2.2.2.2.2.2.2.2.1 v1.toNat a j = tb2 j)
  by_cases e : j = k
  · rw [uZ_at (by omega), uZ_at (by omega), e, w1]; exact Or.inr ⟨ha, rfl, rfl⟩
  · rw [uZ_n _ _ (by omega), uZ_n _ _ (by omega), e1 j e]; exact d1 j hj
theorem rT.layer {F F' st1 op1 mn1 ai1 fa1 mu1 tb1 ly1 : Nat → Int} {s : Int × Int × Int × (Nat → Int) × (Nat → Int) × (Nat → Int) × (Nat → Int) × (Nat → Int) × (Nat → Int) × (Nat → Int) × (Nat → Int) × (Nat → Nat → Int)} {mn2 ly2 : Nat → Int} (h : rT F st1 op1 mn1 ai1 fa1 mu1 tb1 ly1 s) (k m q : Nat) {v1 kd i1 w1 d1 c1 : Int} (hk : v1 = (k : Int)) (hks : (k : Int) < s.1) (hm : mn1 k = (m : Int)) (hm2 : m < 12) (hq : q = 84 * k + 7 * m) (hM : ∀ j, j < 4 → 0 ≤ mn1 j ∧ mn1 j ≤ 12) (hs4 : s.1 ≤ 4) (hF : F' 47 = s.1 ∧ F' 48 = s.2.1 ∧ F' 49 = s.2.2.1 + 1) (e1 : ∀ j, j ≠ k → mn2 j = mn1 j) (x1 : mn2 k = mn1 k + 1) (e2 : ∀ j, j ≠ q → j ≠ q + 1 → j ≠ q + 2 → j ≠ q + 3 → j ≠ q + 4 → j ≠ q + 5 → j ≠ q + 6 → ly2 j = ly1 j) (y0 : ly2 q = kd) (y1 : ly2 (q + 1) = i1) (y2 : ly2 (q + 2) = w1) (y3 : ly2 (q + 3) = d1) (y4 : ly2 (q + 4) = c1) (y5 : ly2 (q + 5) = 0) (y6 : ly2 (q + 6) = s.2.2.1) : rT F' st1 op1 mn2 ai1 fa1 mu1 tb1 ly2 (s.1, s.2.1, s.2.2.1 + 1, uZ s.2.2.2.1 v1.toNat (s.2.2.2.1 v1.toNat + 1), s.2.2.2.2.1, s.2.2.2.2.2.1, s.2.2.2.2.2.2.1, s.2.2.2.2.2.2.2.1, s.2.2.2.2.2.2.2.2.1, s.2.2.2.2.2.2.2.2.2.1, s.2.2.2.2.2.2.2.2.2.2.1, (fun j => if j = v1.toNat then la_ (s.2.2.2.2.2.2.2.2.2.2.2 v1.toNat) (s.2.2.2.1 v1.toNat) kd i1 w1 d1 c1 s.2.2.1 else s.2.2.2.2.2.2.2.2.2.2.2 j)) := by
  obtain ⟨a1, b1, c1_, d1_, l1, z1⟩ := h
  have hkk : v1.toNat = k := by omega
  have hmk : s.2.2.2.1 k = (m : Int) := (b1 k hks).2.2.symm.trans hm
  refine ⟨hF, fun j hj => ?_, c1_, d1_, fun j l hj hl f hf => ?_, fun j hj => ?_⟩
  · show st1 j = s.2.2.2.2.1 j ∧ op1 j = s.2.2.2.2.2.1 j ∧ mn2 j = uZ s.2.2.2.1 v1.toNat (s.2.2.2.1 v1.toNat + 1) j
    have h9 := b1 j hj
    rw [hkk]
    by_cases e : j = k
    · rw [uZ_at e, e, x1, hm, hmk]
      rw [e] at h9
      exact ⟨h9.1, h9.2.1, rfl⟩
    · rw [uZ_n _ _ e, e1 j e]; exact h9
  · have hj9 : (j : Int) < s.1 := hj
    have hl9 : (l : Int) < uZ s.2.2.2.1 v1.toNat (s.2.2.2.1 v1.toNat + 1) j := hl
    have hbj := b1 j hj9
    have hMj := hM j (by omega)
    show ly2 (84 * j + 7 * l + f) = (if j = v1.toNat then la_ (s.2.2.2.2.2.2.2.2.2.2.2 v1.toNat) (s.2.2.2.1 v1.toNat) kd i1 w1 d1 c1 s.2.2.1 else s.2.2.2.2.2.2.2.2.2.2.2 j) (12 * f + l)
    rw [hkk] at hl9 ⊢
    by_cases e : j = k
    · rw [if_pos e, hmk]
      rw [uZ_at e, hmk] at hl9
      rw [la_at hm2 (by omega) hf]
      by_cases e7 : l = m
      · rw [if_pos e7]
        subst e
        subst e7
        rw [← hq]
        rcases (show f = 0 ∨ f = 1 ∨ f = 2 ∨ f = 3 ∨ f = 4 ∨ f = 5 ∨ f = 6 by omega) with rfl | rfl | rfl | rfl | rfl | rfl | rfl
        · exact y0
        · exact y1
        · exact y2
        · exact y3
        · exact y4
        · exact y5
        · exact y6
      · rw [if_neg e7]
        subst e
        rw [e2 _ (by omega) (by omega) (by omega) (by omega) (by omega) (by omega) (by omega)]
        exact l1 j l hj9 (by omega) f hf
    · rw [if_neg e]
      rw [uZ_n _ _ e] at hl9
      rw [e2 _ (by omega) (by omega) (by omega) (by omega) (by omega) (by omega) (by omega)]
      exact l1 j l hj9 hl9 f hf
  · show uZ s.2.2.2.1 v1.toNat (s.2.2.2.1 v1.toNat + 1) j = 0
    have hj9 : s.1 ≤ (j : Int) := hj
    rw [hkk, uZ_n _ _ (by omega)]
    exact z1 j hj9
/-- the reader's arrays and fields, and what they say -/
def xTx (cs : Nat → ClassId) (g : Nat → va_E) (i : Nat) (F : Nat → Int) (s : Int × Int × Int × (Nat → Int) × (Nat → Int) × (Nat → Int) × (Nat → Int) × (Nat → Int) × (Nat → Int) × (Nat → Int) × (Nat → Int) × (Nat → Nat → Int)) : Prop := ∃ st1 op1 mn1 ai1 fa1 mu1 tb1 ly1 : Nat → Int, (g (i + 16) = iA cs 4 st1 ∧ g (i + 17) = iA cs 4 op1 ∧ g (i + 18) = iA cs 4 mn1 ∧ g (i + 19) = iA cs 24 ai1 ∧ g (i + 20) = iA cs 24 fa1 ∧ g (i + 21) = iA cs 24 mu1 ∧ g (i + 22) = iA cs 15 tb1 ∧ g (i + 23) = iA cs 336 ly1) ∧ okT F op1 mn1 ai1 fa1 mu1 tb1 ly1 ∧ rT F st1 op1 mn1 ai1 fa1 mu1 tb1 ly1 s
theorem xTx.ok {cs : Nat → ClassId} {g : Nat → va_E} {i : Nat} {F : Nat → Int} {s : Int × Int × Int × (Nat → Int) × (Nat → Int) × (Nat → Int) × (Nat → Int) × (Nat → Int) × (Nat → Int) × (Nat → Int) × (Nat → Int) × (Nat → Nat → Int)} (h : xTx cs g i F s) : okTx cs g i F := by
  obtain ⟨st1, op1, mn1, ai1, fa1, mu1, tb1, ly1, h1, h2, h3⟩ := h
  exact ⟨st1, op1, mn1, ai1, fa1, mu1, tb1, ly1, h1, h2⟩
theorem xTx.mv {cs : Nat → ClassId} {g g' : Nat → va_E} {i : Nat} {F F' : Nat → Int} {s : Int × Int × Int × (Nat → Int) × (Nat → Int) × (Nat → Int) × (Nat → Int) × (Nat → Int) × (Nat → Int) × (Nat → Int) × (Nat → Int) × (Nat → Nat → Int)} (h : xTx cs g i F s) (hG : ∀ j, i + 16 ≤ j → j ≤ i + 23 → g' j = g j) (hF : F' 47 = F 47 ∧ F' 48 = F 48 ∧ F' 49 = F 49 ∧ F 32 ≤ F' 32) : xTx cs g' i F' s := by
  obtain ⟨st1, op1, mn1, ai1, fa1, mu1, tb1, ly1, ⟨h1, h2, h3, h4, h5, h6, h7, h8⟩, ⟨⟨a1, a2, a3⟩, a4, a5, a6, a7, a8, a9⟩, hr⟩ := h
  obtain ⟨f1, f2, f3, f4⟩ := hF
  refine ⟨st1, op1, mn1, ai1, fa1, mu1, tb1, ly1, ⟨by rw [hG _ (by omega) (by omega)]; exact h1, by rw [hG _ (by omega) (by omega)]; exact h2, by rw [hG _ (by omega) (by omega)]; exact h3, by rw [hG _ (by omega) (by omega)]; exact h4, by rw [hG _ (by omega) (by omega)]; exact h5, by rw [hG _ (by omega) (by omega)]; exact h6, by rw [hG _ (by omega) (by omega)]; exact h7, by rw [hG _ (by omega) (by omega)]; exact h8⟩, ⟨⟨by rw [f1]; exact a1, by rw [f2]; exact a2, by rw [f3]; omega⟩, a4, a5, a6, a7, a8, fun s l h => a9 s l (by rw [f1] at h; exact h)⟩, hr.F ⟨f1, f2, f3⟩⟩

